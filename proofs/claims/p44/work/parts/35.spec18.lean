section SP18
variable {G : MG} {d : Nat} {M : Mem}
theorem DJ.set {M M1 : Mem} {n s t : Nat} (h : DJ M n s t) (e : ∀ c s, (c ≠ 189 → M1.1 c s = M.1 c s) ∧ (M1.1 189 s = M.1 189 s)) : DJ M1 n s t := by
  obtain ⟨h1, h2, h3, h4, h5, h6, h7, h8, h9⟩ := h
  refine ⟨h1, (e 0 0).2.trans h2, fun i hi => ?_, h4, (e 0 1).2.trans h5, h6, (e 0 2).2.trans h7, fun i hi => ?_, fun i hi => ?_⟩
  · obtain ⟨r, z, hz, e2⟩ := h3 i hi
    exact ⟨r.cg fun s => (e _ s).1 (by omega), z, hz, ((e _ _).1 (by omega)).trans e2⟩
  · rw [(e _ _).1 (by omega)]; exact h8 i hi
  · rw [(e _ _).1 (by omega), (e _ _).1 (by omega)]; exact h9 i hi
theorem m0 {k : Nat} (hk : k < 32) : bt (msk (-1)) k = false := by
  rw [show msk (-1) = 0 from if_pos (by decide)]
  exact b_0 k
theorem mI {i k : Nat} (hi : i < 32) (hk : k < 32) : bt (msk (nI i)) k = decide (k = i) := by
  rw [show msk (nI i) = 1 <<< (nI i &&& 31) from if_neg (nI_pos (by omega)), bt_sh1 hi hk]
theorem contact_any (hG : Core G) {s : Nat} (hD : DI M s) (r ch b : Int32) : Any G (d + 6) 37 [.ref 0, .int r, .int ch, .int b] M (fun M' => DI M' s ∧ Fr dfB M M') := by
  obtain ⟨n, t, h1, h2, h3, h4, h5, h6, h7, h8, h9⟩ := hD
  have hP0 : DI M s ∧ Fr dfB M M := ⟨⟨n, t, h1, h2, h3, h4, h5, h6, h7, h8, h9⟩, Fr.rf⟩
  refine Any_start (d := d + 5) (by decide) mX9_contact ?_
  show E _ _ _ (0, [some (.ref 0), some (.int r), some (.int ch), some (.int b), none], [], M, 0) _
  refine E_aload_n fX9_contact_0 rfl (by decide) ?_
  refine E_getR (r' := 189) fX9_contact_1 (k0 hG) (by decide) (by decide) (by decide) rfl ?_
  refine E_iload_n fX9_contact_4 rfl ?_
  obtain ⟨vz1, Mz1, hRz1, hMz1, z1, rfl, hz1, xz1⟩ := hasRung_ok (d := d + 4) (M := M) hG (by omega) h2 r
  rw [hMz1] at hRz1
  refine E_callV (t := []) hRz1 fX9_contact_5 mX2_hasRung (rc_obj (k189 hG) (by decide) (by decide)) ⟨by decide, rfl⟩ rfl rfl (Nat.le_of_ble_eq_true rfl) ?_
  refine E_ifne (tg := 19) fX9_contact_8 (by decide) (fun c_8 => ?_) (fun c_8 => ?_)
  · refine E_ldcS fX9_contact_19 (by decide) ?_
    refine E_iload_n fX9_contact_21 rfl ?_
    obtain ⟨vx, Mx, hRx, hMx, xx, rfl⟩ := indexOf_1 (d := d + 1) (M := M) ch
    rw [hMx] at hRx
    refine E_callV (t := []) hRx fX9_contact_22 mJ0_indexOf_0f7a4 (rc_str ⟨by decide, by decide⟩) ⟨by decide, rfl⟩ rfl rfl (Nat.le_of_ble_eq_true rfl) ?_
    refine E_iflt (tg := 39) fX9_contact_25 (by decide) (fun c_25 => ?_) (fun c_25 => ?_)
    · refine E_iconst (v := 0) fX9_contact_39 (by decide) ?_
      exact E_thrS (t := []) (require_no (d := d + 4)) fX9_contact_40 (by decide) mX9_require ⟨rfl, rfl⟩ rfl rfl (Nat.le_of_ble_eq_true rfl) (RA.thr (by decide) hP0)
    · refine E_iload_n fX9_contact_28 rfl ?_
      refine E_callS (t := []) (isBit_ok (d := d + 3) b) fX9_contact_29 (by decide) mX9_isBit ⟨rfl, rfl⟩ rfl rfl (Nat.le_of_ble_eq_true rfl) ?_
      refine E_ifeq (tg := 39) fX9_contact_32 (by decide) (fun c_32 => ?_) (fun c_32 => ?_)
      · refine E_iconst (v := 0) fX9_contact_39 (by decide) ?_
        exact E_thrS (t := []) (require_no (d := d + 4)) fX9_contact_40 (by decide) mX9_require ⟨rfl, rfl⟩ rfl rfl (Nat.le_of_ble_eq_true rfl) (RA.thr (by decide) hP0)
      · refine E_iconst (v := 1) fX9_contact_35 (by decide) ?_
        refine E_goto (tg := 40) fX9_contact_36 (by decide) ?_
        refine E_callS (t := []) (require_ok (d := d + 4) (z := 1) (by decide)) fX9_contact_40 (by decide) mX9_require ⟨rfl, rfl⟩ rfl rfl (Nat.le_of_ble_eq_true rfl) ?_
        obtain ⟨i, hi, er⟩ := xz1 c_8
        have hi_i : i < 40 := by omega
        obtain ⟨cc, hcc, ec⟩ := (h3 i hi).1.2.2
        refine E_aload_n fX9_contact_43 rfl (by decide) ?_
        refine E_getR (r' := 189) fX9_contact_44 (k0 hG) (by decide) (by decide) (by decide) rfl ?_
        refine E_getR (r' := 190) fX9_contact_47 (k189 hG) (by decide) (by decide) (by decide) rfl ?_
        refine E_iload_n fX9_contact_50 rfl ?_
        refine E_aald (n := i) (r' := 193 + 3 * i) (K := 28) fX9_contact_51 (k190 hG) ⟨by decide, by decide⟩ (by decide) er (by show i < 40; omega) (by show 190 + (3 + 3 * i) = 193 + 3 * i; omega) ?_
        refine E_astore (L' := [some (.ref 0), some (.int r), some (.int ch), some (.int b), some (.ref (193 + 3 * i))]) fX9_contact_52 rfl (Nat.le_of_ble_eq_true rfl) (by have := (kdr0_lt hi_i); omega) ?_
        refine E_aload fX9_contact_54 rfl (by have := (kdr0_lt hi_i); omega) ?_
        refine E_getI fX9_contact_56 (kdr0 hG hi_i) (kdr0_lt hi_i) (by decide) (by decide) ?_
        refine E_iconst (v := 4) fX9_contact_59 (by decide) ?_
        refine E_iclt (tg := 71) fX9_contact_60 (by decide) (fun c_60 => ?_) (fun c_60 => ?_)
        · have hc4 : cc < 4 := by
            have := c_60
            rw [ec] at this
            exact (nI_ltI (b := 4) (by omega) (by decide)).mp this
          refine E_aload fX9_contact_71 rfl (by have := (kdr0_lt hi_i); omega) ?_
          refine E_getR (r' := 193 + 3 * i + 1) fX9_contact_73 (kdr0 hG hi_i) (kdr0_lt hi_i) (by decide) (by decide) rfl ?_
          refine E_aload fX9_contact_76 rfl (by have := (kdr0_lt hi_i); omega) ?_
          refine E_getI fX9_contact_78 (kdr0 hG hi_i) (kdr0_lt hi_i) (by decide) (by decide) ?_
          refine E_iload_n fX9_contact_81 rfl ?_
          refine E_cast (n := cc) (K := 26) fX9_contact_82 (kdr1 hG hi_i) ⟨by decide, by decide⟩ (kdr1_lt hi_i) ec (by show cc < 4; omega) ?_
          refine E_aload fX9_contact_83 rfl (by have := (kdr0_lt hi_i); omega) ?_
          refine E_getR (r' := 193 + 3 * i + 2) fX9_contact_85 (kdr0 hG hi_i) (kdr0_lt hi_i) (by decide) (by decide) rfl ?_
          refine E_aload fX9_contact_88 rfl (by have := (kdr0_lt hi_i); omega) ?_
          refine E_getI fX9_contact_90 (kdr0 hG hi_i) (kdr0_lt hi_i) (by decide) (by decide) ?_
          refine E_iload_n fX9_contact_93 rfl ?_
          refine E_iast (n := cc) (K := 24) fX9_contact_94 (kdr2 hG hi_i) ⟨by decide, by decide⟩ (kdr2_lt hi_i) ((pI_ne (Or.inl (by omega))).trans ec) (by show cc < 4; omega) ?_
          generalize hM2 : (pI (pI M (193 + 3 * i + 1) cc (vp_nar .char ch)) (193 + 3 * i + 2) cc b) = M2
          have o2 : ∀ c s, c ≠ 193 + 3 * i + 1 → c ≠ 193 + 3 * i + 2 → M2.1 c s = M.1 c s := fun c s a b => by rw [← hM2, pI_ne (Or.inl b), pI_ne (Or.inl a)]
          have F2 : Fr dfB M M2 := by
            rw [← hM2]
            exact (Fr.rf.pI (dfB_in (by omega))).pI (dfB_in (by omega))
          refine E_aload fX9_contact_95 rfl (by have := (kdr0_lt hi_i); omega) ?_
          refine E_dup fX9_contact_97 rfl ?_
          refine E_getI fX9_contact_98 (kdr0 hG hi_i) (kdr0_lt hi_i) (by decide) (by decide) ?_
          refine E_iconst (v := 1) fX9_contact_101 (by decide) ?_
          refine E_iadd fX9_contact_102 ?_
          refine E_putI fX9_contact_103 (kdr0 hG hi_i) (kdr0_lt hi_i) rfl ?_
          refine E_aload fX9_contact_106 rfl (by have := (kdr0_lt hi_i); omega) ?_
          refine E_getI fX9_contact_108 (kdr0 hG hi_i) (kdr0_lt hi_i) (by decide) (by decide) ?_
          refine R_iret fX9_contact_111 mX9_contact rfl (RA.ret ?_)
          have e0 : M2.1 (193 + 3 * i) 4 + 1 = nI (cc + 1) := by rw [o2 _ _ (by omega) (by omega), ec, nI_1]
          rw [e0]
          have w : ∀ c s, c ≠ 193 + 3 * i + 1 → c ≠ 193 + 3 * i + 2 → (c ≠ 193 + 3 * i ∨ s ≠ 4) → (pI M2 (193 + 3 * i) 4 (nI (cc + 1))).1 c s = M.1 c s := fun c s x y z => (pI_ne z).trans (o2 c s x y)
          refine ⟨⟨n, t, h1, (w _ _ (by omega) (by omega) (by omega)).trans h2, fun j hj => ?_, h4, (w _ _ (by omega) (by omega) (by omega)).trans h5, h6, (w _ _ (by omega) (by omega) (by omega)).trans h7, fun j hj => by rw [w _ _ (by omega) (by omega) (by omega)]; exact h8 j hj, fun j hj => by rw [w _ _ (by omega) (by omega) (by omega), w _ _ (by omega) (by omega) (by omega)]; exact h9 j hj⟩, F2.pI (dfB_in (by omega))⟩
          obtain ⟨⟨r1, r2, r3⟩, z, hz, r4⟩ := h3 j hj
          refine ⟨⟨fun hk => ?_, fun hk => ?_, ?_⟩, z, hz, (w _ _ (by omega) (by omega) (by omega)).trans r4⟩
          · rw [w _ _ (by omega) (by omega) (by omega)] at hk ⊢
            exact r1 hk
          · rw [w _ _ (by omega) (by omega) (by omega)] at hk ⊢
            exact r2 hk
          · by_cases e : j = i
            · subst e
              exact ⟨cc + 1, by omega, pI_at⟩
            · rw [w _ _ (by omega) (by omega) (by omega)]
              exact r3
        · exact E_new fX9_contact_63 (by decide) (RA.thr (by decide) hP0)
  · exact E_new fX9_contact_11 (by decide) (RA.thr (by decide) hP0)
theorem step_ok (hG : Core G) {s : Nat} (hs : s < 12) (hD : DI M s) : ∃ v M', Ret G (d + 1) 38 [.ref 0] M v M' ∧ ((∃ x, v = some (.int x)) ∧ DI M' (s + 1) ∧ Fr dfB M M') := by
  obtain ⟨n, t, h1, h2, h3, h4, h5, h6, h7, h8, h9⟩ := hD
  have hP0 : DI M s ∧ Fr dfB M M := ⟨⟨n, t, h1, h2, h3, h4, h5, h6, h7, h8, h9⟩, Fr.rf⟩
  refine X_start (d := d + 0) (by decide) mX9_step ?_
  show E _ _ _ (0, [some (.ref 0)], [], M, 0) _
  refine E_aload_n fX9_step_0 rfl (by decide) ?_
  refine E_getR (r' := 189) fX9_step_1 (k0 hG) (by decide) (by decide) (by decide) rfl ?_
  refine E_getI fX9_step_4 (k189 hG) (by decide) (by decide) (by decide) ?_
  refine E_bipush (v := 12) fX9_step_7 (by decide) ?_
  refine E_iclt (tg := 20) fX9_step_9 (by decide) (fun c_9 => ?_) (fun c => absurd (by rw [h5]; exact nI_lt (b := 12) hs (by decide)) c)
  refine E_aload_n fX9_step_20 rfl (by decide) ?_
  refine E_getR (r' := 189) fX9_step_21 (k0 hG) (by decide) (by decide) (by decide) rfl ?_
  refine E_getR (r' := 191) fX9_step_24 (k189 hG) (by decide) (by decide) (by decide) rfl ?_
  refine E_aload_n fX9_step_27 rfl (by decide) ?_
  refine E_getR (r' := 189) fX9_step_28 (k0 hG) (by decide) (by decide) (by decide) rfl ?_
  refine E_getI fX9_step_31 (k189 hG) (by decide) (by decide) (by decide) ?_
  refine E_aald (n := s) (r' := 313 + 4 * s) (K := 29) fX9_step_34 (k191 hG) ⟨by decide, by decide⟩ (by decide) h5 (by show s < 12; omega) (by show 191 + (122 + 4 * s) = 313 + 4 * s; omega) ?_
  refine E_iconst (v := 0) fX9_step_35 (by decide) ?_
  refine E_putI fX9_step_36 (kds0 hG hs) (kds0_lt hs) rfl ?_
  generalize hM2 : (pI M (313 + 4 * s) 0 0) = M2
  have o2 : ∀ c s0, (c ≠ 313 + 4 * s ∨ s0 ≠ 0) → M2.1 c s0 = M.1 c s0 := fun c s0 a => by rw [← hM2, pI_ne a]
  have v0 : M2.1 (313 + 4 * s) 0 = 0 := by rw [← hM2]; exact pI_at
  have F2 : Fr dfB M M2 := by
    rw [← hM2]
    exact Fr.rf.pI (dfB_in (by omega))
  refine E_aload_n fX9_step_39 rfl (by decide) ?_
  refine E_getR (r' := 189) fX9_step_40 (k0 hG) (by decide) (by decide) (by decide) rfl ?_
  refine E_dup fX9_step_43 rfl ?_
  refine E_getI fX9_step_44 (k189 hG) (by decide) (by decide) (by decide) ?_
  refine E_iconst (v := 1) fX9_step_47 (by decide) ?_
  refine E_iadd fX9_step_48 ?_
  refine E_putI fX9_step_49 (k189 hG) (by decide) rfl ?_
  refine E_aload_n fX9_step_52 rfl (by decide) ?_
  refine E_getR (r' := 189) fX9_step_53 (k0 hG) (by decide) (by decide) (by decide) rfl ?_
  refine E_getI fX9_step_56 (k189 hG) (by decide) (by decide) (by decide) ?_
  refine E_iconst (v := 1) fX9_step_59 (by decide) ?_
  refine E_isub fX9_step_60 ?_
  refine R_iret fX9_step_61 mX9_step rfl ⟨_, _, rfl, ⟨_, rfl⟩, ?_⟩
  have e0 : M2.1 189 1 + 1 = nI (s + 1) := by rw [o2 _ _ (by omega), h5, nI_1]
  rw [e0]
  have w : ∀ c s0, (c ≠ 313 + 4 * s ∨ s0 ≠ 0) → (c ≠ 189 ∨ s0 ≠ 1) → (pI M2 189 1 (nI (s + 1))).1 c s0 = M.1 c s0 := fun c s0 x y => (pI_ne y).trans (o2 c s0 x)
  refine ⟨⟨n, t, h1, (w _ _ (by omega) (by omega)).trans h2, fun j hj => ?_, by omega, pI_at, h6, (w _ _ (by omega) (by omega)).trans h7, fun j hj => ?_, fun j hj => ?_⟩, F2.pI (dfB_in (by omega))⟩
  · obtain ⟨r1, z, hz, r4⟩ := h3 j hj
    exact ⟨r1.cg fun s0 => w _ _ (by omega) (by omega), z, hz, (w _ _ (by omega) (by omega)).trans r4⟩
  · by_cases e : j = s
    · subst e
      exact ⟨0, by omega, (pI_ne (by omega)).trans v0⟩
    · rw [w _ _ (by omega) (by omega)]
      exact h8 j (by omega)
  · rw [w _ _ (by omega) (by omega), w _ _ (by omega) (by omega)]
    exact ⟨fun k hk hb => by have := (h9 j hj).1 k hk hb; omega, (h9 j hj).2⟩
theorem action_any (hG : Core G) {s : Nat} (hD : DI M s) (x ch b tm : Int32) : Any G (d + 6) 39 [.ref 0, .int x, .int ch, .int b, .int tm] M (fun M' => DI M' s ∧ Fr dfB M M') := by
  obtain ⟨n, t, h1, h2, h3, h4, h5, h6, h7, h8, h9⟩ := hD
  have hP0 : DI M s ∧ Fr dfB M M := ⟨⟨n, t, h1, h2, h3, h4, h5, h6, h7, h8, h9⟩, Fr.rf⟩
  refine Any_start (d := d + 5) (by decide) mX9_action ?_
  show E _ _ _ (0, [some (.ref 0), some (.int x), some (.int ch), some (.int b), some (.int tm), none], [], M, 0) _
  refine E_aload_n fX9_action_0 rfl (by decide) ?_
  refine E_getR (r' := 189) fX9_action_1 (k0 hG) (by decide) (by decide) (by decide) rfl ?_
  refine E_iload_n fX9_action_4 rfl ?_
  obtain ⟨vz1, Mz1, hRz1, hMz1, z1, rfl, hz1, xz1⟩ := hasStep_ok (d := d + 4) (M := M) hG (by omega) h5 x
  rw [hMz1] at hRz1
  refine E_callV (t := []) hRz1 fX9_action_5 mX2_hasStep (rc_obj (k189 hG) (by decide) (by decide)) ⟨by decide, rfl⟩ rfl rfl (Nat.le_of_ble_eq_true rfl) ?_
  refine E_ifne (tg := 19) fX9_action_8 (by decide) (fun c_8 => ?_) (fun c_8 => ?_)
  · refine E_ldcS fX9_action_19 (by decide) ?_
    refine E_iload_n fX9_action_21 rfl ?_
    obtain ⟨vx, Mx, hRx, hMx, xx, rfl⟩ := indexOf_2 (d := d + 1) (M := M) ch
    rw [hMx] at hRx
    refine E_callV (t := []) hRx fX9_action_22 mJ0_indexOf_0f7a4 (rc_str ⟨by decide, by decide⟩) ⟨by decide, rfl⟩ rfl rfl (Nat.le_of_ble_eq_true rfl) ?_
    refine E_iflt (tg := 39) fX9_action_25 (by decide) (fun c_25 => ?_) (fun c_25 => ?_)
    · refine E_iconst (v := 0) fX9_action_39 (by decide) ?_
      exact E_thrS (t := []) (require_no (d := d + 4)) fX9_action_40 (by decide) mX9_require ⟨rfl, rfl⟩ rfl rfl (Nat.le_of_ble_eq_true rfl) (RA.thr (by decide) hP0)
    · refine E_iload_n fX9_action_28 rfl ?_
      refine E_callS (t := []) (isWritable_ok (d := d + 3) b) fX9_action_29 (by decide) mX9_isWritable ⟨rfl, rfl⟩ rfl rfl (Nat.le_of_ble_eq_true rfl) ?_
      refine E_ifeq (tg := 39) fX9_action_32 (by decide) (fun c_32 => ?_) (fun c_32 => ?_)
      · refine E_iconst (v := 0) fX9_action_39 (by decide) ?_
        exact E_thrS (t := []) (require_no (d := d + 4)) fX9_action_40 (by decide) mX9_require ⟨rfl, rfl⟩ rfl rfl (Nat.le_of_ble_eq_true rfl) (RA.thr (by decide) hP0)
      · refine E_iconst (v := 1) fX9_action_35 (by decide) ?_
        refine E_goto (tg := 40) fX9_action_36 (by decide) ?_
        refine E_callS (t := []) (require_ok (d := d + 4) (z := 1) (by decide)) fX9_action_40 (by decide) mX9_require ⟨rfl, rfl⟩ rfl rfl (Nat.le_of_ble_eq_true rfl) ?_
        refine E_iload_n fX9_action_43 rfl ?_
        refine E_bipush (v := 100) fX9_action_44 (by decide) ?_
        refine E_iceq (tg := 55) fX9_action_46 (by decide) (fun c_46 => ?_) (fun c_46 => ?_)
        · refine E_iload fX9_action_55 rfl ?_
          refine E_iconst (v := 1) fX9_action_57 (by decide) ?_
          refine E_sipush (v := 999) fX9_action_58 (by decide) ?_
          refine E_callS (t := []) (isBetween_ok (d := d + 4) tm 1 999) fX9_action_61 (by decide) mX9_isBetween ⟨rfl, rfl⟩ rfl rfl (Nat.le_of_ble_eq_true rfl) ?_
          refine E_ifeq (tg := 71) fX9_action_64 (by decide) (fun c_64 => ?_) (fun c_64 => ?_)
          · refine E_iconst (v := 0) fX9_action_71 (by decide) ?_
            exact E_thrS (t := []) (require_no (d := d + 4)) fX9_action_72 (by decide) mX9_require ⟨rfl, rfl⟩ rfl rfl (Nat.le_of_ble_eq_true rfl) (RA.thr (by decide) hP0)
          · refine E_iconst (v := 1) fX9_action_67 (by decide) ?_
            refine E_goto (tg := 72) fX9_action_68 (by decide) ?_
            refine E_callS (t := []) (require_ok (d := d + 4) (z := 1) (by decide)) fX9_action_72 (by decide) mX9_require ⟨rfl, rfl⟩ rfl rfl (Nat.le_of_ble_eq_true rfl) ?_
            obtain ⟨i, hi, er⟩ := xz1 c_8
            have hi_i : i < 12 := by omega
            obtain ⟨cc, hcc, ec⟩ := h8 i hi
            refine E_aload_n fX9_action_75 rfl (by decide) ?_
            refine E_getR (r' := 189) fX9_action_76 (k0 hG) (by decide) (by decide) (by decide) rfl ?_
            refine E_getR (r' := 191) fX9_action_79 (k189 hG) (by decide) (by decide) (by decide) rfl ?_
            refine E_iload_n fX9_action_82 rfl ?_
            refine E_aald (n := i) (r' := 313 + 4 * i) (K := 29) fX9_action_83 (k191 hG) ⟨by decide, by decide⟩ (by decide) er (by show i < 12; omega) (by show 191 + (122 + 4 * i) = 313 + 4 * i; omega) ?_
            refine E_astore (L' := [some (.ref 0), some (.int x), some (.int ch), some (.int b), some (.int tm), some (.ref (313 + 4 * i))]) fX9_action_84 rfl (Nat.le_of_ble_eq_true rfl) (by have := (kds0_lt hi_i); omega) ?_
            refine E_aload fX9_action_86 rfl (by have := (kds0_lt hi_i); omega) ?_
            refine E_getI fX9_action_88 (kds0 hG hi_i) (kds0_lt hi_i) (by decide) (by decide) ?_
            refine E_iconst (v := 3) fX9_action_91 (by decide) ?_
            refine E_iclt (tg := 103) fX9_action_92 (by decide) (fun c_92 => ?_) (fun c_92 => ?_)
            · have hc4 : cc < 3 := by
                have := c_92
                rw [ec] at this
                exact (nI_ltI (b := 3) (by omega) (by decide)).mp this
              refine E_aload fX9_action_103 rfl (by have := (kds0_lt hi_i); omega) ?_
              refine E_getR (r' := 313 + 4 * i + 1) fX9_action_105 (kds0 hG hi_i) (kds0_lt hi_i) (by decide) (by decide) rfl ?_
              refine E_aload fX9_action_108 rfl (by have := (kds0_lt hi_i); omega) ?_
              refine E_getI fX9_action_110 (kds0 hG hi_i) (kds0_lt hi_i) (by decide) (by decide) ?_
              refine E_iload_n fX9_action_113 rfl ?_
              refine E_cast (n := cc) (K := 27) fX9_action_114 (kds1 hG hi_i) ⟨by decide, by decide⟩ (kds1_lt hi_i) ec (by show cc < 3; omega) ?_
              refine E_aload fX9_action_115 rfl (by have := (kds0_lt hi_i); omega) ?_
              refine E_getR (r' := 313 + 4 * i + 2) fX9_action_117 (kds0 hG hi_i) (kds0_lt hi_i) (by decide) (by decide) rfl ?_
              refine E_aload fX9_action_120 rfl (by have := (kds0_lt hi_i); omega) ?_
              refine E_getI fX9_action_122 (kds0 hG hi_i) (kds0_lt hi_i) (by decide) (by decide) ?_
              refine E_iload_n fX9_action_125 rfl ?_
              refine E_iast (n := cc) (K := 25) fX9_action_126 (kds2 hG hi_i) ⟨by decide, by decide⟩ (kds2_lt hi_i) ((pI_ne (Or.inl (by omega))).trans ec) (by show cc < 3; omega) ?_
              refine E_aload fX9_action_127 rfl (by have := (kds0_lt hi_i); omega) ?_
              refine E_getR (r' := 313 + 4 * i + 3) fX9_action_129 (kds0 hG hi_i) (kds0_lt hi_i) (by decide) (by decide) rfl ?_
              refine E_aload fX9_action_132 rfl (by have := (kds0_lt hi_i); omega) ?_
              refine E_getI fX9_action_134 (kds0 hG hi_i) (kds0_lt hi_i) (by decide) (by decide) ?_
              refine E_iload fX9_action_137 rfl ?_
              refine E_iast (n := cc) (K := 25) fX9_action_139 (kds3 hG hi_i) ⟨by decide, by decide⟩ (kds3_lt hi_i) ((pI_ne (Or.inl (by omega))).trans ((pI_ne (Or.inl (by omega))).trans ec)) (by show cc < 3; omega) ?_
              generalize hM2 : (pI (pI (pI M (313 + 4 * i + 1) cc (vp_nar .char ch)) (313 + 4 * i + 2) cc b) (313 + 4 * i + 3) cc tm) = M2
              have o2 : ∀ c s, c ≠ 313 + 4 * i + 1 → c ≠ 313 + 4 * i + 2 → c ≠ 313 + 4 * i + 3 → M2.1 c s = M.1 c s := fun c s a b e => by rw [← hM2, pI_ne (Or.inl e), pI_ne (Or.inl b), pI_ne (Or.inl a)]
              have F2 : Fr dfB M M2 := by
                rw [← hM2]
                exact ((Fr.rf.pI (dfB_in (by omega))).pI (dfB_in (by omega))).pI (dfB_in (by omega))
              refine E_aload fX9_action_140 rfl (by have := (kds0_lt hi_i); omega) ?_
              refine E_dup fX9_action_142 rfl ?_
              refine E_getI fX9_action_143 (kds0 hG hi_i) (kds0_lt hi_i) (by decide) (by decide) ?_
              refine E_iconst (v := 1) fX9_action_146 (by decide) ?_
              refine E_iadd fX9_action_147 ?_
              refine E_putI fX9_action_148 (kds0 hG hi_i) (kds0_lt hi_i) rfl ?_
              refine E_aload fX9_action_151 rfl (by have := (kds0_lt hi_i); omega) ?_
              refine E_getI fX9_action_153 (kds0 hG hi_i) (kds0_lt hi_i) (by decide) (by decide) ?_
              refine R_iret fX9_action_156 mX9_action rfl (RA.ret ?_)
              have e0 : M2.1 (313 + 4 * i) 0 + 1 = nI (cc + 1) := by rw [o2 _ _ (by omega) (by omega) (by omega), ec, nI_1]
              rw [e0]
              have w : ∀ c s, c ≠ 313 + 4 * i + 1 → c ≠ 313 + 4 * i + 2 → c ≠ 313 + 4 * i + 3 → (c ≠ 313 + 4 * i ∨ s ≠ 0) → (pI M2 (313 + 4 * i) 0 (nI (cc + 1))).1 c s = M.1 c s := fun c s x y u z => (pI_ne z).trans (o2 c s x y u)
              refine ⟨⟨n, t, h1, (w _ _ (by omega) (by omega) (by omega) (by omega)).trans h2, fun j hj => ?_, h4, (w _ _ (by omega) (by omega) (by omega) (by omega)).trans h5, h6, (w _ _ (by omega) (by omega) (by omega) (by omega)).trans h7, fun j hj => ?_, fun j hj => by rw [w _ _ (by omega) (by omega) (by omega) (by omega), w _ _ (by omega) (by omega) (by omega) (by omega)]; exact h9 j hj⟩, F2.pI (dfB_in (by omega))⟩
              · obtain ⟨r1, z, hz, r4⟩ := h3 j hj
                exact ⟨r1.cg fun s0 => w _ _ (by omega) (by omega) (by omega) (by omega), z, hz, (w _ _ (by omega) (by omega) (by omega) (by omega)).trans r4⟩
              · by_cases e : j = i
                · subst e
                  exact ⟨cc + 1, by omega, pI_at⟩
                · rw [w _ _ (by omega) (by omega) (by omega) (by omega)]
                  exact h8 j hj
            · exact E_new fX9_action_95 (by decide) (RA.thr (by decide) hP0)
        · refine E_iload_n fX9_action_49 rfl ?_
          refine E_bipush (v := 108) fX9_action_50 (by decide) ?_
          refine E_icne (tg := 67) fX9_action_52 (by decide) (fun c_52 => ?_) (fun c_52 => ?_)
          · refine E_iconst (v := 1) fX9_action_67 (by decide) ?_
            refine E_goto (tg := 72) fX9_action_68 (by decide) ?_
            refine E_callS (t := []) (require_ok (d := d + 4) (z := 1) (by decide)) fX9_action_72 (by decide) mX9_require ⟨rfl, rfl⟩ rfl rfl (Nat.le_of_ble_eq_true rfl) ?_
            obtain ⟨i, hi, er⟩ := xz1 c_8
            have hi_i : i < 12 := by omega
            obtain ⟨cc, hcc, ec⟩ := h8 i hi
            refine E_aload_n fX9_action_75 rfl (by decide) ?_
            refine E_getR (r' := 189) fX9_action_76 (k0 hG) (by decide) (by decide) (by decide) rfl ?_
            refine E_getR (r' := 191) fX9_action_79 (k189 hG) (by decide) (by decide) (by decide) rfl ?_
            refine E_iload_n fX9_action_82 rfl ?_
            refine E_aald (n := i) (r' := 313 + 4 * i) (K := 29) fX9_action_83 (k191 hG) ⟨by decide, by decide⟩ (by decide) er (by show i < 12; omega) (by show 191 + (122 + 4 * i) = 313 + 4 * i; omega) ?_
            refine E_astore (L' := [some (.ref 0), some (.int x), some (.int ch), some (.int b), some (.int tm), some (.ref (313 + 4 * i))]) fX9_action_84 rfl (Nat.le_of_ble_eq_true rfl) (by have := (kds0_lt hi_i); omega) ?_
            refine E_aload fX9_action_86 rfl (by have := (kds0_lt hi_i); omega) ?_
            refine E_getI fX9_action_88 (kds0 hG hi_i) (kds0_lt hi_i) (by decide) (by decide) ?_
            refine E_iconst (v := 3) fX9_action_91 (by decide) ?_
            refine E_iclt (tg := 103) fX9_action_92 (by decide) (fun c_92 => ?_) (fun c_92 => ?_)
            · have hc4 : cc < 3 := by
                have := c_92
                rw [ec] at this
                exact (nI_ltI (b := 3) (by omega) (by decide)).mp this
              refine E_aload fX9_action_103 rfl (by have := (kds0_lt hi_i); omega) ?_
              refine E_getR (r' := 313 + 4 * i + 1) fX9_action_105 (kds0 hG hi_i) (kds0_lt hi_i) (by decide) (by decide) rfl ?_
              refine E_aload fX9_action_108 rfl (by have := (kds0_lt hi_i); omega) ?_
              refine E_getI fX9_action_110 (kds0 hG hi_i) (kds0_lt hi_i) (by decide) (by decide) ?_
              refine E_iload_n fX9_action_113 rfl ?_
              refine E_cast (n := cc) (K := 27) fX9_action_114 (kds1 hG hi_i) ⟨by decide, by decide⟩ (kds1_lt hi_i) ec (by show cc < 3; omega) ?_
              refine E_aload fX9_action_115 rfl (by have := (kds0_lt hi_i); omega) ?_
              refine E_getR (r' := 313 + 4 * i + 2) fX9_action_117 (kds0 hG hi_i) (kds0_lt hi_i) (by decide) (by decide) rfl ?_
              refine E_aload fX9_action_120 rfl (by have := (kds0_lt hi_i); omega) ?_
              refine E_getI fX9_action_122 (kds0 hG hi_i) (kds0_lt hi_i) (by decide) (by decide) ?_
              refine E_iload_n fX9_action_125 rfl ?_
              refine E_iast (n := cc) (K := 25) fX9_action_126 (kds2 hG hi_i) ⟨by decide, by decide⟩ (kds2_lt hi_i) ((pI_ne (Or.inl (by omega))).trans ec) (by show cc < 3; omega) ?_
              refine E_aload fX9_action_127 rfl (by have := (kds0_lt hi_i); omega) ?_
              refine E_getR (r' := 313 + 4 * i + 3) fX9_action_129 (kds0 hG hi_i) (kds0_lt hi_i) (by decide) (by decide) rfl ?_
              refine E_aload fX9_action_132 rfl (by have := (kds0_lt hi_i); omega) ?_
              refine E_getI fX9_action_134 (kds0 hG hi_i) (kds0_lt hi_i) (by decide) (by decide) ?_
              refine E_iload fX9_action_137 rfl ?_
              refine E_iast (n := cc) (K := 25) fX9_action_139 (kds3 hG hi_i) ⟨by decide, by decide⟩ (kds3_lt hi_i) ((pI_ne (Or.inl (by omega))).trans ((pI_ne (Or.inl (by omega))).trans ec)) (by show cc < 3; omega) ?_
              generalize hM2 : (pI (pI (pI M (313 + 4 * i + 1) cc (vp_nar .char ch)) (313 + 4 * i + 2) cc b) (313 + 4 * i + 3) cc tm) = M2
              have o2 : ∀ c s, c ≠ 313 + 4 * i + 1 → c ≠ 313 + 4 * i + 2 → c ≠ 313 + 4 * i + 3 → M2.1 c s = M.1 c s := fun c s a b e => by rw [← hM2, pI_ne (Or.inl e), pI_ne (Or.inl b), pI_ne (Or.inl a)]
              have F2 : Fr dfB M M2 := by
                rw [← hM2]
                exact ((Fr.rf.pI (dfB_in (by omega))).pI (dfB_in (by omega))).pI (dfB_in (by omega))
              refine E_aload fX9_action_140 rfl (by have := (kds0_lt hi_i); omega) ?_
              refine E_dup fX9_action_142 rfl ?_
              refine E_getI fX9_action_143 (kds0 hG hi_i) (kds0_lt hi_i) (by decide) (by decide) ?_
              refine E_iconst (v := 1) fX9_action_146 (by decide) ?_
              refine E_iadd fX9_action_147 ?_
              refine E_putI fX9_action_148 (kds0 hG hi_i) (kds0_lt hi_i) rfl ?_
              refine E_aload fX9_action_151 rfl (by have := (kds0_lt hi_i); omega) ?_
              refine E_getI fX9_action_153 (kds0 hG hi_i) (kds0_lt hi_i) (by decide) (by decide) ?_
              refine R_iret fX9_action_156 mX9_action rfl (RA.ret ?_)
              have e0 : M2.1 (313 + 4 * i) 0 + 1 = nI (cc + 1) := by rw [o2 _ _ (by omega) (by omega) (by omega), ec, nI_1]
              rw [e0]
              have w : ∀ c s, c ≠ 313 + 4 * i + 1 → c ≠ 313 + 4 * i + 2 → c ≠ 313 + 4 * i + 3 → (c ≠ 313 + 4 * i ∨ s ≠ 0) → (pI M2 (313 + 4 * i) 0 (nI (cc + 1))).1 c s = M.1 c s := fun c s x y u z => (pI_ne z).trans (o2 c s x y u)
              refine ⟨⟨n, t, h1, (w _ _ (by omega) (by omega) (by omega) (by omega)).trans h2, fun j hj => ?_, h4, (w _ _ (by omega) (by omega) (by omega) (by omega)).trans h5, h6, (w _ _ (by omega) (by omega) (by omega) (by omega)).trans h7, fun j hj => ?_, fun j hj => by rw [w _ _ (by omega) (by omega) (by omega) (by omega), w _ _ (by omega) (by omega) (by omega) (by omega)]; exact h9 j hj⟩, F2.pI (dfB_in (by omega))⟩
              · obtain ⟨r1, z, hz, r4⟩ := h3 j hj
                exact ⟨r1.cg fun s0 => w _ _ (by omega) (by omega) (by omega) (by omega), z, hz, (w _ _ (by omega) (by omega) (by omega) (by omega)).trans r4⟩
              · by_cases e : j = i
                · subst e
                  exact ⟨cc + 1, by omega, pI_at⟩
                · rw [w _ _ (by omega) (by omega) (by omega) (by omega)]
                  exact h8 j hj
            · exact E_new fX9_action_95 (by decide) (RA.thr (by decide) hP0)
          · refine E_iload fX9_action_55 rfl ?_
            refine E_iconst (v := 1) fX9_action_57 (by decide) ?_
            refine E_sipush (v := 999) fX9_action_58 (by decide) ?_
            refine E_callS (t := []) (isBetween_ok (d := d + 4) tm 1 999) fX9_action_61 (by decide) mX9_isBetween ⟨rfl, rfl⟩ rfl rfl (Nat.le_of_ble_eq_true rfl) ?_
            refine E_ifeq (tg := 71) fX9_action_64 (by decide) (fun c_64 => ?_) (fun c_64 => ?_)
            · refine E_iconst (v := 0) fX9_action_71 (by decide) ?_
              exact E_thrS (t := []) (require_no (d := d + 4)) fX9_action_72 (by decide) mX9_require ⟨rfl, rfl⟩ rfl rfl (Nat.le_of_ble_eq_true rfl) (RA.thr (by decide) hP0)
            · refine E_iconst (v := 1) fX9_action_67 (by decide) ?_
              refine E_goto (tg := 72) fX9_action_68 (by decide) ?_
              refine E_callS (t := []) (require_ok (d := d + 4) (z := 1) (by decide)) fX9_action_72 (by decide) mX9_require ⟨rfl, rfl⟩ rfl rfl (Nat.le_of_ble_eq_true rfl) ?_
              obtain ⟨i, hi, er⟩ := xz1 c_8
              have hi_i : i < 12 := by omega
              obtain ⟨cc, hcc, ec⟩ := h8 i hi
              refine E_aload_n fX9_action_75 rfl (by decide) ?_
              refine E_getR (r' := 189) fX9_action_76 (k0 hG) (by decide) (by decide) (by decide) rfl ?_
              refine E_getR (r' := 191) fX9_action_79 (k189 hG) (by decide) (by decide) (by decide) rfl ?_
              refine E_iload_n fX9_action_82 rfl ?_
              refine E_aald (n := i) (r' := 313 + 4 * i) (K := 29) fX9_action_83 (k191 hG) ⟨by decide, by decide⟩ (by decide) er (by show i < 12; omega) (by show 191 + (122 + 4 * i) = 313 + 4 * i; omega) ?_
              refine E_astore (L' := [some (.ref 0), some (.int x), some (.int ch), some (.int b), some (.int tm), some (.ref (313 + 4 * i))]) fX9_action_84 rfl (Nat.le_of_ble_eq_true rfl) (by have := (kds0_lt hi_i); omega) ?_
              refine E_aload fX9_action_86 rfl (by have := (kds0_lt hi_i); omega) ?_
              refine E_getI fX9_action_88 (kds0 hG hi_i) (kds0_lt hi_i) (by decide) (by decide) ?_
              refine E_iconst (v := 3) fX9_action_91 (by decide) ?_
              refine E_iclt (tg := 103) fX9_action_92 (by decide) (fun c_92 => ?_) (fun c_92 => ?_)
              · have hc4 : cc < 3 := by
                  have := c_92
                  rw [ec] at this
                  exact (nI_ltI (b := 3) (by omega) (by decide)).mp this
                refine E_aload fX9_action_103 rfl (by have := (kds0_lt hi_i); omega) ?_
                refine E_getR (r' := 313 + 4 * i + 1) fX9_action_105 (kds0 hG hi_i) (kds0_lt hi_i) (by decide) (by decide) rfl ?_
                refine E_aload fX9_action_108 rfl (by have := (kds0_lt hi_i); omega) ?_
                refine E_getI fX9_action_110 (kds0 hG hi_i) (kds0_lt hi_i) (by decide) (by decide) ?_
                refine E_iload_n fX9_action_113 rfl ?_
                refine E_cast (n := cc) (K := 27) fX9_action_114 (kds1 hG hi_i) ⟨by decide, by decide⟩ (kds1_lt hi_i) ec (by show cc < 3; omega) ?_
                refine E_aload fX9_action_115 rfl (by have := (kds0_lt hi_i); omega) ?_
                refine E_getR (r' := 313 + 4 * i + 2) fX9_action_117 (kds0 hG hi_i) (kds0_lt hi_i) (by decide) (by decide) rfl ?_
                refine E_aload fX9_action_120 rfl (by have := (kds0_lt hi_i); omega) ?_
                refine E_getI fX9_action_122 (kds0 hG hi_i) (kds0_lt hi_i) (by decide) (by decide) ?_
                refine E_iload_n fX9_action_125 rfl ?_
                refine E_iast (n := cc) (K := 25) fX9_action_126 (kds2 hG hi_i) ⟨by decide, by decide⟩ (kds2_lt hi_i) ((pI_ne (Or.inl (by omega))).trans ec) (by show cc < 3; omega) ?_
                refine E_aload fX9_action_127 rfl (by have := (kds0_lt hi_i); omega) ?_
                refine E_getR (r' := 313 + 4 * i + 3) fX9_action_129 (kds0 hG hi_i) (kds0_lt hi_i) (by decide) (by decide) rfl ?_
                refine E_aload fX9_action_132 rfl (by have := (kds0_lt hi_i); omega) ?_
                refine E_getI fX9_action_134 (kds0 hG hi_i) (kds0_lt hi_i) (by decide) (by decide) ?_
                refine E_iload fX9_action_137 rfl ?_
                refine E_iast (n := cc) (K := 25) fX9_action_139 (kds3 hG hi_i) ⟨by decide, by decide⟩ (kds3_lt hi_i) ((pI_ne (Or.inl (by omega))).trans ((pI_ne (Or.inl (by omega))).trans ec)) (by show cc < 3; omega) ?_
                generalize hM2 : (pI (pI (pI M (313 + 4 * i + 1) cc (vp_nar .char ch)) (313 + 4 * i + 2) cc b) (313 + 4 * i + 3) cc tm) = M2
                have o2 : ∀ c s, c ≠ 313 + 4 * i + 1 → c ≠ 313 + 4 * i + 2 → c ≠ 313 + 4 * i + 3 → M2.1 c s = M.1 c s := fun c s a b e => by rw [← hM2, pI_ne (Or.inl e), pI_ne (Or.inl b), pI_ne (Or.inl a)]
                have F2 : Fr dfB M M2 := by
                  rw [← hM2]
                  exact ((Fr.rf.pI (dfB_in (by omega))).pI (dfB_in (by omega))).pI (dfB_in (by omega))
                refine E_aload fX9_action_140 rfl (by have := (kds0_lt hi_i); omega) ?_
                refine E_dup fX9_action_142 rfl ?_
                refine E_getI fX9_action_143 (kds0 hG hi_i) (kds0_lt hi_i) (by decide) (by decide) ?_
                refine E_iconst (v := 1) fX9_action_146 (by decide) ?_
                refine E_iadd fX9_action_147 ?_
                refine E_putI fX9_action_148 (kds0 hG hi_i) (kds0_lt hi_i) rfl ?_
                refine E_aload fX9_action_151 rfl (by have := (kds0_lt hi_i); omega) ?_
                refine E_getI fX9_action_153 (kds0 hG hi_i) (kds0_lt hi_i) (by decide) (by decide) ?_
                refine R_iret fX9_action_156 mX9_action rfl (RA.ret ?_)
                have e0 : M2.1 (313 + 4 * i) 0 + 1 = nI (cc + 1) := by rw [o2 _ _ (by omega) (by omega) (by omega), ec, nI_1]
                rw [e0]
                have w : ∀ c s, c ≠ 313 + 4 * i + 1 → c ≠ 313 + 4 * i + 2 → c ≠ 313 + 4 * i + 3 → (c ≠ 313 + 4 * i ∨ s ≠ 0) → (pI M2 (313 + 4 * i) 0 (nI (cc + 1))).1 c s = M.1 c s := fun c s x y u z => (pI_ne z).trans (o2 c s x y u)
                refine ⟨⟨n, t, h1, (w _ _ (by omega) (by omega) (by omega) (by omega)).trans h2, fun j hj => ?_, h4, (w _ _ (by omega) (by omega) (by omega) (by omega)).trans h5, h6, (w _ _ (by omega) (by omega) (by omega) (by omega)).trans h7, fun j hj => ?_, fun j hj => by rw [w _ _ (by omega) (by omega) (by omega) (by omega), w _ _ (by omega) (by omega) (by omega) (by omega)]; exact h9 j hj⟩, F2.pI (dfB_in (by omega))⟩
                · obtain ⟨r1, z, hz, r4⟩ := h3 j hj
                  exact ⟨r1.cg fun s0 => w _ _ (by omega) (by omega) (by omega) (by omega), z, hz, (w _ _ (by omega) (by omega) (by omega) (by omega)).trans r4⟩
                · by_cases e : j = i
                  · subst e
                    exact ⟨cc + 1, by omega, pI_at⟩
                  · rw [w _ _ (by omega) (by omega) (by omega) (by omega)]
                    exact h8 j hj
              · exact E_new fX9_action_95 (by decide) (RA.thr (by decide) hP0)
  · exact E_new fX9_action_11 (by decide) (RA.thr (by decide) hP0)
theorem transition_any (hG : Core G) {s : Nat} (hD : DI M s) (x1 x2 x3 x4 b z : Int32) (hz : z = 0 ∨ z = 1) : Any G (d + 6) 40 [.ref 0, .int x1, .int x2, .int x3, .int x4, .int b, .int z] M (fun M' => DI M' s ∧ Fr dfB M M') := by
  obtain ⟨n, t, h1, h2, h3, h4, h5, h6, h7, h8, h9⟩ := hD
  have hP0 : DI M s ∧ Fr dfB M M := ⟨⟨n, t, h1, h2, h3, h4, h5, h6, h7, h8, h9⟩, Fr.rf⟩
  refine Any_start (d := d + 5) (by decide) mX9_transition ?_
  show E _ _ _ (0, [some (.ref 0), some (.int x1), some (.int x2), some (.int x3), some (.int x4), some (.int b), some (.int z), none], [], M, 0) _
  refine E_aload_n fX9_transition_0 rfl (by decide) ?_
  refine E_getR (r' := 189) fX9_transition_1 (k0 hG) (by decide) (by decide) (by decide) rfl ?_
  refine E_iload_n fX9_transition_4 rfl ?_
  obtain ⟨vy1, My1, hRy1, hMy1, y1, rfl, hy1, xy1⟩ := hasStep_ok (d := d + 4) (M := M) hG (by omega) h5 x1
  rw [hMy1] at hRy1
  refine E_callV (t := []) hRy1 fX9_transition_5 mX2_hasStep (rc_obj (k189 hG) (by decide) (by decide)) ⟨by decide, rfl⟩ rfl rfl (Nat.le_of_ble_eq_true rfl) ?_
  refine E_ifeq (tg := 45) fX9_transition_8 (by decide) (fun c_8 => ?_) (fun c_8 => ?_)
  · exact E_new fX9_transition_45 (by decide) (RA.thr (by decide) hP0)
  · refine E_aload_n fX9_transition_11 rfl (by decide) ?_
    refine E_getR (r' := 189) fX9_transition_12 (k0 hG) (by decide) (by decide) (by decide) rfl ?_
    refine E_iload_n fX9_transition_15 rfl ?_
    obtain ⟨vy2, My2, hRy2, hMy2, y2, rfl, hy2, xy2⟩ := hasStepOrNone_ok (d := d + 3) (M := M) hG (by omega) h5 x2
    rw [hMy2] at hRy2
    refine E_callV (t := []) hRy2 fX9_transition_16 mX2_hasStepOrNone (rc_obj (k189 hG) (by decide) (by decide)) ⟨by decide, rfl⟩ rfl rfl (Nat.le_of_ble_eq_true rfl) ?_
    refine E_ifeq (tg := 45) fX9_transition_19 (by decide) (fun c_19 => ?_) (fun c_19 => ?_)
    · exact E_new fX9_transition_45 (by decide) (RA.thr (by decide) hP0)
    · refine E_aload_n fX9_transition_22 rfl (by decide) ?_
      refine E_getR (r' := 189) fX9_transition_23 (k0 hG) (by decide) (by decide) (by decide) rfl ?_
      refine E_iload_n fX9_transition_26 rfl ?_
      obtain ⟨vy3, My3, hRy3, hMy3, y3, rfl, hy3, xy3⟩ := hasStep_ok (d := d + 4) (M := M) hG (by omega) h5 x3
      rw [hMy3] at hRy3
      refine E_callV (t := []) hRy3 fX9_transition_27 mX2_hasStep (rc_obj (k189 hG) (by decide) (by decide)) ⟨by decide, rfl⟩ rfl rfl (Nat.le_of_ble_eq_true rfl) ?_
      refine E_ifeq (tg := 45) fX9_transition_30 (by decide) (fun c_30 => ?_) (fun c_30 => ?_)
      · exact E_new fX9_transition_45 (by decide) (RA.thr (by decide) hP0)
      · refine E_aload_n fX9_transition_33 rfl (by decide) ?_
        refine E_getR (r' := 189) fX9_transition_34 (k0 hG) (by decide) (by decide) (by decide) rfl ?_
        refine E_iload fX9_transition_37 rfl ?_
        obtain ⟨vy4, My4, hRy4, hMy4, y4, rfl, hy4, xy4⟩ := hasStepOrNone_ok (d := d + 3) (M := M) hG (by omega) h5 x4
        rw [hMy4] at hRy4
        refine E_callV (t := []) hRy4 fX9_transition_39 mX2_hasStepOrNone (rc_obj (k189 hG) (by decide) (by decide)) ⟨by decide, rfl⟩ rfl rfl (Nat.le_of_ble_eq_true rfl) ?_
        refine E_ifne (tg := 53) fX9_transition_42 (by decide) (fun c_42 => ?_) (fun c_42 => ?_)
        · refine E_iload fX9_transition_53 rfl ?_
          refine E_callS (t := []) (isBit_ok (d := d + 3) b) fX9_transition_55 (by decide) mX9_isBit ⟨rfl, rfl⟩ rfl rfl (Nat.le_of_ble_eq_true rfl) ?_
          refine E_ifeq (tg := 76) fX9_transition_58 (by decide) (fun c_58 => ?_) (fun c_58 => ?_)
          · refine E_iconst (v := 0) fX9_transition_76 (by decide) ?_
            exact E_thrS (t := []) (require_no (d := d + 4)) fX9_transition_77 (by decide) mX9_require ⟨rfl, rfl⟩ rfl rfl (Nat.le_of_ble_eq_true rfl) (RA.thr (by decide) hP0)
          · refine E_iload_n fX9_transition_61 rfl ?_
            refine E_iload_n fX9_transition_62 rfl ?_
            refine E_iceq (tg := 76) fX9_transition_63 (by decide) (fun c_63 => ?_) (fun c_63 => ?_)
            · refine E_iconst (v := 0) fX9_transition_76 (by decide) ?_
              exact E_thrS (t := []) (require_no (d := d + 4)) fX9_transition_77 (by decide) mX9_require ⟨rfl, rfl⟩ rfl rfl (Nat.le_of_ble_eq_true rfl) (RA.thr (by decide) hP0)
            · refine E_iload_n fX9_transition_66 rfl ?_
              refine E_iload fX9_transition_67 rfl ?_
              refine E_iceq (tg := 76) fX9_transition_69 (by decide) (fun c_69 => ?_) (fun c_69 => ?_)
              · refine E_iconst (v := 0) fX9_transition_76 (by decide) ?_
                exact E_thrS (t := []) (require_no (d := d + 4)) fX9_transition_77 (by decide) mX9_require ⟨rfl, rfl⟩ rfl rfl (Nat.le_of_ble_eq_true rfl) (RA.thr (by decide) hP0)
              · refine E_iconst (v := 1) fX9_transition_72 (by decide) ?_
                refine E_goto (tg := 77) fX9_transition_73 (by decide) ?_
                refine E_callS (t := []) (require_ok (d := d + 4) (z := 1) (by decide)) fX9_transition_77 (by decide) mX9_require ⟨rfl, rfl⟩ rfl rfl (Nat.le_of_ble_eq_true rfl) ?_
                refine E_aload_n fX9_transition_80 rfl (by decide) ?_
                refine E_getR (r' := 189) fX9_transition_81 (k0 hG) (by decide) (by decide) (by decide) rfl ?_
                refine E_getI fX9_transition_84 (k189 hG) (by decide) (by decide) (by decide) ?_
                refine E_bipush (v := 16) fX9_transition_87 (by decide) ?_
                refine E_iclt (tg := 100) fX9_transition_89 (by decide) (fun c_89 => ?_) (fun c_89 => ?_)
                · have hi_t : t < 16 := by
                    have := c_89
                    rw [h7] at this
                    exact (nI_ltI (b := 16) (by omega) (by decide)).mp this
                  refine E_aload_n fX9_transition_100 rfl (by decide) ?_
                  refine E_getR (r' := 189) fX9_transition_101 (k0 hG) (by decide) (by decide) (by decide) rfl ?_
                  refine E_getR (r' := 192) fX9_transition_104 (k189 hG) (by decide) (by decide) (by decide) rfl ?_
                  refine E_aload_n fX9_transition_107 rfl (by decide) ?_
                  refine E_getR (r' := 189) fX9_transition_108 (k0 hG) (by decide) (by decide) (by decide) rfl ?_
                  refine E_getI fX9_transition_111 (k189 hG) (by decide) (by decide) (by decide) ?_
                  refine E_aald (n := t) (r' := 361 + t) (K := 30) fX9_transition_114 (k192 hG) ⟨by decide, by decide⟩ (by decide) h7 (by show t < 16; omega) (by show 192 + (169 + t) = 361 + t; omega) ?_
                  refine E_astore (L' := [some (.ref 0), some (.int x1), some (.int x2), some (.int x3), some (.int x4), some (.int b), some (.int z), some (.ref (361 + t))]) fX9_transition_115 rfl (Nat.le_of_ble_eq_true rfl) (by have := (kdt0_lt hi_t); omega) ?_
                  refine E_aload fX9_transition_117 rfl (by have := (kdt0_lt hi_t); omega) ?_
                  refine E_iload_n fX9_transition_119 rfl ?_
                  refine E_callS (t := [.ref (361 + t)]) (maskOf_ok (d := d + 4) x1) fX9_transition_120 (by decide) mX9_maskOf ⟨rfl, rfl⟩ rfl rfl (Nat.le_of_ble_eq_true rfl) ?_
                  refine E_iload_n fX9_transition_123 rfl ?_
                  refine E_callS (t := [.int (msk x1), .ref (361 + t)]) (maskOf_ok (d := d + 4) x2) fX9_transition_124 (by decide) mX9_maskOf ⟨rfl, rfl⟩ rfl rfl (Nat.le_of_ble_eq_true rfl) ?_
                  refine E_ior fX9_transition_127 ?_
                  refine E_putI fX9_transition_128 (kdt0 hG hi_t) (kdt0_lt hi_t) rfl ?_
                  refine E_aload fX9_transition_131 rfl (by have := (kdt0_lt hi_t); omega) ?_
                  refine E_iload_n fX9_transition_133 rfl ?_
                  refine E_callS (t := [.ref (361 + t)]) (maskOf_ok (d := d + 4) x3) fX9_transition_134 (by decide) mX9_maskOf ⟨rfl, rfl⟩ rfl rfl (Nat.le_of_ble_eq_true rfl) ?_
                  refine E_iload fX9_transition_137 rfl ?_
                  refine E_callS (t := [.int (msk x3), .ref (361 + t)]) (maskOf_ok (d := d + 4) x4) fX9_transition_139 (by decide) mX9_maskOf ⟨rfl, rfl⟩ rfl rfl (Nat.le_of_ble_eq_true rfl) ?_
                  refine E_ior fX9_transition_142 ?_
                  refine E_putI fX9_transition_143 (kdt0 hG hi_t) (kdt0_lt hi_t) rfl ?_
                  refine E_aload fX9_transition_146 rfl (by have := (kdt0_lt hi_t); omega) ?_
                  refine E_iload fX9_transition_148 rfl ?_
                  refine E_putI fX9_transition_150 (kdt0 hG hi_t) (kdt0_lt hi_t) rfl ?_
                  refine E_aload fX9_transition_153 rfl (by have := (kdt0_lt hi_t); omega) ?_
                  refine E_iload fX9_transition_155 rfl ?_
                  refine E_putI fX9_transition_157 (kdt0 hG hi_t) (kdt0_lt hi_t) (fit1 hz) ?_
                  generalize hM2 : (pI (pI (pI (pI M (361 + t) 0 ((msk x1) ||| (msk x2))) (361 + t) 1 ((msk x3) ||| (msk x4))) (361 + t) 2 b) (361 + t) 3 z) = M2
                  have o2 : ∀ c s, c ≠ 361 + t → M2.1 c s = M.1 c s := fun c s a => by rw [← hM2, pI_ne (Or.inl a), pI_ne (Or.inl a), pI_ne (Or.inl a), pI_ne (Or.inl a)]
                  have v3 : M2.1 (361 + t) 3 = z := by rw [← hM2]; exact pI_at
                  have v1 : M2.1 (361 + t) 1 = msk x3 ||| msk x4 := by rw [← hM2, pI_ne (Or.inr (by decide)), pI_ne (Or.inr (by decide)), pI_at]
                  have F2 : Fr dfB M M2 := by
                    rw [← hM2]
                    exact (((Fr.rf.pI (dfB_in (by omega))).pI (dfB_in (by omega))).pI (dfB_in (by omega))).pI (dfB_in (by omega))
                  refine E_aload_n fX9_transition_160 rfl (by decide) ?_
                  refine E_getR (r' := 189) fX9_transition_161 (k0 hG) (by decide) (by decide) (by decide) rfl ?_
                  refine E_dup fX9_transition_164 rfl ?_
                  refine E_getI fX9_transition_165 (k189 hG) (by decide) (by decide) (by decide) ?_
                  refine E_iconst (v := 1) fX9_transition_168 (by decide) ?_
                  refine E_iadd fX9_transition_169 ?_
                  refine E_putI fX9_transition_170 (k189 hG) (by decide) rfl ?_
                  refine E_aload_n fX9_transition_173 rfl (by decide) ?_
                  refine E_getR (r' := 189) fX9_transition_174 (k0 hG) (by decide) (by decide) (by decide) rfl ?_
                  refine E_getI fX9_transition_177 (k189 hG) (by decide) (by decide) (by decide) ?_
                  refine R_iret fX9_transition_180 mX9_transition rfl (RA.ret ?_)
                  have e0 : M2.1 189 2 + 1 = nI (t + 1) := by rw [o2 _ _ (by omega), h7, nI_1]
                  rw [e0]
                  have w : ∀ c s, c ≠ 361 + t → (c ≠ 189 ∨ s ≠ 2) → (pI M2 189 2 (nI (t + 1))).1 c s = M.1 c s := fun c s x z => (pI_ne z).trans (o2 c s x)
                  have w2 : ∀ s, (pI M2 189 2 (nI (t + 1))).1 (361 + t) s = M2.1 (361 + t) s := fun s => pI_ne (by omega)
                  refine ⟨⟨n, t + 1, h1, (w _ _ (by omega) (by omega)).trans h2, fun j hj => ?_, h4, (w _ _ (by omega) (by omega)).trans h5, by omega, pI_at, fun j hj => by rw [w _ _ (by omega) (by omega)]; exact h8 j hj, fun j hj => ?_⟩, F2.pI (dfB_in (by omega))⟩
                  · obtain ⟨r1, z, hz, r4⟩ := h3 j hj
                    exact ⟨r1.cg fun s0 => w _ _ (by omega) (by omega), z, hz, (w _ _ (by omega) (by omega)).trans r4⟩
                  · by_cases e : j = t
                    · subst e
                      rw [w2, w2, v1, v3]
                      refine ⟨fun k hk hb => ?_, hz⟩
                      obtain ⟨i3, hi3, e3⟩ := xy3 c_30
                      rw [b_or, e3, mI (by omega) hk, Bool.or_eq_true, decide_eq_true_eq] at hb
                      rcases hb with hb | hb
                      · omega
                      · rcases xy4 c_42 with e4 | ⟨i4, hi4, e4⟩
                        · rw [e4, m0 hk] at hb
                          cases hb
                        · rw [e4, mI (by omega) hk, decide_eq_true_eq] at hb
                          omega
                    · rw [w _ _ (by omega) (by omega), w _ _ (by omega) (by omega)]
                      exact h9 j (by omega)
                · exact E_new fX9_transition_92 (by decide) (RA.thr (by decide) hP0)
        · exact E_new fX9_transition_45 (by decide) (RA.thr (by decide) hP0)
theorem pgClear_ok (hG : Core G) : Ret G (d + 1) 16 [.ref 189] M (none) (pI (pI (pI M 189 0 0) 189 1 0) 189 2 0) := by
  refine R_start (d := d + 0) (by decide) mX2_clear ?_
  show E _ _ _ (0, [some (.ref 189)], [], M, 0) _
  refine E_aload_n fX2_clear_0 rfl (by decide) ?_
  refine E_iconst (v := 0) fX2_clear_1 (by decide) ?_
  refine E_putI fX2_clear_2 (k189 hG) (by decide) rfl ?_
  refine E_aload_n fX2_clear_5 rfl (by decide) ?_
  refine E_iconst (v := 0) fX2_clear_6 (by decide) ?_
  refine E_putI fX2_clear_7 (k189 hG) (by decide) rfl ?_
  refine E_aload_n fX2_clear_10 rfl (by decide) ?_
  refine E_iconst (v := 0) fX2_clear_11 (by decide) ?_
  refine E_putI fX2_clear_12 (k189 hG) (by decide) rfl ?_
  exact R_vret fX2_clear_15 mX2_clear rfl rfl
theorem emptyDraft_ok (hG : Core G) : ∃ v M', Ret G (d + 2) 41 [.ref 0] M v M' ∧ ((∃ x, v = some (.int x)) ∧ DI M' 0 ∧ Fr dfB M M') := by
  refine X_start (d := d + 1) (by decide) mX9_emptyDraft ?_
  show E _ _ _ (0, [some (.ref 0), none], [], M, 0) _
  refine E_aload_n fX9_emptyDraft_0 rfl (by decide) ?_
  refine E_getR (r' := 189) fX9_emptyDraft_1 (k0 hG) (by decide) (by decide) (by decide) rfl ?_
  refine E_getI fX9_emptyDraft_4 (k189 hG) (by decide) (by decide) (by decide) ?_
  refine E_istore_n (L' := [some (.ref 0), some (.int (M.1 189 0))]) fX9_emptyDraft_7 rfl (Nat.le_of_ble_eq_true rfl) ?_
  refine E_aload_n fX9_emptyDraft_8 rfl (by decide) ?_
  refine E_getR (r' := 189) fX9_emptyDraft_9 (k0 hG) (by decide) (by decide) (by decide) rfl ?_
  refine E_callV (t := []) (pgClear_ok (d := d) hG) fX9_emptyDraft_12 mX2_clear (rc_obj (k189 hG) (by decide) (by decide)) ⟨by decide, rfl⟩ rfl rfl (Nat.le_of_ble_eq_true rfl) ?_
  refine E_iload_n fX9_emptyDraft_15 rfl ?_
  exact R_iret fX9_emptyDraft_16 mX9_emptyDraft rfl ⟨_, _, rfl, ⟨_, rfl⟩, ⟨0, 0, by omega, by rw [pI_ne (Or.inr (by decide)), pI_ne (Or.inr (by decide)), pI_at]; rfl, fun i hi => absurd hi (Nat.not_lt_zero i), by omega, by rw [pI_ne (Or.inr (by decide)), pI_at]; rfl, by omega, pI_at, fun i hi => absurd hi (Nat.not_lt_zero i), fun i hi => absurd hi (Nat.not_lt_zero i)⟩, ((Fr.rf.pI (dfB_in (by omega))).pI (dfB_in (by omega))).pI (dfB_in (by omega))⟩
end SP18
