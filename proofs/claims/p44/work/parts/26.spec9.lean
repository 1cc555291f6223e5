section SP9
variable {G : MG} {d : Nat} {M : Mem}
/-- steps and transitions of the code -/
def CK (M : Mem) (s t : Nat) : Prop := s ≤ 12 ∧ M.1 1 1 = nI s ∧ t ≤ 16 ∧ M.1 1 2 = nI t ∧ (∀ i, i < s → ∃ n, n ≤ 3 ∧ M.1 (125 + 4 * i) 0 = nI n) ∧ ∀ i, i < t → ∀ k, k < 32 → bt (M.1 (173 + i) 1) k = true → k < s
/-- the active steps are the code's, or the first -/
def AK (M : Mem) (s : Nat) : Prop := ∀ k, k < 32 → bt (M.1 377 1) k = true → k < s ∨ k = 0
def chB (c s : Nat) : Bool := (c == 377 && (s == 0 || s == 1)) || c == 380
def w0B (c s : Nat) : Bool := c == 377 && s == 0
theorem chB_low {c s : Nat} (h : c < 377) : chB c s = false := by
  unfold chB
  simp only [Bool.or_eq_false_iff, Bool.and_eq_false_iff, beq_eq_false_iff_ne]
  omega
theorem w0B_low {c s : Nat} (h : c ≠ 377) : w0B c s = false := by
  unfold w0B
  simp only [Bool.and_eq_false_iff, beq_eq_false_iff_ne]
  omega
theorem w0B_chB (c s : Nat) (h : chB c s = false) : w0B c s = false := by
  unfold chB at h
  unfold w0B
  simp only [Bool.or_eq_false_iff, Bool.and_eq_false_iff, beq_eq_false_iff_ne] at h ⊢
  omega
theorem CK.low {p : Nat → Nat → Bool} {M M1 : Mem} {s t : Nat} (h : CK M s t) (hF : Fr p M M1) (hp : ∀ c s, c < 377 → p c s = false) : CK M1 s t := by
  obtain ⟨h1, h2, h3, h4, h5, h6⟩ := h
  exact ⟨h1, (hF.1 _ _ (hp _ _ (by omega))).trans h2, h3, (hF.1 _ _ (hp _ _ (by omega))).trans h4, fun i hi => by rw [hF.1 _ _ (hp _ _ (by omega))]; exact h5 i hi, fun i hi k hk hb => by rw [hF.1 _ _ (hp _ _ (by omega))] at hb; exact h6 i hi k hk hb⟩
theorem CK.ch {M M1 : Mem} {s t : Nat} (h : CK M s t) (hF : Fr chB M M1) : CK M1 s t := h.low hF fun c s hc => chB_low hc
theorem AK.w0 {M M1 : Mem} {s : Nat} (h : AK M s) (hF : Fr w0B M M1) : AK M1 s := fun k hk hb => h k hk (by rw [hF.1 377 1 rfl] at hb; exact hb)
theorem AK.eq {M M1 : Mem} {s : Nat} (h : AK M s) (e : M1.1 377 1 = M.1 377 1) : AK M1 s := fun k hk hb => h k hk (by rw [e] at hb; exact hb)
theorem AK.fire {M : Mem} {s t i : Nat} (hC : CK M s t) (h : AK M s) (hi : i < t) : AK (pI M 377 1 ((M.1 377 1 &&& (M.1 (173 + i) 0 ^^^ (-1))) ||| M.1 (173 + i) 1)) s := by
  intro k hk hb
  rw [pI_at, b_or, b_and, Bool.or_eq_true, Bool.and_eq_true] at hb
  rcases hb with ⟨hb, -⟩ | hb
  · exact h k hk hb
  · exact Or.inl (hC.2.2.2.2.2 i hi k hk hb)
theorem fireTransitions_ok (hG : Core G) {s t : Nat} (hC : CK M s t) (hA : AK M s) : ∃ v M', Ret G (d + 2) 101 [.ref 0] M v M' ∧ ((∃ x, v = some (.int x)) ∧ AK M' s ∧ Fr chB M M') := by
  have loop2 : ∀ m i fd bs mk o5 M1, i + m = t → AK M1 s → Fr chB M M1 → E G (d + 1) 101 (77, [some (.ref 0), some (.int fd), some (.int bs), some (.int mk), some (.int (nI i)), o5], [], M1, 0) (fun r => ∃ v M', r = (.inl v, M', 0) ∧ ((∃ x, v = some (.int x)) ∧ AK M' s ∧ Fr chB M M')) := by
    intro m
    induction m with
    | zero =>
      intro i fd bs mk o5 M1 hi hA1 hF1
      have e : i = t := by omega
      refine E_iload fX9_fireTransitions_77 rfl ?_
      refine E_aload_n fX9_fireTransitions_79 rfl (by decide) ?_
      refine E_getR (r' := 1) fX9_fireTransitions_80 (k0 hG) (by decide) (by decide) (by decide) rfl ?_
      refine E_getI fX9_fireTransitions_83 (k1 hG) (by decide) (by decide) (by decide) ?_
      refine E_icge (tg := 164) fX9_fireTransitions_86 (by decide) (fun c_86 => ?_) (fun c => absurd (by rw [(hC.ch hF1).2.2.2.1, e]; exact Int32.le_refl _) c)
      refine E_iload_n fX9_fireTransitions_164 rfl ?_
      exact R_iret fX9_fireTransitions_165 mX9_fireTransitions rfl ⟨_, _, rfl, ⟨_, rfl⟩, hA1, hF1⟩
    | succ m ih =>
      intro i fd bs mk o5 M1 hi hA1 hF1
      have hlt : i < t := by omega
      have h16 : i < 16 := by have := hC.2.2.1; omega
      refine E_iload fX9_fireTransitions_77 rfl ?_
      refine E_aload_n fX9_fireTransitions_79 rfl (by decide) ?_
      refine E_getR (r' := 1) fX9_fireTransitions_80 (k0 hG) (by decide) (by decide) (by decide) rfl ?_
      refine E_getI fX9_fireTransitions_83 (k1 hG) (by decide) (by decide) (by decide) ?_
      refine E_icge (tg := 164) fX9_fireTransitions_86 (by decide) (fun c => absurd c (by rw [(hC.ch hF1).2.2.2.1]; exact nI_ge hlt (by have := hC.2.2.1; have := hC.1; omega))) (fun c_86 => ?_)
      refine E_aload_n fX9_fireTransitions_89 rfl (by decide) ?_
      refine E_getR (r' := 1) fX9_fireTransitions_90 (k0 hG) (by decide) (by decide) (by decide) rfl ?_
      refine E_getR (r' := 4) fX9_fireTransitions_93 (k1 hG) (by decide) (by decide) (by decide) rfl ?_
      refine E_iload fX9_fireTransitions_96 rfl ?_
      refine E_aald (n := i) (r' := 173 + i) (K := 30) fX9_fireTransitions_98 (k4 hG) ⟨by decide, by decide⟩ (by decide) rfl (by show i < 16; have := hC.2.2.1; omega) (by show 4 + (169 + i) = 173 + i; omega) ?_
      refine E_astore (L' := [some (.ref 0), some (.int fd), some (.int bs), some (.int mk), some (.int (nI i)), some (.ref (173 + i))]) fX9_fireTransitions_99 rfl (Nat.le_of_ble_eq_true rfl) (by have := (kt0_lt h16); omega) ?_
      refine E_iload_n fX9_fireTransitions_101 rfl ?_
      refine E_iload fX9_fireTransitions_102 rfl ?_
      refine E_callS (t := []) (isSet_ok fd (nI i)) fX9_fireTransitions_104 (by decide) mX9_isSet ⟨rfl, rfl⟩ rfl rfl (Nat.le_of_ble_eq_true rfl) ?_
      refine E_ifeq (tg := 158) fX9_fireTransitions_107 (by decide) (fun c_107 => ?_) (fun c_107 => ?_)
      · refine E_iinc (v := nI (i + 1)) (L' := [some (.ref 0), some (.int fd), some (.int bs), some (.int mk), some (.int (nI (i + 1))), some (.ref (173 + i))]) fX9_fireTransitions_158 rfl (inc1 _) rfl ?_
        refine E_goto (tg := 77) fX9_fireTransitions_161 (by decide) ?_
        exact ih (i + 1) _ _ _ _ M1 (by omega) hA1 hF1
      · refine E_aload_n fX9_fireTransitions_110 rfl (by decide) ?_
        refine E_aload fX9_fireTransitions_111 rfl (by have := (kt0_lt h16); omega) ?_
        refine E_getI fX9_fireTransitions_113 (kt0 hG h16) (kt0_lt h16) (by decide) (by decide) ?_
        refine E_callV (t := []) (areActive_ok hG (M1.1 (173 + i) 0)) fX9_fireTransitions_116 mX9_areActive (rc_obj (k0 hG) (by decide) (by decide)) ⟨by decide, rfl⟩ rfl rfl (Nat.le_of_ble_eq_true rfl) ?_
        refine E_ifeq (tg := 158) fX9_fireTransitions_119 (by decide) (fun c_119 => ?_) (fun c_119 => ?_)
        · refine E_iinc (v := nI (i + 1)) (L' := [some (.ref 0), some (.int fd), some (.int bs), some (.int mk), some (.int (nI (i + 1))), some (.ref (173 + i))]) fX9_fireTransitions_158 rfl (inc1 _) rfl ?_
          refine E_goto (tg := 77) fX9_fireTransitions_161 (by decide) ?_
          exact ih (i + 1) _ _ _ _ M1 (by omega) hA1 hF1
        · refine E_aload_n fX9_fireTransitions_122 rfl (by decide) ?_
          refine E_getR (r' := 377) fX9_fireTransitions_123 (k0 hG) (by decide) (by decide) (by decide) rfl ?_
          refine E_aload_n fX9_fireTransitions_126 rfl (by decide) ?_
          refine E_getR (r' := 377) fX9_fireTransitions_127 (k0 hG) (by decide) (by decide) (by decide) rfl ?_
          refine E_getI fX9_fireTransitions_130 (k377 hG) (by decide) (by decide) (by decide) ?_
          refine E_aload fX9_fireTransitions_133 rfl (by have := (kt0_lt h16); omega) ?_
          refine E_getI fX9_fireTransitions_135 (kt0 hG h16) (kt0_lt h16) (by decide) (by decide) ?_
          refine E_iconst (v := (-1)) fX9_fireTransitions_138 (by decide) ?_
          refine E_ixor fX9_fireTransitions_139 ?_
          refine E_iand fX9_fireTransitions_140 ?_
          refine E_aload fX9_fireTransitions_141 rfl (by have := (kt0_lt h16); omega) ?_
          refine E_getI fX9_fireTransitions_143 (kt0 hG h16) (kt0_lt h16) (by decide) (by decide) ?_
          refine E_ior fX9_fireTransitions_146 ?_
          refine E_putI fX9_fireTransitions_147 (k377 hG) (by decide) rfl ?_
          refine E_iload_n fX9_fireTransitions_150 rfl ?_
          refine E_aload fX9_fireTransitions_151 rfl (by have := (kt0_lt h16); omega) ?_
          refine E_getI fX9_fireTransitions_153 (kt0 hG h16) (kt0_lt h16) (by decide) (by decide) ?_
          refine E_ior fX9_fireTransitions_156 ?_
          refine E_istore_n (L' := [some (.ref 0), some (.int fd), some (.int bs), some (.int (mk ||| ((pI M1 377 1 (((M1.1 377 1) &&& ((M1.1 (173 + i) 0) ^^^ (-1))) ||| (M1.1 (173 + i) 1))).1 (173 + i) 1))), some (.int (nI i)), some (.ref (173 + i))]) fX9_fireTransitions_157 rfl (Nat.le_of_ble_eq_true rfl) ?_
          refine E_iinc (v := nI (i + 1)) (L' := [some (.ref 0), some (.int fd), some (.int bs), some (.int (mk ||| ((pI M1 377 1 (((M1.1 377 1) &&& ((M1.1 (173 + i) 0) ^^^ (-1))) ||| (M1.1 (173 + i) 1))).1 (173 + i) 1))), some (.int (nI (i + 1))), some (.ref (173 + i))]) fX9_fireTransitions_158 rfl (inc1 _) rfl ?_
          refine E_goto (tg := 77) fX9_fireTransitions_161 (by decide) ?_
          exact ih (i + 1) _ _ _ _ _ (by omega) (hA1.fire (hC.ch hF1) hlt) (hF1.pI rfl)
  have loop1 : ∀ m i fd o4 o5, i + m = t → E G (d + 1) 101 (9, [some (.ref 0), some (.int fd), some (.int (rdB M)), some (.int (nI i)), o4, o5], [], M, 0) (fun r => ∃ v M', r = (.inl v, M', 0) ∧ ((∃ x, v = some (.int x)) ∧ AK M' s ∧ Fr chB M M')) := by
    intro m
    induction m with
    | zero =>
      intro i fd o4 o5 hi 
      have e : i = t := by omega
      refine E_iload_n fX9_fireTransitions_9 rfl ?_
      refine E_aload_n fX9_fireTransitions_10 rfl (by decide) ?_
      refine E_getR (r' := 1) fX9_fireTransitions_11 (k0 hG) (by decide) (by decide) (by decide) rfl ?_
      refine E_getI fX9_fireTransitions_14 (k1 hG) (by decide) (by decide) (by decide) ?_
      refine E_icge (tg := 72) fX9_fireTransitions_17 (by decide) (fun c_17 => ?_) (fun c => absurd (by rw [hC.2.2.2.1, e]; exact Int32.le_refl _) c)
      refine E_iconst (v := 0) fX9_fireTransitions_72 (by decide) ?_
      refine E_istore_n (L' := [some (.ref 0), some (.int fd), some (.int (rdB M)), some (.int 0), o4, o5]) fX9_fireTransitions_73 rfl (Nat.le_of_ble_eq_true rfl) ?_
      refine E_iconst (v := 0) fX9_fireTransitions_74 (by decide) ?_
      refine E_istore (L' := [some (.ref 0), some (.int fd), some (.int (rdB M)), some (.int 0), some (.int 0), o5]) fX9_fireTransitions_75 rfl (Nat.le_of_ble_eq_true rfl) ?_
      exact loop2 t 0 _ _ _ _ M (by omega) hA Fr.rf
    | succ m ih =>
      intro i fd o4 o5 hi 
      have hlt : i < t := by omega
      have h16 : i < 16 := by have := hC.2.2.1; omega
      refine E_iload_n fX9_fireTransitions_9 rfl ?_
      refine E_aload_n fX9_fireTransitions_10 rfl (by decide) ?_
      refine E_getR (r' := 1) fX9_fireTransitions_11 (k0 hG) (by decide) (by decide) (by decide) rfl ?_
      refine E_getI fX9_fireTransitions_14 (k1 hG) (by decide) (by decide) (by decide) ?_
      refine E_icge (tg := 72) fX9_fireTransitions_17 (by decide) (fun c => absurd c (by rw [hC.2.2.2.1]; exact nI_ge hlt (by have := hC.2.2.1; have := hC.1; omega))) (fun c_17 => ?_)
      refine E_aload_n fX9_fireTransitions_20 rfl (by decide) ?_
      refine E_getR (r' := 1) fX9_fireTransitions_21 (k0 hG) (by decide) (by decide) (by decide) rfl ?_
      refine E_getR (r' := 4) fX9_fireTransitions_24 (k1 hG) (by decide) (by decide) (by decide) rfl ?_
      refine E_iload_n fX9_fireTransitions_27 rfl ?_
      refine E_aald (n := i) (r' := 173 + i) (K := 30) fX9_fireTransitions_28 (k4 hG) ⟨by decide, by decide⟩ (by decide) rfl (by show i < 16; have := hC.2.2.1; omega) (by show 4 + (169 + i) = 173 + i; omega) ?_
      refine E_astore (L' := [some (.ref 0), some (.int fd), some (.int (rdB M)), some (.int (nI i)), some (.ref (173 + i)), o5]) fX9_fireTransitions_29 rfl (Nat.le_of_ble_eq_true rfl) (by have := (kt0_lt h16); omega) ?_
      refine E_aload_n fX9_fireTransitions_31 rfl (by decide) ?_
      refine E_aload fX9_fireTransitions_32 rfl (by have := (kt0_lt h16); omega) ?_
      refine E_getI fX9_fireTransitions_34 (kt0 hG h16) (kt0_lt h16) (by decide) (by decide) ?_
      refine E_callV (t := []) (areActive_ok hG (M.1 (173 + i) 0)) fX9_fireTransitions_37 mX9_areActive (rc_obj (k0 hG) (by decide) (by decide)) ⟨by decide, rfl⟩ rfl rfl (Nat.le_of_ble_eq_true rfl) ?_
      refine E_ifeq (tg := 66) fX9_fireTransitions_40 (by decide) (fun c_40 => ?_) (fun c_40 => ?_)
      · refine E_iinc (v := nI (i + 1)) (L' := [some (.ref 0), some (.int fd), some (.int (rdB M)), some (.int (nI (i + 1))), some (.ref (173 + i)), o5]) fX9_fireTransitions_66 rfl (inc1 _) rfl ?_
        refine E_goto (tg := 9) fX9_fireTransitions_69 (by decide) ?_
        exact ih (i + 1) _ _ _ (by omega)
      · refine E_iload_n fX9_fireTransitions_43 rfl ?_
        refine E_aload fX9_fireTransitions_44 rfl (by have := (kt0_lt h16); omega) ?_
        refine E_getI fX9_fireTransitions_46 (kt0 hG h16) (kt0_lt h16) (by decide) (by decide) ?_
        refine E_callS (t := []) (isSet_ok (rdB M) (M.1 (173 + i) 2)) fX9_fireTransitions_49 (by decide) mX9_isSet ⟨rfl, rfl⟩ rfl rfl (Nat.le_of_ble_eq_true rfl) ?_
        refine E_aload fX9_fireTransitions_52 rfl (by have := (kt0_lt h16); omega) ?_
        refine E_getI fX9_fireTransitions_54 (kt0 hG h16) (kt0_lt h16) (by decide) (by decide) ?_
        refine E_icne (tg := 66) fX9_fireTransitions_57 (by decide) (fun c_57 => ?_) (fun c_57 => ?_)
        · refine E_iinc (v := nI (i + 1)) (L' := [some (.ref 0), some (.int fd), some (.int (rdB M)), some (.int (nI (i + 1))), some (.ref (173 + i)), o5]) fX9_fireTransitions_66 rfl (inc1 _) rfl ?_
          refine E_goto (tg := 9) fX9_fireTransitions_69 (by decide) ?_
          exact ih (i + 1) _ _ _ (by omega)
        · refine E_iload_n fX9_fireTransitions_60 rfl ?_
          refine E_iconst (v := 1) fX9_fireTransitions_61 (by decide) ?_
          refine E_iload_n fX9_fireTransitions_62 rfl ?_
          refine E_ishl fX9_fireTransitions_63 ?_
          refine E_ior fX9_fireTransitions_64 ?_
          refine E_istore_n (L' := [some (.ref 0), some (.int (fd ||| (1 <<< ((nI i) &&& 31)))), some (.int (rdB M)), some (.int (nI i)), some (.ref (173 + i)), o5]) fX9_fireTransitions_65 rfl (Nat.le_of_ble_eq_true rfl) ?_
          refine E_iinc (v := nI (i + 1)) (L' := [some (.ref 0), some (.int (fd ||| (1 <<< ((nI i) &&& 31)))), some (.int (rdB M)), some (.int (nI (i + 1))), some (.ref (173 + i)), o5]) fX9_fireTransitions_66 rfl (inc1 _) rfl ?_
          refine E_goto (tg := 9) fX9_fireTransitions_69 (by decide) ?_
          exact ih (i + 1) _ _ _ (by omega)
  refine X_start (d := d + 1) (by decide) mX9_fireTransitions ?_
  show E _ _ _ (0, [some (.ref 0), none, none, none, none, none], [], M, 0) _
  refine E_iconst (v := 0) fX9_fireTransitions_0 (by decide) ?_
  refine E_istore_n (L' := [some (.ref 0), some (.int 0), none, none, none, none]) fX9_fireTransitions_1 rfl (Nat.le_of_ble_eq_true rfl) ?_
  refine E_aload_n fX9_fireTransitions_2 rfl (by decide) ?_
  refine E_callV (t := []) (readBits_ok hG) fX9_fireTransitions_3 mX9_readBits (rc_obj (k0 hG) (by decide) (by decide)) ⟨by decide, rfl⟩ rfl rfl (Nat.le_of_ble_eq_true rfl) ?_
  refine E_istore_n (L' := [some (.ref 0), some (.int 0), some (.int (rdB M)), none, none, none]) fX9_fireTransitions_6 rfl (Nat.le_of_ble_eq_true rfl) ?_
  refine E_iconst (v := 0) fX9_fireTransitions_7 (by decide) ?_
  refine E_istore_n (L' := [some (.ref 0), some (.int 0), some (.int (rdB M)), some (.int 0), none, none]) fX9_fireTransitions_8 rfl (Nat.le_of_ble_eq_true rfl) ?_
  exact loop1 t 0 _ _ _ (by omega)
theorem clearActions_ok (hG : Core G) {j n : Nat} (hj : j < 12) (hn3 : n ≤ 3) (hn : M.1 (125 + 4 * j) 0 = nI n) : ∃ v M', Ret G (d + 2) 103 [.ref 0, .ref (125 + 4 * j)] M v M' ∧ (v = none ∧ Fr w0B M M') := by
  have loop : ∀ m i o3 M1, i + m = n → Fr w0B M M1 → E G (d + 1) 103 (2, [some (.ref 0), some (.ref (125 + 4 * j)), some (.int (nI i)), o3], [], M1, 0) (fun r => ∃ v M', r = (.inl v, M', 0) ∧ (v = none ∧ Fr w0B M M')) := by
    intro m
    induction m with
    | zero =>
      intro i o3 M1 hi hF1
      have e : i = n := by omega
      have hn1 : M1.1 (125 + 4 * j) 0 = nI n := (hF1.1 _ _ (w0B_low (by omega))).trans hn
      refine E_iload_n fX9_clearActions_2 rfl ?_
      refine E_aload_n fX9_clearActions_3 rfl (by have := (ks0_lt hj); omega) ?_
      refine E_getI fX9_clearActions_4 (ks0 hG hj) (ks0_lt hj) (by decide) (by decide) ?_
      refine E_icge (tg := 55) fX9_clearActions_7 (by decide) (fun c_7 => ?_) (fun c => absurd (by rw [hn1, e]; exact Int32.le_refl _) c)
      exact R_vret fX9_clearActions_55 mX9_clearActions rfl ⟨_, _, rfl, rfl, hF1⟩
    | succ m ih =>
      intro i o3 M1 hi hF1
      have hlt : i < n := by omega
      have hn1 : M1.1 (125 + 4 * j) 0 = nI n := (hF1.1 _ _ (w0B_low (by omega))).trans hn
      refine E_iload_n fX9_clearActions_2 rfl ?_
      refine E_aload_n fX9_clearActions_3 rfl (by have := (ks0_lt hj); omega) ?_
      refine E_getI fX9_clearActions_4 (ks0 hG hj) (ks0_lt hj) (by decide) (by decide) ?_
      refine E_icge (tg := 55) fX9_clearActions_7 (by decide) (fun c => absurd c (by rw [hn1]; exact nI_ge hlt (by omega))) (fun c_7 => ?_)
      refine E_aload_n fX9_clearActions_10 rfl (by have := (ks0_lt hj); omega) ?_
      refine E_getR (r' := 125 + 4 * j + 1) fX9_clearActions_11 (ks0 hG hj) (ks0_lt hj) (by decide) (by decide) rfl ?_
      refine E_iload_n fX9_clearActions_14 rfl ?_
      refine E_cald (n := i) (K := 27) fX9_clearActions_15 (ks1 hG hj) ⟨by decide, by decide⟩ (ks1_lt hj) rfl (by show i < 3; omega) ?_
      refine E_istore_n (L' := [some (.ref 0), some (.ref (125 + 4 * j)), some (.int (nI i)), some (.int (M1.1 (125 + 4 * j + 1) i))]) fX9_clearActions_16 rfl (Nat.le_of_ble_eq_true rfl) ?_
      refine E_iload_n fX9_clearActions_17 rfl ?_
      refine E_bipush (v := 110) fX9_clearActions_18 (by decide) ?_
      refine E_iceq (tg := 35) fX9_clearActions_20 (by decide) (fun c_20 => ?_) (fun c_20 => ?_)
      · refine E_aload_n fX9_clearActions_35 rfl (by decide) ?_
        refine E_getR (r' := 377) fX9_clearActions_36 (k0 hG) (by decide) (by decide) (by decide) rfl ?_
        refine E_aload_n fX9_clearActions_39 rfl (by have := (ks0_lt hj); omega) ?_
        refine E_getR (r' := 125 + 4 * j + 2) fX9_clearActions_40 (ks0 hG hj) (ks0_lt hj) (by decide) (by decide) rfl ?_
        refine E_iload_n fX9_clearActions_43 rfl ?_
        refine E_iald (n := i) (K := 25) fX9_clearActions_44 (ks2 hG hj) ⟨by decide, by decide⟩ (ks2_lt hj) rfl (by show i < 3; omega) ?_
        refine E_iconst (v := 0) fX9_clearActions_45 (by decide) ?_
        obtain ⟨v10, M10, hR1, rfl, w1, rfl⟩ := write_ok (d := d) (M := M1) hG (M1.1 (125 + 4 * j + 2) i) 0
        refine E_callV (t := []) hR1 fX9_clearActions_46 mX5_write (rc_obj (k377 hG) (by decide) (by decide)) ⟨by decide, rfl⟩ rfl rfl (Nat.le_of_ble_eq_true rfl) ?_
        refine E_iinc (v := nI (i + 1)) (L' := [some (.ref 0), some (.ref (125 + 4 * j)), some (.int (nI (i + 1))), some (.int (M1.1 (125 + 4 * j + 1) i))]) fX9_clearActions_49 rfl (inc1 _) rfl ?_
        refine E_goto (tg := 2) fX9_clearActions_52 (by decide) ?_
        exact ih (i + 1) _ _ (by omega) (hF1.pI rfl)
      · refine E_iload_n fX9_clearActions_23 rfl ?_
        refine E_bipush (v := 100) fX9_clearActions_24 (by decide) ?_
        refine E_iceq (tg := 35) fX9_clearActions_26 (by decide) (fun c_26 => ?_) (fun c_26 => ?_)
        · refine E_aload_n fX9_clearActions_35 rfl (by decide) ?_
          refine E_getR (r' := 377) fX9_clearActions_36 (k0 hG) (by decide) (by decide) (by decide) rfl ?_
          refine E_aload_n fX9_clearActions_39 rfl (by have := (ks0_lt hj); omega) ?_
          refine E_getR (r' := 125 + 4 * j + 2) fX9_clearActions_40 (ks0 hG hj) (ks0_lt hj) (by decide) (by decide) rfl ?_
          refine E_iload_n fX9_clearActions_43 rfl ?_
          refine E_iald (n := i) (K := 25) fX9_clearActions_44 (ks2 hG hj) ⟨by decide, by decide⟩ (ks2_lt hj) rfl (by show i < 3; omega) ?_
          refine E_iconst (v := 0) fX9_clearActions_45 (by decide) ?_
          obtain ⟨v11, M11, hR2, rfl, w2, rfl⟩ := write_ok (d := d) (M := M1) hG (M1.1 (125 + 4 * j + 2) i) 0
          refine E_callV (t := []) hR2 fX9_clearActions_46 mX5_write (rc_obj (k377 hG) (by decide) (by decide)) ⟨by decide, rfl⟩ rfl rfl (Nat.le_of_ble_eq_true rfl) ?_
          refine E_iinc (v := nI (i + 1)) (L' := [some (.ref 0), some (.ref (125 + 4 * j)), some (.int (nI (i + 1))), some (.int (M1.1 (125 + 4 * j + 1) i))]) fX9_clearActions_49 rfl (inc1 _) rfl ?_
          refine E_goto (tg := 2) fX9_clearActions_52 (by decide) ?_
          exact ih (i + 1) _ _ (by omega) (hF1.pI rfl)
        · refine E_iload_n fX9_clearActions_29 rfl ?_
          refine E_bipush (v := 108) fX9_clearActions_30 (by decide) ?_
          refine E_icne (tg := 49) fX9_clearActions_32 (by decide) (fun c_32 => ?_) (fun c_32 => ?_)
          · refine E_iinc (v := nI (i + 1)) (L' := [some (.ref 0), some (.ref (125 + 4 * j)), some (.int (nI (i + 1))), some (.int (M1.1 (125 + 4 * j + 1) i))]) fX9_clearActions_49 rfl (inc1 _) rfl ?_
            refine E_goto (tg := 2) fX9_clearActions_52 (by decide) ?_
            exact ih (i + 1) _ M1 (by omega) hF1
          · refine E_aload_n fX9_clearActions_35 rfl (by decide) ?_
            refine E_getR (r' := 377) fX9_clearActions_36 (k0 hG) (by decide) (by decide) (by decide) rfl ?_
            refine E_aload_n fX9_clearActions_39 rfl (by have := (ks0_lt hj); omega) ?_
            refine E_getR (r' := 125 + 4 * j + 2) fX9_clearActions_40 (ks0 hG hj) (ks0_lt hj) (by decide) (by decide) rfl ?_
            refine E_iload_n fX9_clearActions_43 rfl ?_
            refine E_iald (n := i) (K := 25) fX9_clearActions_44 (ks2 hG hj) ⟨by decide, by decide⟩ (ks2_lt hj) rfl (by show i < 3; omega) ?_
            refine E_iconst (v := 0) fX9_clearActions_45 (by decide) ?_
            obtain ⟨v12, M12, hR3, rfl, w3, rfl⟩ := write_ok (d := d) (M := M1) hG (M1.1 (125 + 4 * j + 2) i) 0
            refine E_callV (t := []) hR3 fX9_clearActions_46 mX5_write (rc_obj (k377 hG) (by decide) (by decide)) ⟨by decide, rfl⟩ rfl rfl (Nat.le_of_ble_eq_true rfl) ?_
            refine E_iinc (v := nI (i + 1)) (L' := [some (.ref 0), some (.ref (125 + 4 * j)), some (.int (nI (i + 1))), some (.int (M1.1 (125 + 4 * j + 1) i))]) fX9_clearActions_49 rfl (inc1 _) rfl ?_
            refine E_goto (tg := 2) fX9_clearActions_52 (by decide) ?_
            exact ih (i + 1) _ _ (by omega) (hF1.pI rfl)
  refine X_start (d := d + 1) (by decide) mX9_clearActions ?_
  show E _ _ _ (0, [some (.ref 0), some (.ref (125 + 4 * j)), none, none], [], M, 0) _
  refine E_iconst (v := 0) fX9_clearActions_0 (by decide) ?_
  refine E_istore_n (L' := [some (.ref 0), some (.ref (125 + 4 * j)), some (.int 0), none]) fX9_clearActions_1 rfl (Nat.le_of_ble_eq_true rfl) ?_
  exact loop n 0 _ M (by omega) Fr.rf
theorem doActions_ok (hG : Core G) {j n : Nat} (hj : j < 12) (hn3 : n ≤ 3) (hn : M.1 (125 + 4 * j) 0 = nI n) (z tm : Int32) : ∃ v M', Ret G (d + 2) 104 [.ref 0, .ref (125 + 4 * j), .int z, .int tm] M v M' ∧ (v = none ∧ Fr w0B M M') := by
  have loop : ∀ m i o5 M1, i + m = n → Fr w0B M M1 → E G (d + 1) 104 (3, [some (.ref 0), some (.ref (125 + 4 * j)), some (.int z), some (.int tm), some (.int (nI i)), o5], [], M1, 0) (fun r => ∃ v M', r = (.inl v, M', 0) ∧ (v = none ∧ Fr w0B M M')) := by
    intro m
    induction m with
    | zero =>
      intro i o5 M1 hi hF1
      have e : i = n := by omega
      have hn1 : M1.1 (125 + 4 * j) 0 = nI n := (hF1.1 _ _ (w0B_low (by omega))).trans hn
      refine E_iload fX9_doActions_3 rfl ?_
      refine E_aload_n fX9_doActions_5 rfl (by have := (ks0_lt hj); omega) ?_
      refine E_getI fX9_doActions_6 (ks0 hG hj) (ks0_lt hj) (by decide) (by decide) ?_
      refine E_icge (tg := 169) fX9_doActions_9 (by decide) (fun c_9 => ?_) (fun c => absurd (by rw [hn1, e]; exact Int32.le_refl _) c)
      exact R_vret fX9_doActions_169 mX9_doActions rfl ⟨_, _, rfl, rfl, hF1⟩
    | succ m ih =>
      intro i o5 M1 hi hF1
      have hlt : i < n := by omega
      have hn1 : M1.1 (125 + 4 * j) 0 = nI n := (hF1.1 _ _ (w0B_low (by omega))).trans hn
      refine E_iload fX9_doActions_3 rfl ?_
      refine E_aload_n fX9_doActions_5 rfl (by have := (ks0_lt hj); omega) ?_
      refine E_getI fX9_doActions_6 (ks0 hG hj) (ks0_lt hj) (by decide) (by decide) ?_
      refine E_icge (tg := 169) fX9_doActions_9 (by decide) (fun c => absurd c (by rw [hn1]; exact nI_ge hlt (by omega))) (fun c_9 => ?_)
      refine E_aload_n fX9_doActions_12 rfl (by have := (ks0_lt hj); omega) ?_
      refine E_getR (r' := 125 + 4 * j + 2) fX9_doActions_13 (ks0 hG hj) (ks0_lt hj) (by decide) (by decide) rfl ?_
      refine E_iload fX9_doActions_16 rfl ?_
      refine E_iald (n := i) (K := 25) fX9_doActions_18 (ks2 hG hj) ⟨by decide, by decide⟩ (ks2_lt hj) rfl (by show i < 3; omega) ?_
      refine E_istore (L' := [some (.ref 0), some (.ref (125 + 4 * j)), some (.int z), some (.int tm), some (.int (nI i)), some (.int (M1.1 (125 + 4 * j + 2) i))]) fX9_doActions_19 rfl (Nat.le_of_ble_eq_true rfl) ?_
      refine E_aload_n fX9_doActions_21 rfl (by have := (ks0_lt hj); omega) ?_
      refine E_getR (r' := 125 + 4 * j + 1) fX9_doActions_22 (ks0 hG hj) (ks0_lt hj) (by decide) (by decide) rfl ?_
      refine E_iload fX9_doActions_25 rfl ?_
      refine E_cald (n := i) (K := 27) fX9_doActions_27 (ks1 hG hj) ⟨by decide, by decide⟩ (ks1_lt hj) rfl (by show i < 3; omega) ?_
      by_cases e100_28 : (M1.1 (125 + 4 * j + 1) i) = 100
      · refine E_lsw (off := 49) (tg := 77) fX9_doActions_28 (by rw [e100_28]; rfl) (by decide) ?_
        refine E_aload_n fX9_doActions_77 rfl (by decide) ?_
        refine E_getR (r' := 377) fX9_doActions_78 (k0 hG) (by decide) (by decide) (by decide) rfl ?_
        refine E_iload fX9_doActions_81 rfl ?_
        refine E_iload_n fX9_doActions_83 rfl ?_
        refine E_aload_n fX9_doActions_84 rfl (by have := (ks0_lt hj); omega) ?_
        refine E_getR (r' := 125 + 4 * j + 3) fX9_doActions_85 (ks0 hG hj) (ks0_lt hj) (by decide) (by decide) rfl ?_
        refine E_iload fX9_doActions_88 rfl ?_
        refine E_iald (n := i) (K := 25) fX9_doActions_90 (ks3 hG hj) ⟨by decide, by decide⟩ (ks3_lt hj) rfl (by show i < 3; omega) ?_
        refine E_iclt (tg := 98) fX9_doActions_91 (by decide) (fun c_91 => ?_) (fun c_91 => ?_)
        · refine E_iconst (v := 0) fX9_doActions_98 (by decide) ?_
          obtain ⟨v10, M10, hR1, rfl, w1, rfl⟩ := write_ok (d := d) (M := M1) hG (M1.1 (125 + 4 * j + 2) i) 0
          refine E_callV (t := []) hR1 fX9_doActions_99 mX5_write (rc_obj (k377 hG) (by decide) (by decide)) ⟨by decide, rfl⟩ rfl rfl (Nat.le_of_ble_eq_true rfl) ?_
          refine E_goto (tg := 163) fX9_doActions_102 (by decide) ?_
          refine E_iinc (v := nI (i + 1)) (L' := [some (.ref 0), some (.ref (125 + 4 * j)), some (.int z), some (.int tm), some (.int (nI (i + 1))), some (.int (M1.1 (125 + 4 * j + 2) i))]) fX9_doActions_163 rfl (inc1 _) rfl ?_
          refine E_goto (tg := 3) fX9_doActions_166 (by decide) ?_
          exact ih (i + 1) _ _ (by omega) (hF1.pI rfl)
        · refine E_iconst (v := 1) fX9_doActions_94 (by decide) ?_
          refine E_goto (tg := 99) fX9_doActions_95 (by decide) ?_
          obtain ⟨v11, M11, hR2, rfl, w2, rfl⟩ := write_ok (d := d) (M := M1) hG (M1.1 (125 + 4 * j + 2) i) 1
          refine E_callV (t := []) hR2 fX9_doActions_99 mX5_write (rc_obj (k377 hG) (by decide) (by decide)) ⟨by decide, rfl⟩ rfl rfl (Nat.le_of_ble_eq_true rfl) ?_
          refine E_goto (tg := 163) fX9_doActions_102 (by decide) ?_
          refine E_iinc (v := nI (i + 1)) (L' := [some (.ref 0), some (.ref (125 + 4 * j)), some (.int z), some (.int tm), some (.int (nI (i + 1))), some (.int (M1.1 (125 + 4 * j + 2) i))]) fX9_doActions_163 rfl (inc1 _) rfl ?_
          refine E_goto (tg := 3) fX9_doActions_166 (by decide) ?_
          exact ih (i + 1) _ _ (by omega) (hF1.pI rfl)
      · by_cases e108_28 : (M1.1 (125 + 4 * j + 1) i) = 108
        · refine E_lsw (off := 77) (tg := 105) fX9_doActions_28 (by rw [e108_28]; rfl) (by decide) ?_
          refine E_aload_n fX9_doActions_105 rfl (by decide) ?_
          refine E_getR (r' := 377) fX9_doActions_106 (k0 hG) (by decide) (by decide) (by decide) rfl ?_
          refine E_iload fX9_doActions_109 rfl ?_
          refine E_iload_n fX9_doActions_111 rfl ?_
          refine E_aload_n fX9_doActions_112 rfl (by have := (ks0_lt hj); omega) ?_
          refine E_getR (r' := 125 + 4 * j + 3) fX9_doActions_113 (ks0 hG hj) (ks0_lt hj) (by decide) (by decide) rfl ?_
          refine E_iload fX9_doActions_116 rfl ?_
          refine E_iald (n := i) (K := 25) fX9_doActions_118 (ks3 hG hj) ⟨by decide, by decide⟩ (ks3_lt hj) rfl (by show i < 3; omega) ?_
          refine E_icge (tg := 126) fX9_doActions_119 (by decide) (fun c_119 => ?_) (fun c_119 => ?_)
          · refine E_iconst (v := 0) fX9_doActions_126 (by decide) ?_
            obtain ⟨v12, M12, hR3, rfl, w3, rfl⟩ := write_ok (d := d) (M := M1) hG (M1.1 (125 + 4 * j + 2) i) 0
            refine E_callV (t := []) hR3 fX9_doActions_127 mX5_write (rc_obj (k377 hG) (by decide) (by decide)) ⟨by decide, rfl⟩ rfl rfl (Nat.le_of_ble_eq_true rfl) ?_
            refine E_goto (tg := 163) fX9_doActions_130 (by decide) ?_
            refine E_iinc (v := nI (i + 1)) (L' := [some (.ref 0), some (.ref (125 + 4 * j)), some (.int z), some (.int tm), some (.int (nI (i + 1))), some (.int (M1.1 (125 + 4 * j + 2) i))]) fX9_doActions_163 rfl (inc1 _) rfl ?_
            refine E_goto (tg := 3) fX9_doActions_166 (by decide) ?_
            exact ih (i + 1) _ _ (by omega) (hF1.pI rfl)
          · refine E_iconst (v := 1) fX9_doActions_122 (by decide) ?_
            refine E_goto (tg := 127) fX9_doActions_123 (by decide) ?_
            obtain ⟨v13, M13, hR4, rfl, w4, rfl⟩ := write_ok (d := d) (M := M1) hG (M1.1 (125 + 4 * j + 2) i) 1
            refine E_callV (t := []) hR4 fX9_doActions_127 mX5_write (rc_obj (k377 hG) (by decide) (by decide)) ⟨by decide, rfl⟩ rfl rfl (Nat.le_of_ble_eq_true rfl) ?_
            refine E_goto (tg := 163) fX9_doActions_130 (by decide) ?_
            refine E_iinc (v := nI (i + 1)) (L' := [some (.ref 0), some (.ref (125 + 4 * j)), some (.int z), some (.int tm), some (.int (nI (i + 1))), some (.int (M1.1 (125 + 4 * j + 2) i))]) fX9_doActions_163 rfl (inc1 _) rfl ?_
            refine E_goto (tg := 3) fX9_doActions_166 (by decide) ?_
            exact ih (i + 1) _ _ (by omega) (hF1.pI rfl)
        · by_cases e110_28 : (M1.1 (125 + 4 * j + 1) i) = 110
          · refine E_lsw (off := 36) (tg := 64) fX9_doActions_28 (by rw [e110_28]; rfl) (by decide) ?_
            refine E_aload_n fX9_doActions_64 rfl (by decide) ?_
            refine E_getR (r' := 377) fX9_doActions_65 (k0 hG) (by decide) (by decide) (by decide) rfl ?_
            refine E_iload fX9_doActions_68 rfl ?_
            refine E_iconst (v := 1) fX9_doActions_70 (by decide) ?_
            obtain ⟨v14, M14, hR5, rfl, w5, rfl⟩ := write_ok (d := d) (M := M1) hG (M1.1 (125 + 4 * j + 2) i) 1
            refine E_callV (t := []) hR5 fX9_doActions_71 mX5_write (rc_obj (k377 hG) (by decide) (by decide)) ⟨by decide, rfl⟩ rfl rfl (Nat.le_of_ble_eq_true rfl) ?_
            refine E_goto (tg := 163) fX9_doActions_74 (by decide) ?_
            refine E_iinc (v := nI (i + 1)) (L' := [some (.ref 0), some (.ref (125 + 4 * j)), some (.int z), some (.int tm), some (.int (nI (i + 1))), some (.int (M1.1 (125 + 4 * j + 2) i))]) fX9_doActions_163 rfl (inc1 _) rfl ?_
            refine E_goto (tg := 3) fX9_doActions_166 (by decide) ?_
            exact ih (i + 1) _ _ (by omega) (hF1.pI rfl)
          · refine E_lsw (off := 105) (tg := 133) fX9_doActions_28 (by show Jvm.Op.lookupswitch.offset [(100, 49), (108, 77), (110, 36)] (105) _ = 105; rw [Jvm.Op.lookupswitch.offset_cons, if_neg (tI_ne (z := 100) e100_28 (by decide)), Jvm.Op.lookupswitch.offset_cons, if_neg (tI_ne (z := 108) e108_28 (by decide)), Jvm.Op.lookupswitch.offset_cons, if_neg (tI_ne (z := 110) e110_28 (by decide)), Jvm.Op.lookupswitch.offset_nil]) (by decide) ?_
            refine E_iload_n fX9_doActions_133 rfl ?_
            refine E_ifeq (tg := 163) fX9_doActions_134 (by decide) (fun c_134 => ?_) (fun c_134 => ?_)
            · refine E_iinc (v := nI (i + 1)) (L' := [some (.ref 0), some (.ref (125 + 4 * j)), some (.int z), some (.int tm), some (.int (nI (i + 1))), some (.int (M1.1 (125 + 4 * j + 2) i))]) fX9_doActions_163 rfl (inc1 _) rfl ?_
              refine E_goto (tg := 3) fX9_doActions_166 (by decide) ?_
              exact ih (i + 1) _ M1 (by omega) hF1
            · refine E_aload_n fX9_doActions_137 rfl (by decide) ?_
              refine E_getR (r' := 377) fX9_doActions_138 (k0 hG) (by decide) (by decide) (by decide) rfl ?_
              refine E_iload fX9_doActions_141 rfl ?_
              refine E_aload_n fX9_doActions_143 rfl (by have := (ks0_lt hj); omega) ?_
              refine E_getR (r' := 125 + 4 * j + 1) fX9_doActions_144 (ks0 hG hj) (ks0_lt hj) (by decide) (by decide) rfl ?_
              refine E_iload fX9_doActions_147 rfl ?_
              refine E_cald (n := i) (K := 27) fX9_doActions_149 (ks1 hG hj) ⟨by decide, by decide⟩ (ks1_lt hj) rfl (by show i < 3; omega) ?_
              refine E_bipush (v := 115) fX9_doActions_150 (by decide) ?_
              refine E_icne (tg := 159) fX9_doActions_152 (by decide) (fun c_152 => ?_) (fun c_152 => ?_)
              · refine E_iconst (v := 0) fX9_doActions_159 (by decide) ?_
                obtain ⟨v15, M15, hR6, rfl, w6, rfl⟩ := write_ok (d := d) (M := M1) hG (M1.1 (125 + 4 * j + 2) i) 0
                refine E_callV (t := []) hR6 fX9_doActions_160 mX5_write (rc_obj (k377 hG) (by decide) (by decide)) ⟨by decide, rfl⟩ rfl rfl (Nat.le_of_ble_eq_true rfl) ?_
                refine E_iinc (v := nI (i + 1)) (L' := [some (.ref 0), some (.ref (125 + 4 * j)), some (.int z), some (.int tm), some (.int (nI (i + 1))), some (.int (M1.1 (125 + 4 * j + 2) i))]) fX9_doActions_163 rfl (inc1 _) rfl ?_
                refine E_goto (tg := 3) fX9_doActions_166 (by decide) ?_
                exact ih (i + 1) _ _ (by omega) (hF1.pI rfl)
              · refine E_iconst (v := 1) fX9_doActions_155 (by decide) ?_
                refine E_goto (tg := 160) fX9_doActions_156 (by decide) ?_
                obtain ⟨v16, M16, hR7, rfl, w7, rfl⟩ := write_ok (d := d) (M := M1) hG (M1.1 (125 + 4 * j + 2) i) 1
                refine E_callV (t := []) hR7 fX9_doActions_160 mX5_write (rc_obj (k377 hG) (by decide) (by decide)) ⟨by decide, rfl⟩ rfl rfl (Nat.le_of_ble_eq_true rfl) ?_
                refine E_iinc (v := nI (i + 1)) (L' := [some (.ref 0), some (.ref (125 + 4 * j)), some (.int z), some (.int tm), some (.int (nI (i + 1))), some (.int (M1.1 (125 + 4 * j + 2) i))]) fX9_doActions_163 rfl (inc1 _) rfl ?_
                refine E_goto (tg := 3) fX9_doActions_166 (by decide) ?_
                exact ih (i + 1) _ _ (by omega) (hF1.pI rfl)
  refine X_start (d := d + 1) (by decide) mX9_doActions ?_
  show E _ _ _ (0, [some (.ref 0), some (.ref (125 + 4 * j)), some (.int z), some (.int tm), none, none], [], M, 0) _
  refine E_iconst (v := 0) fX9_doActions_0 (by decide) ?_
  refine E_istore (L' := [some (.ref 0), some (.ref (125 + 4 * j)), some (.int z), some (.int tm), some (.int 0), none]) fX9_doActions_1 rfl (Nat.le_of_ble_eq_true rfl) ?_
  exact loop n 0 _ M (by omega) Fr.rf
theorem runChart_ok (hG : Core G) {s t : Nat} (hC : CK M s t) (hA : AK M s) (el : Int32) : ∃ v M', Ret G (d + 3) 100 [.ref 0, .int el] M v M' ∧ (v = none ∧ AK M' s ∧ Fr chB M M') := by
  have loop3 : ∀ m i be mk lf en M1, i + m = s → AK M1 s → Fr chB M M1 → E G (d + 2) 100 (161, [some (.ref 0), some (.int el), some (.int be), some (.int mk), some (.int lf), some (.int en), some (.int (nI i))], [], M1, 0) (fun r => ∃ v M', r = (.inl v, M', 0) ∧ (v = none ∧ AK M' s ∧ Fr chB M M')) := by
    intro m
    induction m with
    | zero =>
      intro i be mk lf en M1 hi hA1 hF1
      have e : i = s := by omega
      have hC1 := hC.ch hF1
      refine E_iload fX9_runChart_161 rfl ?_
      refine E_aload_n fX9_runChart_163 rfl (by decide) ?_
      refine E_getR (r' := 1) fX9_runChart_164 (k0 hG) (by decide) (by decide) (by decide) rfl ?_
      refine E_getI fX9_runChart_167 (k1 hG) (by decide) (by decide) (by decide) ?_
      refine E_icge (tg := 225) fX9_runChart_170 (by decide) (fun c_170 => ?_) (fun c => absurd (by rw [hC1.2.1, e]; exact Int32.le_refl _) c)
      exact R_vret fX9_runChart_225 mX9_runChart rfl ⟨_, _, rfl, rfl, hA1, hF1⟩
    | succ m ih =>
      intro i be mk lf en M1 hi hA1 hF1
      have hlt : i < s := by omega
      have hC1 := hC.ch hF1
      have h12 : i < 12 := by have := hC.1; omega
      obtain ⟨n, hn3, hn⟩ := hC1.2.2.2.2.1 i hlt
      refine E_iload fX9_runChart_161 rfl ?_
      refine E_aload_n fX9_runChart_163 rfl (by decide) ?_
      refine E_getR (r' := 1) fX9_runChart_164 (k0 hG) (by decide) (by decide) (by decide) rfl ?_
      refine E_getI fX9_runChart_167 (k1 hG) (by decide) (by decide) (by decide) ?_
      refine E_icge (tg := 225) fX9_runChart_170 (by decide) (fun c => absurd c (by rw [hC1.2.1]; exact nI_ge hlt (by have := hC.1; omega))) (fun c_170 => ?_)
      refine E_aload_n fX9_runChart_173 rfl (by decide) ?_
      refine E_getR (r' := 377) fX9_runChart_174 (k0 hG) (by decide) (by decide) (by decide) rfl ?_
      refine E_getI fX9_runChart_177 (k377 hG) (by decide) (by decide) (by decide) ?_
      refine E_iload fX9_runChart_180 rfl ?_
      refine E_callS (t := []) (isSet_ok (M1.1 377 1) (nI i)) fX9_runChart_182 (by decide) mX9_isSet ⟨rfl, rfl⟩ rfl rfl (Nat.le_of_ble_eq_true rfl) ?_
      refine E_ifeq (tg := 219) fX9_runChart_185 (by decide) (fun c_185 => ?_) (fun c_185 => ?_)
      · refine E_iinc (v := nI (i + 1)) (L' := [some (.ref 0), some (.int el), some (.int be), some (.int mk), some (.int lf), some (.int en), some (.int (nI (i + 1)))]) fX9_runChart_219 rfl (inc1 _) rfl ?_
        refine E_goto (tg := 161) fX9_runChart_222 (by decide) ?_
        exact ih (i + 1) _ _ _ _ M1 (by omega) hA1 hF1
      · refine E_aload_n fX9_runChart_188 rfl (by decide) ?_
        refine E_aload_n fX9_runChart_189 rfl (by decide) ?_
        refine E_getR (r' := 1) fX9_runChart_190 (k0 hG) (by decide) (by decide) (by decide) rfl ?_
        refine E_getR (r' := 3) fX9_runChart_193 (k1 hG) (by decide) (by decide) (by decide) rfl ?_
        refine E_iload fX9_runChart_196 rfl ?_
        refine E_aald (n := i) (r' := 125 + 4 * i) (K := 29) fX9_runChart_198 (k3 hG) ⟨by decide, by decide⟩ (by decide) rfl (by show i < 12; omega) (by show 3 + (122 + 4 * i) = 125 + 4 * i; omega) ?_
        refine E_iload fX9_runChart_199 rfl ?_
        refine E_iload fX9_runChart_201 rfl ?_
        refine E_callS (t := [.ref (125 + 4 * i), .ref 0]) (isSet_ok en (nI i)) fX9_runChart_203 (by decide) mX9_isSet ⟨rfl, rfl⟩ rfl rfl (Nat.le_of_ble_eq_true rfl) ?_
        refine E_aload_n fX9_runChart_206 rfl (by decide) ?_
        refine E_getR (r' := 377) fX9_runChart_207 (k0 hG) (by decide) (by decide) (by decide) rfl ?_
        refine E_getR (r' := 380) fX9_runChart_210 (k377 hG) (by decide) (by decide) (by decide) rfl ?_
        refine E_iload fX9_runChart_213 rfl ?_
        refine E_iald (n := i) (K := 21) fX9_runChart_215 (k380 hG) ⟨by decide, by decide⟩ (by decide) rfl (by show i < 12; omega) ?_
        obtain ⟨v2, M2, hR2, rfl, hF2⟩ := doActions_ok (d := d) (M := M1) hG h12 hn3 hn (bI (isB1 en (nI i))) (M1.1 380 i)
        refine E_callV (t := []) hR2 fX9_runChart_216 mX9_doActions (rc_obj (k0 hG) (by decide) (by decide)) ⟨by decide, rfl⟩ rfl rfl (Nat.le_of_ble_eq_true rfl) ?_
        refine E_iinc (v := nI (i + 1)) (L' := [some (.ref 0), some (.int el), some (.int be), some (.int mk), some (.int lf), some (.int en), some (.int (nI (i + 1)))]) fX9_runChart_219 rfl (inc1 _) rfl ?_
        refine E_goto (tg := 161) fX9_runChart_222 (by decide) ?_
        exact ih (i + 1) _ _ _ _ M2 (by omega) (hA1.w0 hF2) (hF1.tr (hF2.mono w0B_chB))
  have loop2 : ∀ m i be mk lf en M1, i + m = s → AK M1 s → Fr chB M M1 → E G (d + 2) 100 (116, [some (.ref 0), some (.int el), some (.int be), some (.int mk), some (.int lf), some (.int en), some (.int (nI i))], [], M1, 0) (fun r => ∃ v M', r = (.inl v, M', 0) ∧ (v = none ∧ AK M' s ∧ Fr chB M M')) := by
    intro m
    induction m with
    | zero =>
      intro i be mk lf en M1 hi hA1 hF1
      have e : i = s := by omega
      have hC1 := hC.ch hF1
      refine E_iload fX9_runChart_116 rfl ?_
      refine E_aload_n fX9_runChart_118 rfl (by decide) ?_
      refine E_getR (r' := 1) fX9_runChart_119 (k0 hG) (by decide) (by decide) (by decide) rfl ?_
      refine E_getI fX9_runChart_122 (k1 hG) (by decide) (by decide) (by decide) ?_
      refine E_icge (tg := 158) fX9_runChart_125 (by decide) (fun c_125 => ?_) (fun c => absurd (by rw [hC1.2.1, e]; exact Int32.le_refl _) c)
      refine E_iconst (v := 0) fX9_runChart_158 (by decide) ?_
      refine E_istore (L' := [some (.ref 0), some (.int el), some (.int be), some (.int mk), some (.int lf), some (.int en), some (.int 0)]) fX9_runChart_159 rfl (Nat.le_of_ble_eq_true rfl) ?_
      exact loop3 s 0 _ _ _ _ M1 (by omega) hA1 hF1
    | succ m ih =>
      intro i be mk lf en M1 hi hA1 hF1
      have hlt : i < s := by omega
      have hC1 := hC.ch hF1
      have h12 : i < 12 := by have := hC.1; omega
      obtain ⟨n, hn3, hn⟩ := hC1.2.2.2.2.1 i hlt
      refine E_iload fX9_runChart_116 rfl ?_
      refine E_aload_n fX9_runChart_118 rfl (by decide) ?_
      refine E_getR (r' := 1) fX9_runChart_119 (k0 hG) (by decide) (by decide) (by decide) rfl ?_
      refine E_getI fX9_runChart_122 (k1 hG) (by decide) (by decide) (by decide) ?_
      refine E_icge (tg := 158) fX9_runChart_125 (by decide) (fun c => absurd c (by rw [hC1.2.1]; exact nI_ge hlt (by have := hC.1; omega))) (fun c_125 => ?_)
      refine E_iload fX9_runChart_128 rfl ?_
      refine E_iload fX9_runChart_130 rfl ?_
      refine E_callS (t := []) (isSet_ok lf (nI i)) fX9_runChart_132 (by decide) mX9_isSet ⟨rfl, rfl⟩ rfl rfl (Nat.le_of_ble_eq_true rfl) ?_
      refine E_ifeq (tg := 152) fX9_runChart_135 (by decide) (fun c_135 => ?_) (fun c_135 => ?_)
      · refine E_iinc (v := nI (i + 1)) (L' := [some (.ref 0), some (.int el), some (.int be), some (.int mk), some (.int lf), some (.int en), some (.int (nI (i + 1)))]) fX9_runChart_152 rfl (inc1 _) rfl ?_
        refine E_goto (tg := 116) fX9_runChart_155 (by decide) ?_
        exact ih (i + 1) _ _ _ _ M1 (by omega) hA1 hF1
      · refine E_aload_n fX9_runChart_138 rfl (by decide) ?_
        refine E_aload_n fX9_runChart_139 rfl (by decide) ?_
        refine E_getR (r' := 1) fX9_runChart_140 (k0 hG) (by decide) (by decide) (by decide) rfl ?_
        refine E_getR (r' := 3) fX9_runChart_143 (k1 hG) (by decide) (by decide) (by decide) rfl ?_
        refine E_iload fX9_runChart_146 rfl ?_
        refine E_aald (n := i) (r' := 125 + 4 * i) (K := 29) fX9_runChart_148 (k3 hG) ⟨by decide, by decide⟩ (by decide) rfl (by show i < 12; omega) (by show 3 + (122 + 4 * i) = 125 + 4 * i; omega) ?_
        obtain ⟨v2, M2, hR2, rfl, hF2⟩ := clearActions_ok (d := d) (M := M1) hG h12 hn3 hn 
        refine E_callV (t := []) hR2 fX9_runChart_149 mX9_clearActions (rc_obj (k0 hG) (by decide) (by decide)) ⟨by decide, rfl⟩ rfl rfl (Nat.le_of_ble_eq_true rfl) ?_
        refine E_iinc (v := nI (i + 1)) (L' := [some (.ref 0), some (.int el), some (.int be), some (.int mk), some (.int lf), some (.int en), some (.int (nI (i + 1)))]) fX9_runChart_152 rfl (inc1 _) rfl ?_
        refine E_goto (tg := 116) fX9_runChart_155 (by decide) ?_
        exact ih (i + 1) _ _ _ _ M2 (by omega) (hA1.w0 hF2) (hF1.tr (hF2.mono w0B_chB))
  have loop1 : ∀ m i be mk lf en M1, i + m = s → AK M1 s → Fr chB M M1 → E G (d + 2) 100 (42, [some (.ref 0), some (.int el), some (.int be), some (.int mk), some (.int lf), some (.int en), some (.int (nI i))], [], M1, 0) (fun r => ∃ v M', r = (.inl v, M', 0) ∧ (v = none ∧ AK M' s ∧ Fr chB M M')) := by
    intro m
    induction m with
    | zero =>
      intro i be mk lf en M1 hi hA1 hF1
      have e : i = s := by omega
      have hC1 := hC.ch hF1
      refine E_iload fX9_runChart_42 rfl ?_
      refine E_aload_n fX9_runChart_44 rfl (by decide) ?_
      refine E_getR (r' := 1) fX9_runChart_45 (k0 hG) (by decide) (by decide) (by decide) rfl ?_
      refine E_getI fX9_runChart_48 (k1 hG) (by decide) (by decide) (by decide) ?_
      refine E_icge (tg := 113) fX9_runChart_51 (by decide) (fun c_51 => ?_) (fun c => absurd (by rw [hC1.2.1, e]; exact Int32.le_refl _) c)
      refine E_iconst (v := 0) fX9_runChart_113 (by decide) ?_
      refine E_istore (L' := [some (.ref 0), some (.int el), some (.int be), some (.int mk), some (.int lf), some (.int en), some (.int 0)]) fX9_runChart_114 rfl (Nat.le_of_ble_eq_true rfl) ?_
      exact loop2 s 0 _ _ _ _ M1 (by omega) hA1 hF1
    | succ m ih =>
      intro i be mk lf en M1 hi hA1 hF1
      have hlt : i < s := by omega
      have hC1 := hC.ch hF1
      have h12 : i < 12 := by have := hC.1; omega
      obtain ⟨n, hn3, hn⟩ := hC1.2.2.2.2.1 i hlt
      refine E_iload fX9_runChart_42 rfl ?_
      refine E_aload_n fX9_runChart_44 rfl (by decide) ?_
      refine E_getR (r' := 1) fX9_runChart_45 (k0 hG) (by decide) (by decide) (by decide) rfl ?_
      refine E_getI fX9_runChart_48 (k1 hG) (by decide) (by decide) (by decide) ?_
      refine E_icge (tg := 113) fX9_runChart_51 (by decide) (fun c => absurd c (by rw [hC1.2.1]; exact nI_ge hlt (by have := hC.1; omega))) (fun c_51 => ?_)
      refine E_iload fX9_runChart_54 rfl ?_
      refine E_iload fX9_runChart_56 rfl ?_
      refine E_callS (t := []) (isSet_ok en (nI i)) fX9_runChart_58 (by decide) mX9_isSet ⟨rfl, rfl⟩ rfl rfl (Nat.le_of_ble_eq_true rfl) ?_
      refine E_ifeq (tg := 78) fX9_runChart_61 (by decide) (fun c_61 => ?_) (fun c_61 => ?_)
      · refine E_aload_n fX9_runChart_78 rfl (by decide) ?_
        refine E_getR (r' := 377) fX9_runChart_79 (k0 hG) (by decide) (by decide) (by decide) rfl ?_
        refine E_getI fX9_runChart_82 (k377 hG) (by decide) (by decide) (by decide) ?_
        refine E_iload fX9_runChart_85 rfl ?_
        refine E_callS (t := []) (isSet_ok (M1.1 377 1) (nI i)) fX9_runChart_87 (by decide) mX9_isSet ⟨rfl, rfl⟩ rfl rfl (Nat.le_of_ble_eq_true rfl) ?_
        refine E_ifeq (tg := 107) fX9_runChart_90 (by decide) (fun c_90 => ?_) (fun c_90 => ?_)
        · refine E_iinc (v := nI (i + 1)) (L' := [some (.ref 0), some (.int el), some (.int be), some (.int mk), some (.int lf), some (.int en), some (.int (nI (i + 1)))]) fX9_runChart_107 rfl (inc1 _) rfl ?_
          refine E_goto (tg := 42) fX9_runChart_110 (by decide) ?_
          exact ih (i + 1) _ _ _ _ M1 (by omega) hA1 hF1
        · refine E_aload_n fX9_runChart_93 rfl (by decide) ?_
          refine E_getR (r' := 377) fX9_runChart_94 (k0 hG) (by decide) (by decide) (by decide) rfl ?_
          refine E_getR (r' := 380) fX9_runChart_97 (k377 hG) (by decide) (by decide) (by decide) rfl ?_
          refine E_iload fX9_runChart_100 rfl ?_
          refine E_dup2 fX9_runChart_102 rfl rfl ?_
          refine E_iald (n := i) (K := 21) fX9_runChart_103 (k380 hG) ⟨by decide, by decide⟩ (by decide) rfl (by show i < 12; omega) ?_
          refine E_iload_n fX9_runChart_104 rfl ?_
          refine E_iadd fX9_runChart_105 ?_
          refine E_iast (n := i) (K := 21) fX9_runChart_106 (k380 hG) ⟨by decide, by decide⟩ (by decide) rfl (by show i < 12; omega) ?_
          refine E_iinc (v := nI (i + 1)) (L' := [some (.ref 0), some (.int el), some (.int be), some (.int mk), some (.int lf), some (.int en), some (.int (nI (i + 1)))]) fX9_runChart_107 rfl (inc1 _) rfl ?_
          refine E_goto (tg := 42) fX9_runChart_110 (by decide) ?_
          exact ih (i + 1) _ _ _ _ _ (by omega) (hA1.eq (pI_ne (Or.inl (by decide)))) (hF1.pI rfl)
      · refine E_aload_n fX9_runChart_64 rfl (by decide) ?_
        refine E_getR (r' := 377) fX9_runChart_65 (k0 hG) (by decide) (by decide) (by decide) rfl ?_
        refine E_getR (r' := 380) fX9_runChart_68 (k377 hG) (by decide) (by decide) (by decide) rfl ?_
        refine E_iload fX9_runChart_71 rfl ?_
        refine E_iconst (v := 0) fX9_runChart_73 (by decide) ?_
        refine E_iast (n := i) (K := 21) fX9_runChart_74 (k380 hG) ⟨by decide, by decide⟩ (by decide) rfl (by show i < 12; omega) ?_
        refine E_goto (tg := 107) fX9_runChart_75 (by decide) ?_
        refine E_iinc (v := nI (i + 1)) (L' := [some (.ref 0), some (.int el), some (.int be), some (.int mk), some (.int lf), some (.int en), some (.int (nI (i + 1)))]) fX9_runChart_107 rfl (inc1 _) rfl ?_
        refine E_goto (tg := 42) fX9_runChart_110 (by decide) ?_
        exact ih (i + 1) _ _ _ _ _ (by omega) (hA1.eq (pI_ne (Or.inl (by decide)))) (hF1.pI rfl)
  refine X_start (d := d + 2) (by decide) mX9_runChart ?_
  show E _ _ _ (0, [some (.ref 0), some (.int el), none, none, none, none, none], [], M, 0) _
  refine E_aload_n fX9_runChart_0 rfl (by decide) ?_
  refine E_getR (r' := 377) fX9_runChart_1 (k0 hG) (by decide) (by decide) (by decide) rfl ?_
  refine E_getI fX9_runChart_4 (k377 hG) (by decide) (by decide) (by decide) ?_
  refine E_istore_n (L' := [some (.ref 0), some (.int el), some (.int (M.1 377 1)), none, none, none, none]) fX9_runChart_7 rfl (Nat.le_of_ble_eq_true rfl) ?_
  refine E_aload_n fX9_runChart_8 rfl (by decide) ?_
  obtain ⟨v1, M1, hR1, ⟨mk, rfl⟩, hA1, hF1⟩ := fireTransitions_ok (d := d) (M := M) hG hC hA
  refine E_callV (t := []) hR1 fX9_runChart_9 mX9_fireTransitions (rc_obj (k0 hG) (by decide) (by decide)) ⟨by decide, rfl⟩ rfl rfl (Nat.le_of_ble_eq_true rfl) ?_
  refine E_istore_n (L' := [some (.ref 0), some (.int el), some (.int (M.1 377 1)), some (.int mk), none, none, none]) fX9_runChart_12 rfl (Nat.le_of_ble_eq_true rfl) ?_
  refine E_iload_n fX9_runChart_13 rfl ?_
  refine E_aload_n fX9_runChart_14 rfl (by decide) ?_
  refine E_getR (r' := 377) fX9_runChart_15 (k0 hG) (by decide) (by decide) (by decide) rfl ?_
  refine E_getI fX9_runChart_18 (k377 hG) (by decide) (by decide) (by decide) ?_
  refine E_iconst (v := (-1)) fX9_runChart_21 (by decide) ?_
  refine E_ixor fX9_runChart_22 ?_
  refine E_iload_n fX9_runChart_23 rfl ?_
  refine E_ior fX9_runChart_24 ?_
  refine E_iand fX9_runChart_25 ?_
  refine E_istore (L' := [some (.ref 0), some (.int el), some (.int (M.1 377 1)), some (.int mk), some (.int ((M.1 377 1) &&& (((M1.1 377 1) ^^^ (-1)) ||| mk))), none, none]) fX9_runChart_26 rfl (Nat.le_of_ble_eq_true rfl) ?_
  refine E_aload_n fX9_runChart_28 rfl (by decide) ?_
  refine E_getR (r' := 377) fX9_runChart_29 (k0 hG) (by decide) (by decide) (by decide) rfl ?_
  refine E_getI fX9_runChart_32 (k377 hG) (by decide) (by decide) (by decide) ?_
  refine E_iload_n fX9_runChart_35 rfl ?_
  refine E_iand fX9_runChart_36 ?_
  refine E_istore (L' := [some (.ref 0), some (.int el), some (.int (M.1 377 1)), some (.int mk), some (.int ((M.1 377 1) &&& (((M1.1 377 1) ^^^ (-1)) ||| mk))), some (.int ((M1.1 377 1) &&& mk)), none]) fX9_runChart_37 rfl (Nat.le_of_ble_eq_true rfl) ?_
  refine E_iconst (v := 0) fX9_runChart_39 (by decide) ?_
  refine E_istore (L' := [some (.ref 0), some (.int el), some (.int (M.1 377 1)), some (.int mk), some (.int ((M.1 377 1) &&& (((M1.1 377 1) ^^^ (-1)) ||| mk))), some (.int ((M1.1 377 1) &&& mk)), some (.int 0)]) fX9_runChart_40 rfl (Nat.le_of_ble_eq_true rfl) ?_
  exact loop1 s 0 _ _ _ _ M1 (by omega) hA1 hF1
end SP9
