section SP25
variable {G : MG} {d : Nat} {M M' : Mem}
theorem all_ok (hG : Core G) {n : Nat} (hn : n ≤ 8) (hl : M.1 383 4 = nI n) (h12 : M.1 0 12 = 0 ∨ M.1 0 12 = 1) : ∃ v M' c, RetC G (d + 7) 124 [.ref 0] M v M' c ∧ (M' = M ∧ c ≤ 12 ∧ ∃ x, v = some (.long x)) := by
  have l4 : ∀ m i sm q, i + m = n → q ≤ 12 → E G (d + 6) 124 (155, [some (.ref 0), some (.long sm), none, some (.int (nI i))], [], M, q) (fun r => ∃ v M' c, r = (.inl v, M', c) ∧ (M' = M ∧ c ≤ 12 ∧ ∃ x, v = some (.long x))) := by
    intro m
    induction m with
    | zero =>
      intro i sm q hi hq
      have e : i = n := by omega
      refine E_iload_n fL_all_155 rfl ?_
      refine E_aload_n fL_all_156 rfl (by decide) ?_
      refine E_callV (t := [.int (nI i)]) (alarms_ok (d := d + 5) hG) fL_all_157 mX9_alarms (rc_obj (k0 hG) (by decide) (by decide)) ⟨by decide, rfl⟩ rfl rfl (Nat.le_of_ble_eq_true rfl) ?_
      refine E_icge (tg := 184) fL_all_160 (by decide) (fun c_160 => ?_) (fun c => absurd (by rw [hl, e]; exact Int32.le_refl _) c)
      refine E_lload_n fL_all_184 rfl ?_
      refine E_ldc2 (v := 7) fL_all_185 (by decide) ?_
      refine E_aload_n fL_all_188 rfl (by decide) ?_
      refine E_callV (t := [.long 7, .long sm]) (done_ok (d := d + 5) hG) fL_all_189 mX9_done (rc_obj (k0 hG) (by decide) (by decide)) ⟨by decide, rfl⟩ rfl rfl (Nat.le_of_ble_eq_true rfl) ?_
      refine E_lmul fL_all_192 ?_
      refine E_ladd fL_all_193 ?_
      refine E_ldc2 (v := 11) fL_all_194 (by decide) ?_
      refine E_aload_n fL_all_197 rfl (by decide) ?_
      refine E_callV (t := [.long 11, .long (sm + (7 * (M.2 0)))]) (isStopped_ok (d := d + 5) hG h12) fL_all_198 mX9_isStopped (rc_obj (k0 hG) (by decide) (by decide)) ⟨by decide, rfl⟩ rfl rfl (Nat.le_of_ble_eq_true rfl) ?_
      refine E_callS (t := [.long 11, .long (sm + (7 * (M.2 0)))]) (told01 (d := d + 5) h12) fL_all_201 (by decide) mL_told ⟨rfl, rfl⟩ rfl rfl (Nat.le_of_ble_eq_true rfl) ?_
      refine E_i2l fL_all_204 ?_
      refine E_lmul fL_all_205 ?_
      refine E_ladd fL_all_206 ?_
      exact R_lret fL_all_207 mL_all rfl ⟨_, _, _, rfl, rfl, by omega, _, rfl⟩
    | succ m ih =>
      intro i sm q hi hq
      have hlt : i < n := by omega
      refine E_iload_n fL_all_155 rfl ?_
      refine E_aload_n fL_all_156 rfl (by decide) ?_
      refine E_callV (t := [.int (nI i)]) (alarms_ok (d := d + 5) hG) fL_all_157 mX9_alarms (rc_obj (k0 hG) (by decide) (by decide)) ⟨by decide, rfl⟩ rfl rfl (Nat.le_of_ble_eq_true rfl) ?_
      refine E_icge (tg := 184) fL_all_160 (by decide) (fun c => absurd c (by rw [hl]; exact nI_ge hlt (by omega))) (fun c_160 => ?_)
      refine E_ldc2 (v := 31) fL_all_163 (by decide) ?_
      refine E_lload_n fL_all_166 rfl ?_
      refine E_lmul fL_all_167 ?_
      refine E_aload_n fL_all_168 rfl (by decide) ?_
      refine E_bipush (v := 23) fL_all_169 (by decide) ?_
      refine E_iload_n fL_all_171 rfl ?_
      refine E_callSc (t := [.long (31 * sm)]) (ask23 (d := d) hG (k := i) hlt hn hl) fL_all_172 (by decide) mL_ask ⟨rfl, rfl⟩ rfl rfl (Nat.le_of_ble_eq_true rfl) ?_
      refine E_i2l fL_all_175 ?_
      refine E_ladd fL_all_176 ?_
      refine E_lstore_n (L' := [some (.ref 0), some (.long ((31 * sm) + (Int32.toInt64 (M.1 385 i)))), none, some (.int (nI i))]) fL_all_177 rfl (Nat.le_of_ble_eq_true rfl) ?_
      refine E_iinc (v := nI (i + 1)) (L' := [some (.ref 0), some (.long ((31 * sm) + (Int32.toInt64 (M.1 385 i)))), none, some (.int (nI (i + 1)))]) fL_all_178 rfl (inc1 _) rfl ?_
      refine E_goto (tg := 155) fL_all_181 (by decide) ?_
      exact ih (i + 1) _ _ (by omega) (by omega)
  have l3 : ∀ m i sm q, i + m = 12 → q ≤ i → E G (d + 6) 124 (126, [some (.ref 0), some (.long sm), none, some (.int (nI i))], [], M, q) (fun r => ∃ v M' c, r = (.inl v, M', c) ∧ (M' = M ∧ c ≤ 12 ∧ ∃ x, v = some (.long x))) := by
    intro m
    induction m with
    | zero =>
      intro i sm q hi hq
      have e : i = 12 := by omega
      refine E_iload_n fL_all_126 rfl ?_
      refine E_bipush (v := 12) fL_all_127 (by decide) ?_
      refine E_icge (tg := 153) fL_all_129 (by decide) (fun c_129 => ?_) (fun c => absurd (by rw [e]; exact Int32.le_refl _) c)
      refine E_iconst (v := 0) fL_all_153 (by decide) ?_
      refine E_istore_n (L' := [some (.ref 0), some (.long sm), none, some (.int 0)]) fL_all_154 rfl (Nat.le_of_ble_eq_true rfl) ?_
      exact l4 n 0 _ _ (by omega) (by omega)
    | succ m ih =>
      intro i sm q hi hq
      have hlt : i < 12 := by omega
      refine E_iload_n fL_all_126 rfl ?_
      refine E_bipush (v := 12) fL_all_127 (by decide) ?_
      refine E_icge (tg := 153) fL_all_129 (by decide) (fun c => absurd c (by rw [show (12 : Int32) = nI 12 from rfl]; exact nI_ge hlt (by omega))) (fun c_129 => ?_)
      refine E_ldc2 (v := 31) fL_all_132 (by decide) ?_
      refine E_lload_n fL_all_135 rfl ?_
      refine E_lmul fL_all_136 ?_
      refine E_aload_n fL_all_137 rfl (by decide) ?_
      refine E_bipush (v := 21) fL_all_138 (by decide) ?_
      refine E_iload_n fL_all_140 rfl ?_
      obtain ⟨x21, c21, hc21, hR21⟩ := ask21 (d := d) (M := M) hG (k := i) (by omega)
      refine E_callSc (t := [.long (31 * sm)]) hR21 fL_all_141 (by decide) mL_ask ⟨rfl, rfl⟩ rfl rfl (Nat.le_of_ble_eq_true rfl) ?_
      refine E_i2l fL_all_144 ?_
      refine E_ladd fL_all_145 ?_
      refine E_lstore_n (L' := [some (.ref 0), some (.long ((31 * sm) + (Int32.toInt64 x21))), none, some (.int (nI i))]) fL_all_146 rfl (Nat.le_of_ble_eq_true rfl) ?_
      refine E_iinc (v := nI (i + 1)) (L' := [some (.ref 0), some (.long ((31 * sm) + (Int32.toInt64 x21))), none, some (.int (nI (i + 1)))]) fL_all_147 rfl (inc1 _) rfl ?_
      refine E_goto (tg := 126) fL_all_150 (by decide) ?_
      exact ih (i + 1) _ _ (by omega) (by omega)
  have l2 : ∀ m i sm q, i + m = 8 → q = 0 → E G (d + 6) 124 (37, [some (.ref 0), some (.long sm), none, some (.int (nI i))], [], M, q) (fun r => ∃ v M' c, r = (.inl v, M', c) ∧ (M' = M ∧ c ≤ 12 ∧ ∃ x, v = some (.long x))) := by
    intro m
    induction m with
    | zero =>
      intro i sm q hi hq
      have e : i = 8 := by omega
      refine E_iload_n fL_all_37 rfl ?_
      refine E_bipush (v := 8) fL_all_38 (by decide) ?_
      refine E_icge (tg := 124) fL_all_40 (by decide) (fun c_40 => ?_) (fun c => absurd (by rw [e]; exact Int32.le_refl _) c)
      refine E_iconst (v := 0) fL_all_124 (by decide) ?_
      refine E_istore_n (L' := [some (.ref 0), some (.long sm), none, some (.int 0)]) fL_all_125 rfl (Nat.le_of_ble_eq_true rfl) ?_
      exact l3 12 0 _ _ (by omega) (by omega)
    | succ m ih =>
      intro i sm q hi hq
      have hlt : i < 8 := by omega
      refine E_iload_n fL_all_37 rfl ?_
      refine E_bipush (v := 8) fL_all_38 (by decide) ?_
      refine E_icge (tg := 124) fL_all_40 (by decide) (fun c => absurd c (by rw [show (8 : Int32) = nI 8 from rfl]; exact nI_ge hlt (by omega))) (fun c_40 => ?_)
      refine E_ldc2 (v := 31) fL_all_43 (by decide) ?_
      refine E_lload_n fL_all_46 rfl ?_
      refine E_lmul fL_all_47 ?_
      refine E_aload_n fL_all_48 rfl (by decide) ?_
      refine E_bipush (v := 17) fL_all_49 (by decide) ?_
      refine E_iload_n fL_all_51 rfl ?_
      refine E_callSc (t := [.long (31 * sm)]) (ask17 (d := d) hG (k := i) (by omega)) fL_all_52 (by decide) mL_ask ⟨rfl, rfl⟩ rfl rfl (Nat.le_of_ble_eq_true rfl) ?_
      refine E_i2l fL_all_55 ?_
      refine E_ladd fL_all_56 ?_
      refine E_lstore_n (L' := [some (.ref 0), some (.long ((31 * sm) + (Int32.toInt64 (bI (isB1 (M.1 405 1) (nI i)))))), none, some (.int (nI i))]) fL_all_57 rfl (Nat.le_of_ble_eq_true rfl) ?_
      refine E_ldc2 (v := 31) fL_all_58 (by decide) ?_
      refine E_lload_n fL_all_61 rfl ?_
      refine E_lmul fL_all_62 ?_
      refine E_aload_n fL_all_63 rfl (by decide) ?_
      refine E_bipush (v := 18) fL_all_64 (by decide) ?_
      refine E_iload_n fL_all_66 rfl ?_
      refine E_callSc (t := [.long (31 * ((31 * sm) + (Int32.toInt64 (bI (isB1 (M.1 405 1) (nI i))))))]) (ask18 (d := d) hG (k := i) (by omega)) fL_all_67 (by decide) mL_ask ⟨rfl, rfl⟩ rfl rfl (Nat.le_of_ble_eq_true rfl) ?_
      refine E_i2l fL_all_70 ?_
      refine E_ladd fL_all_71 ?_
      refine E_lstore_n (L' := [some (.ref 0), some (.long ((31 * ((31 * sm) + (Int32.toInt64 (bI (isB1 (M.1 405 1) (nI i)))))) + (Int32.toInt64 (M.1 378 i)))), none, some (.int (nI i))]) fL_all_72 rfl (Nat.le_of_ble_eq_true rfl) ?_
      refine E_ldc2 (v := 31) fL_all_73 (by decide) ?_
      refine E_lload_n fL_all_76 rfl ?_
      refine E_lmul fL_all_77 ?_
      refine E_aload_n fL_all_78 rfl (by decide) ?_
      refine E_bipush (v := 19) fL_all_79 (by decide) ?_
      refine E_iload_n fL_all_81 rfl ?_
      refine E_callSc (t := [.long (31 * ((31 * ((31 * sm) + (Int32.toInt64 (bI (isB1 (M.1 405 1) (nI i)))))) + (Int32.toInt64 (M.1 378 i))))]) (ask19 (d := d) hG (k := i) (by omega)) fL_all_82 (by decide) mL_ask ⟨rfl, rfl⟩ rfl rfl (Nat.le_of_ble_eq_true rfl) ?_
      refine E_i2l fL_all_85 ?_
      refine E_ladd fL_all_86 ?_
      refine E_lstore_n (L' := [some (.ref 0), some (.long ((31 * ((31 * ((31 * sm) + (Int32.toInt64 (bI (isB1 (M.1 405 1) (nI i)))))) + (Int32.toInt64 (M.1 378 i)))) + (Int32.toInt64 (M.1 379 i)))), none, some (.int (nI i))]) fL_all_87 rfl (Nat.le_of_ble_eq_true rfl) ?_
      refine E_ldc2 (v := 31) fL_all_88 (by decide) ?_
      refine E_lload_n fL_all_91 rfl ?_
      refine E_lmul fL_all_92 ?_
      refine E_aload_n fL_all_93 rfl (by decide) ?_
      refine E_bipush (v := 22) fL_all_94 (by decide) ?_
      refine E_iload_n fL_all_96 rfl ?_
      refine E_callSc (t := [.long (31 * ((31 * ((31 * ((31 * sm) + (Int32.toInt64 (bI (isB1 (M.1 405 1) (nI i)))))) + (Int32.toInt64 (M.1 378 i)))) + (Int32.toInt64 (M.1 379 i))))]) (ask22 (d := d) hG (k := i) (by omega) hn hl) fL_all_97 (by decide) mL_ask ⟨rfl, rfl⟩ rfl rfl (Nat.le_of_ble_eq_true rfl) ?_
      refine E_i2l fL_all_100 ?_
      refine E_ladd fL_all_101 ?_
      refine E_lstore_n (L' := [some (.ref 0), some (.long ((31 * ((31 * ((31 * ((31 * sm) + (Int32.toInt64 (bI (isB1 (M.1 405 1) (nI i)))))) + (Int32.toInt64 (M.1 378 i)))) + (Int32.toInt64 (M.1 379 i)))) + (Int32.toInt64 (ltr M n i)))), none, some (.int (nI i))]) fL_all_102 rfl (Nat.le_of_ble_eq_true rfl) ?_
      refine E_ldc2 (v := 31) fL_all_103 (by decide) ?_
      refine E_lload_n fL_all_106 rfl ?_
      refine E_lmul fL_all_107 ?_
      refine E_aload_n fL_all_108 rfl (by decide) ?_
      refine E_bipush (v := 26) fL_all_109 (by decide) ?_
      refine E_iload_n fL_all_111 rfl ?_
      refine E_callSc (t := [.long (31 * ((31 * ((31 * ((31 * ((31 * sm) + (Int32.toInt64 (bI (isB1 (M.1 405 1) (nI i)))))) + (Int32.toInt64 (M.1 378 i)))) + (Int32.toInt64 (M.1 379 i)))) + (Int32.toInt64 (ltr M n i))))]) (ask26 (d := d) hG (k := i) (by omega)) fL_all_112 (by decide) mL_ask ⟨rfl, rfl⟩ rfl rfl (Nat.le_of_ble_eq_true rfl) ?_
      refine E_i2l fL_all_115 ?_
      refine E_ladd fL_all_116 ?_
      refine E_lstore_n (L' := [some (.ref 0), some (.long ((31 * ((31 * ((31 * ((31 * ((31 * sm) + (Int32.toInt64 (bI (isB1 (M.1 405 1) (nI i)))))) + (Int32.toInt64 (M.1 378 i)))) + (Int32.toInt64 (M.1 379 i)))) + (Int32.toInt64 (ltr M n i)))) + (Int32.toInt64 (M.1 406 i)))), none, some (.int (nI i))]) fL_all_117 rfl (Nat.le_of_ble_eq_true rfl) ?_
      refine E_iinc (v := nI (i + 1)) (L' := [some (.ref 0), some (.long ((31 * ((31 * ((31 * ((31 * ((31 * sm) + (Int32.toInt64 (bI (isB1 (M.1 405 1) (nI i)))))) + (Int32.toInt64 (M.1 378 i)))) + (Int32.toInt64 (M.1 379 i)))) + (Int32.toInt64 (ltr M n i)))) + (Int32.toInt64 (M.1 406 i)))), none, some (.int (nI (i + 1)))]) fL_all_118 rfl (inc1 _) rfl ?_
      refine E_goto (tg := 37) fL_all_121 (by decide) ?_
      exact ih (i + 1) _ _ (by omega) (by omega)
  have l1 : ∀ m i sm q, i + m = 32 → q = 0 → E G (d + 6) 124 (8, [some (.ref 0), some (.long sm), none, some (.int (nI i))], [], M, q) (fun r => ∃ v M' c, r = (.inl v, M', c) ∧ (M' = M ∧ c ≤ 12 ∧ ∃ x, v = some (.long x))) := by
    intro m
    induction m with
    | zero =>
      intro i sm q hi hq
      have e : i = 32 := by omega
      refine E_iload_n fL_all_8 rfl ?_
      refine E_bipush (v := 32) fL_all_9 (by decide) ?_
      refine E_icge (tg := 35) fL_all_11 (by decide) (fun c_11 => ?_) (fun c => absurd (by rw [e]; exact Int32.le_refl _) c)
      refine E_iconst (v := 0) fL_all_35 (by decide) ?_
      refine E_istore_n (L' := [some (.ref 0), some (.long sm), none, some (.int 0)]) fL_all_36 rfl (Nat.le_of_ble_eq_true rfl) ?_
      exact l2 8 0 _ _ (by omega) (by omega)
    | succ m ih =>
      intro i sm q hi hq
      have hlt : i < 32 := by omega
      refine E_iload_n fL_all_8 rfl ?_
      refine E_bipush (v := 32) fL_all_9 (by decide) ?_
      refine E_icge (tg := 35) fL_all_11 (by decide) (fun c => absurd c (by rw [show (32 : Int32) = nI 32 from rfl]; exact nI_ge hlt (by omega))) (fun c_11 => ?_)
      refine E_ldc2 (v := 31) fL_all_14 (by decide) ?_
      refine E_lload_n fL_all_17 rfl ?_
      refine E_lmul fL_all_18 ?_
      refine E_aload_n fL_all_19 rfl (by decide) ?_
      refine E_bipush (v := 16) fL_all_20 (by decide) ?_
      refine E_iload_n fL_all_22 rfl ?_
      obtain ⟨x16, hR16⟩ := ask16 (d := d) (M := M) hG (k := i) (by omega)
      refine E_callSc (t := [.long (31 * sm)]) hR16 fL_all_23 (by decide) mL_ask ⟨rfl, rfl⟩ rfl rfl (Nat.le_of_ble_eq_true rfl) ?_
      refine E_i2l fL_all_26 ?_
      refine E_ladd fL_all_27 ?_
      refine E_lstore_n (L' := [some (.ref 0), some (.long ((31 * sm) + (Int32.toInt64 x16))), none, some (.int (nI i))]) fL_all_28 rfl (Nat.le_of_ble_eq_true rfl) ?_
      refine E_iinc (v := nI (i + 1)) (L' := [some (.ref 0), some (.long ((31 * sm) + (Int32.toInt64 x16))), none, some (.int (nI (i + 1)))]) fL_all_29 rfl (inc1 _) rfl ?_
      refine E_goto (tg := 8) fL_all_32 (by decide) ?_
      exact ih (i + 1) _ _ (by omega) (by omega)
  refine C_start (d := d + 6) (by decide) mL_all ?_
  show E _ _ _ (0, [some (.ref 0), none, none, none], [], M, 0) _
  refine E_aload_n fL_all_0 rfl (by decide) ?_
  refine E_callV (t := []) (time_ok (d := d + 5) hG) fL_all_1 mX9_time (rc_obj (k0 hG) (by decide) (by decide)) ⟨by decide, rfl⟩ rfl rfl (Nat.le_of_ble_eq_true rfl) ?_
  refine E_i2l fL_all_4 ?_
  refine E_lstore_n (L' := [some (.ref 0), some (.long (Int32.toInt64 (M.1 0 7))), none, none]) fL_all_5 rfl (Nat.le_of_ble_eq_true rfl) ?_
  refine E_iconst (v := 0) fL_all_6 (by decide) ?_
  refine E_istore_n (L' := [some (.ref 0), some (.long (Int32.toInt64 (M.1 0 7))), none, some (.int 0)]) fL_all_7 rfl (Nat.le_of_ble_eq_true rfl) ?_
  exact l1 32 0 _ _ (by omega) rfl
theorem isWhole_ok (hG : Core G) {n s t nw : Nat} (hW : WS M n s t nw) : ∃ v M' c, RetC G (d + 7) 125 [.ref 0] M v M' c ∧ (M' = M ∧ c ≤ 1 ∧ v = some (.int 1)) := by
  obtain ⟨w1, w2, w3, w4, w5, w6, w7, w8, w9, w10, w11⟩ := hW
  have hAI := w3
  obtain ⟨na, hm⟩ := w3
  have hn := hm.1
  have hl := hm.2.1
  have lo : ∀ m i o3 o4 o5 q, i + m = 8 → q = 0 → E G (d + 6) 125 (7, [some (.ref 0), some (.int 1), some (.int (nI i)), o3, o4, o5], [], M, q) (fun r => ∃ v M' c, r = (.inl v, M', c) ∧ (M' = M ∧ c ≤ 1 ∧ v = some (.int 1))) := by
    intro m
    induction m with
    | zero =>
      intro i o3 o4 o5 q hi hq
      have e : i = 8 := by omega
      refine E_iload_n fL_isWhole_7 rfl ?_
      refine E_bipush (v := 8) fL_isWhole_8 (by decide) ?_
      refine E_icge (tg := 114) fL_isWhole_10 (by decide) (fun c_10 => ?_) (fun c => absurd (by rw [e]; exact Int32.le_refl _) c)
      refine E_iload_n fL_isWhole_114 rfl ?_
      refine E_ifeq (tg := 155) fL_isWhole_115 (by decide) (fun c => absurd c (by decide)) (fun c_115 => ?_)
      refine E_aload_n fL_isWhole_118 rfl (by decide) ?_
      refine E_bipush (v := 23) fL_isWhole_119 (by decide) ?_
      refine E_aload_n fL_isWhole_121 rfl (by decide) ?_
      refine E_callV (t := [.int 23, .ref 0]) (alarms_ok (d := d + 5) hG) fL_isWhole_122 mX9_alarms (rc_obj (k0 hG) (by decide) (by decide)) ⟨by decide, rfl⟩ rfl rfl (Nat.le_of_ble_eq_true rfl) ?_
      have h23 := ask23n (d := d) (M := M) hG hn hl
      rw [← hl] at h23
      refine E_callSc (t := []) h23 fL_isWhole_125 (by decide) mL_ask ⟨rfl, rfl⟩ rfl rfl (Nat.le_of_ble_eq_true rfl) ?_
      refine E_sipush (v := (-2001)) fL_isWhole_128 (by decide) ?_
      refine E_icne (tg := 155) fL_isWhole_131 (by decide) (fun c => absurd rfl c) (fun c_131 => ?_)
      refine E_aload_n fL_isWhole_134 rfl (by decide) ?_
      refine E_callV (t := []) (isStopped_ok (d := d + 5) hG (Or.inl w6)) fL_isWhole_135 mX9_isStopped (rc_obj (k0 hG) (by decide) (by decide)) ⟨by decide, rfl⟩ rfl rfl (Nat.le_of_ble_eq_true rfl) ?_
      refine E_ifne (tg := 151) fL_isWhole_138 (by decide) (fun c => absurd w6 c) (fun c_138 => ?_)
      refine E_aload_n fL_isWhole_141 rfl (by decide) ?_
      refine E_bipush (v := 25) fL_isWhole_142 (by decide) ?_
      refine E_iconst (v := 0) fL_isWhole_144 (by decide) ?_
      refine E_callSc (t := []) (ask25 (d := d) hG) fL_isWhole_145 (by decide) mL_ask ⟨rfl, rfl⟩ rfl rfl (Nat.le_of_ble_eq_true rfl) ?_
      refine E_iflt (tg := 155) fL_isWhole_148 (by decide) (fun c => absurd c (by rw [w10]; decide)) (fun c_148 => ?_)
      refine E_iconst (v := 1) fL_isWhole_151 (by decide) ?_
      refine E_goto (tg := 156) fL_isWhole_152 (by decide) ?_
      exact R_iret fL_isWhole_156 mL_isWhole rfl ⟨_, _, _, rfl, rfl, by omega, rfl⟩
    | succ m ih =>
      intro i o3 o4 o5 q hi hq
      have hlt : i < 8 := by omega
      have inn : ∀ r j o5' q, j + r = na → q = 0 → o5' = (some (.int (nI j)) : Option Value) → E G (d + 6) 125 (27, [some (.ref 0), some (.int 1), some (.int (nI i)), some (.int (ltr M na i)), some (.int (nI (cnt (M.1 385) (nI i) j))), o5'], [], M, q) (fun r => ∃ v M' c, r = (.inl v, M', c) ∧ (M' = M ∧ c ≤ 1 ∧ v = some (.int 1))) := by
        intro r
        induction r with
        | zero =>
          intro j o5' q hj hq hz
          subst hz
          have e : na = j := by omega
          subst e
          refine E_iload fL_isWhole_27 rfl ?_
          refine E_aload_n fL_isWhole_29 rfl (by decide) ?_
          refine E_callV (t := [.int (nI na)]) (alarms_ok (d := d + 5) hG) fL_isWhole_30 mX9_alarms (rc_obj (k0 hG) (by decide) (by decide)) ⟨by decide, rfl⟩ rfl rfl (Nat.le_of_ble_eq_true rfl) ?_
          refine E_icge (tg := 67) fL_isWhole_33 (by decide) (fun c_33 => ?_) (fun c => absurd (by rw [hl]; exact Int32.le_refl _) c)
          refine E_iload_n fL_isWhole_67 rfl ?_
          refine E_ifeq (tg := 106) fL_isWhole_68 (by decide) (fun c => absurd c (by decide)) (fun c_68 => ?_)
          refine E_iload fL_isWhole_71 rfl ?_
          refine E_iload_n fL_isWhole_73 rfl ?_
          refine E_bipush (v := 116) fL_isWhole_74 (by decide) ?_
          refine E_iceq (tg := 91) fL_isWhole_76 (by decide) (fun c_76 => ?_) (fun c_76 => ?_)
          · refine E_iconst (v := 1) fL_isWhole_91 (by decide) ?_
            refine E_goto (tg := 96) fL_isWhole_92 (by decide) ?_
            refine E_callS (t := [.int (nI (cnt (M.1 385) (nI i) na))]) (told01 (d := d + 5) (x := 1) (by decide)) fL_isWhole_96 (by decide) mL_told ⟨rfl, rfl⟩ rfl rfl (Nat.le_of_ble_eq_true rfl) ?_
            refine E_icne (tg := 106) fL_isWhole_99 (by decide) (fun c => absurd (by rw [(ltr_cnt hm (show i < 8 by omega)).1 (by first | exact Or.inl c_76 | exact Or.inr (Or.inl c_82) | exact Or.inr (Or.inr c_88))]; rfl) c) (fun c_99 => ?_)
            refine E_iconst (v := 1) fL_isWhole_102 (by decide) ?_
            refine E_goto (tg := 107) fL_isWhole_103 (by decide) ?_
            refine E_istore_n (L' := [some (.ref 0), some (.int 1), some (.int (nI i)), some (.int (ltr M na i)), some (.int (nI (cnt (M.1 385) (nI i) na))), some (.int (nI na))]) fL_isWhole_107 rfl (Nat.le_of_ble_eq_true rfl) ?_
            refine E_iinc (v := nI (i + 1)) (L' := [some (.ref 0), some (.int 1), some (.int (nI (i + 1))), some (.int (ltr M na i)), some (.int (nI (cnt (M.1 385) (nI i) na))), some (.int (nI na))]) fL_isWhole_108 rfl (inc1 _) rfl ?_
            refine E_goto (tg := 7) fL_isWhole_111 (by decide) ?_
            exact ih (i + 1) _ _ _ _ (by omega) (by omega)
          · refine E_iload_n fL_isWhole_79 rfl ?_
            refine E_bipush (v := 97) fL_isWhole_80 (by decide) ?_
            refine E_iceq (tg := 91) fL_isWhole_82 (by decide) (fun c_82 => ?_) (fun c_82 => ?_)
            · refine E_iconst (v := 1) fL_isWhole_91 (by decide) ?_
              refine E_goto (tg := 96) fL_isWhole_92 (by decide) ?_
              refine E_callS (t := [.int (nI (cnt (M.1 385) (nI i) na))]) (told01 (d := d + 5) (x := 1) (by decide)) fL_isWhole_96 (by decide) mL_told ⟨rfl, rfl⟩ rfl rfl (Nat.le_of_ble_eq_true rfl) ?_
              refine E_icne (tg := 106) fL_isWhole_99 (by decide) (fun c => absurd (by rw [(ltr_cnt hm (show i < 8 by omega)).1 (by first | exact Or.inl c_76 | exact Or.inr (Or.inl c_82) | exact Or.inr (Or.inr c_88))]; rfl) c) (fun c_99 => ?_)
              refine E_iconst (v := 1) fL_isWhole_102 (by decide) ?_
              refine E_goto (tg := 107) fL_isWhole_103 (by decide) ?_
              refine E_istore_n (L' := [some (.ref 0), some (.int 1), some (.int (nI i)), some (.int (ltr M na i)), some (.int (nI (cnt (M.1 385) (nI i) na))), some (.int (nI na))]) fL_isWhole_107 rfl (Nat.le_of_ble_eq_true rfl) ?_
              refine E_iinc (v := nI (i + 1)) (L' := [some (.ref 0), some (.int 1), some (.int (nI (i + 1))), some (.int (ltr M na i)), some (.int (nI (cnt (M.1 385) (nI i) na))), some (.int (nI na))]) fL_isWhole_108 rfl (inc1 _) rfl ?_
              refine E_goto (tg := 7) fL_isWhole_111 (by decide) ?_
              exact ih (i + 1) _ _ _ _ (by omega) (by omega)
            · refine E_iload_n fL_isWhole_85 rfl ?_
              refine E_bipush (v := 114) fL_isWhole_86 (by decide) ?_
              refine E_icne (tg := 95) fL_isWhole_88 (by decide) (fun c_88 => ?_) (fun c_88 => ?_)
              · refine E_iconst (v := 0) fL_isWhole_95 (by decide) ?_
                refine E_callS (t := [.int (nI (cnt (M.1 385) (nI i) na))]) (told01 (d := d + 5) (x := 0) (by decide)) fL_isWhole_96 (by decide) mL_told ⟨rfl, rfl⟩ rfl rfl (Nat.le_of_ble_eq_true rfl) ?_
                refine E_icne (tg := 106) fL_isWhole_99 (by decide) (fun c => absurd (by rw [(ltr_cnt hm (show i < 8 by omega)).2 (by rintro (z | z | z) <;> first | exact c_76 z | exact c_82 z | exact c_88 z)]; rfl) c) (fun c_99 => ?_)
                refine E_iconst (v := 1) fL_isWhole_102 (by decide) ?_
                refine E_goto (tg := 107) fL_isWhole_103 (by decide) ?_
                refine E_istore_n (L' := [some (.ref 0), some (.int 1), some (.int (nI i)), some (.int (ltr M na i)), some (.int (nI (cnt (M.1 385) (nI i) na))), some (.int (nI na))]) fL_isWhole_107 rfl (Nat.le_of_ble_eq_true rfl) ?_
                refine E_iinc (v := nI (i + 1)) (L' := [some (.ref 0), some (.int 1), some (.int (nI (i + 1))), some (.int (ltr M na i)), some (.int (nI (cnt (M.1 385) (nI i) na))), some (.int (nI na))]) fL_isWhole_108 rfl (inc1 _) rfl ?_
                refine E_goto (tg := 7) fL_isWhole_111 (by decide) ?_
                exact ih (i + 1) _ _ _ _ (by omega) (by omega)
              · refine E_iconst (v := 1) fL_isWhole_91 (by decide) ?_
                refine E_goto (tg := 96) fL_isWhole_92 (by decide) ?_
                refine E_callS (t := [.int (nI (cnt (M.1 385) (nI i) na))]) (told01 (d := d + 5) (x := 1) (by decide)) fL_isWhole_96 (by decide) mL_told ⟨rfl, rfl⟩ rfl rfl (Nat.le_of_ble_eq_true rfl) ?_
                refine E_icne (tg := 106) fL_isWhole_99 (by decide) (fun c => absurd (by rw [(ltr_cnt hm (show i < 8 by omega)).1 (by first | exact Or.inl c_76 | exact Or.inr (Or.inl c_82) | exact Or.inr (Or.inr c_88))]; rfl) c) (fun c_99 => ?_)
                refine E_iconst (v := 1) fL_isWhole_102 (by decide) ?_
                refine E_goto (tg := 107) fL_isWhole_103 (by decide) ?_
                refine E_istore_n (L' := [some (.ref 0), some (.int 1), some (.int (nI i)), some (.int (ltr M na i)), some (.int (nI (cnt (M.1 385) (nI i) na))), some (.int (nI na))]) fL_isWhole_107 rfl (Nat.le_of_ble_eq_true rfl) ?_
                refine E_iinc (v := nI (i + 1)) (L' := [some (.ref 0), some (.int 1), some (.int (nI (i + 1))), some (.int (ltr M na i)), some (.int (nI (cnt (M.1 385) (nI i) na))), some (.int (nI na))]) fL_isWhole_108 rfl (inc1 _) rfl ?_
                refine E_goto (tg := 7) fL_isWhole_111 (by decide) ?_
                exact ih (i + 1) _ _ _ _ (by omega) (by omega)
        | succ r ihr =>
          intro j o5' q hj hq hz
          subst hz
          have hltj : j < na := by omega
          refine E_iload fL_isWhole_27 rfl ?_
          refine E_aload_n fL_isWhole_29 rfl (by decide) ?_
          refine E_callV (t := [.int (nI j)]) (alarms_ok (d := d + 5) hG) fL_isWhole_30 mX9_alarms (rc_obj (k0 hG) (by decide) (by decide)) ⟨by decide, rfl⟩ rfl rfl (Nat.le_of_ble_eq_true rfl) ?_
          refine E_icge (tg := 67) fL_isWhole_33 (by decide) (fun c => absurd c (by rw [hl]; exact nI_ge hltj (by omega))) (fun c_33 => ?_)
          refine E_iload fL_isWhole_36 rfl ?_
          refine E_aload_n fL_isWhole_38 rfl (by decide) ?_
          refine E_bipush (v := 23) fL_isWhole_39 (by decide) ?_
          refine E_iload fL_isWhole_41 rfl ?_
          refine E_callSc (t := [.int (nI (cnt (M.1 385) (nI i) j))]) (ask23 (d := d) hG (k := j) hltj hn hl) fL_isWhole_43 (by decide) mL_ask ⟨rfl, rfl⟩ rfl rfl (Nat.le_of_ble_eq_true rfl) ?_
          refine E_iload_n fL_isWhole_46 rfl ?_
          refine E_icne (tg := 54) fL_isWhole_47 (by decide) (fun c_47 => ?_) (fun c_47 => ?_)
          · refine E_iconst (v := 0) fL_isWhole_54 (by decide) ?_
            refine E_callS (t := [.int (nI (cnt (M.1 385) (nI i) j))]) (told01 (d := d + 5) (x := 0) (by decide)) fL_isWhole_55 (by decide) mL_told ⟨rfl, rfl⟩ rfl rfl (Nat.le_of_ble_eq_true rfl) ?_
            refine E_iadd fL_isWhole_58 ?_
            refine E_istore (L' := [some (.ref 0), some (.int 1), some (.int (nI i)), some (.int (ltr M na i)), some (.int ((nI (cnt (M.1 385) (nI i) j)) + 0)), some (.int (nI j))]) fL_isWhole_59 rfl (Nat.le_of_ble_eq_true rfl) ?_
            refine E_iinc (v := nI (j + 1)) (L' := [some (.ref 0), some (.int 1), some (.int (nI i)), some (.int (ltr M na i)), some (.int ((nI (cnt (M.1 385) (nI i) j)) + 0)), some (.int (nI (j + 1)))]) fL_isWhole_61 rfl (inc1 _) rfl ?_
            refine E_goto (tg := 27) fL_isWhole_64 (by decide) ?_
            by_cases zz : M.1 385 j = nI i
            · first | exact absurd zz c_47 | (rw [show nI (cnt (M.1 385) (nI i) j) + 1 = nI (cnt (M.1 385) (nI i) (j + 1)) by rw [cnt_y zz, nI_1]]; exact ihr (j + 1) _ _ (by omega) (by omega) rfl)
            · first | exact absurd c_47 zz | (rw [show nI (cnt (M.1 385) (nI i) j) + 0 = nI (cnt (M.1 385) (nI i) (j + 1)) by rw [cnt_n zz, Int32.add_zero]]; exact ihr (j + 1) _ _ (by omega) (by omega) rfl)
          · refine E_iconst (v := 1) fL_isWhole_50 (by decide) ?_
            refine E_goto (tg := 55) fL_isWhole_51 (by decide) ?_
            refine E_callS (t := [.int (nI (cnt (M.1 385) (nI i) j))]) (told01 (d := d + 5) (x := 1) (by decide)) fL_isWhole_55 (by decide) mL_told ⟨rfl, rfl⟩ rfl rfl (Nat.le_of_ble_eq_true rfl) ?_
            refine E_iadd fL_isWhole_58 ?_
            refine E_istore (L' := [some (.ref 0), some (.int 1), some (.int (nI i)), some (.int (ltr M na i)), some (.int ((nI (cnt (M.1 385) (nI i) j)) + 1)), some (.int (nI j))]) fL_isWhole_59 rfl (Nat.le_of_ble_eq_true rfl) ?_
            refine E_iinc (v := nI (j + 1)) (L' := [some (.ref 0), some (.int 1), some (.int (nI i)), some (.int (ltr M na i)), some (.int ((nI (cnt (M.1 385) (nI i) j)) + 1)), some (.int (nI (j + 1)))]) fL_isWhole_61 rfl (inc1 _) rfl ?_
            refine E_goto (tg := 27) fL_isWhole_64 (by decide) ?_
            by_cases zz : M.1 385 j = nI i
            · first | exact absurd zz c_47 | (rw [show nI (cnt (M.1 385) (nI i) j) + 1 = nI (cnt (M.1 385) (nI i) (j + 1)) by rw [cnt_y zz, nI_1]]; exact ihr (j + 1) _ _ (by omega) (by omega) rfl)
            · first | exact absurd c_47 zz | (rw [show nI (cnt (M.1 385) (nI i) j) + 0 = nI (cnt (M.1 385) (nI i) (j + 1)) by rw [cnt_n zz, Int32.add_zero]]; exact ihr (j + 1) _ _ (by omega) (by omega) rfl)
      refine E_iload_n fL_isWhole_7 rfl ?_
      refine E_bipush (v := 8) fL_isWhole_8 (by decide) ?_
      refine E_icge (tg := 114) fL_isWhole_10 (by decide) (fun c => absurd c (by rw [show (8 : Int32) = nI 8 from rfl]; exact nI_ge hlt (by omega))) (fun c_10 => ?_)
      refine E_aload_n fL_isWhole_13 rfl (by decide) ?_
      refine E_bipush (v := 22) fL_isWhole_14 (by decide) ?_
      refine E_iload_n fL_isWhole_16 rfl ?_
      refine E_callSc (t := []) (ask22 (d := d) hG (k := i) (by omega) hn hl) fL_isWhole_17 (by decide) mL_ask ⟨rfl, rfl⟩ rfl rfl (Nat.le_of_ble_eq_true rfl) ?_
      refine E_istore_n (L' := [some (.ref 0), some (.int 1), some (.int (nI i)), some (.int (ltr M na i)), o4, o5]) fL_isWhole_20 rfl (Nat.le_of_ble_eq_true rfl) ?_
      refine E_iconst (v := 0) fL_isWhole_21 (by decide) ?_
      refine E_istore (L' := [some (.ref 0), some (.int 1), some (.int (nI i)), some (.int (ltr M na i)), some (.int 0), o5]) fL_isWhole_22 rfl (Nat.le_of_ble_eq_true rfl) ?_
      refine E_iconst (v := 0) fL_isWhole_24 (by decide) ?_
      refine E_istore (L' := [some (.ref 0), some (.int 1), some (.int (nI i)), some (.int (ltr M na i)), some (.int 0), some (.int 0)]) fL_isWhole_25 rfl (Nat.le_of_ble_eq_true rfl) ?_
      exact inn na 0 _ _ (by omega) (by omega) rfl
  refine C_start (d := d + 6) (by decide) mL_isWhole ?_
  show E _ _ _ (0, [some (.ref 0), none, none, none, none, none], [], M, 0) _
  refine E_aload_n fL_isWhole_0 rfl (by decide) ?_
  refine E_callV (t := []) (isSound_ok (d := d + 3) hG w2 hAI w4) fL_isWhole_1 mX9_isSound (rc_obj (k0 hG) (by decide) (by decide)) ⟨by decide, rfl⟩ rfl rfl (Nat.le_of_ble_eq_true rfl) ?_
  refine E_istore_n (L' := [some (.ref 0), some (.int 1), none, none, none, none]) fL_isWhole_4 rfl (Nat.le_of_ble_eq_true rfl) ?_
  refine E_iconst (v := 0) fL_isWhole_5 (by decide) ?_
  refine E_istore_n (L' := [some (.ref 0), some (.int 1), some (.int 0), none, none, none]) fL_isWhole_6 rfl (Nat.le_of_ble_eq_true rfl) ?_
  exact lo 8 0 _ _ _ _ (by omega) rfl
end SP25
