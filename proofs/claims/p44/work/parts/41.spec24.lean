section SP24
variable {G : MG} {d : Nat} {M M' : Mem}
theorem RetC.z {k : Nat} {As : List Value} {v : Option Value} (h : RetC G d k As M v M' 0) : Ret G d k As M v M' := h
theorem fz : ∀ x, x < 3 → (-1 : Int32) ≤ nI x - 1 ∧ nI x - 1 ≤ 1 := by decide +kernel
theorem input_ok (hG : Core G) {n s t nw : Nat} (hW : WS M n s t nw) {k : Nat} (hk : k < 8) (z : Int32) : ∃ v M', Ret G (d + 4) 122 [.ref 0, .int (nI k), .int z] M v M' ∧ (v = none ∧ WS M' n s t nw ∧ Fr seB M M') := by
  refine X_start (d := d + 3) (by decide) mL_input ?_
  show E _ _ _ (0, [some (.ref 0), some (.int (nI k)), some (.int z)], [], M, 0) _
  refine E_aload_n fL_input_0 rfl (by decide) ?_
  refine E_iload_n fL_input_1 rfl ?_
  refine E_iload_n fL_input_2 rfl ?_
  refine E_iconst (v := 1) fL_input_3 (by decide) ?_
  refine E_icne (tg := 11) fL_input_4 (by decide) (fun c_4 => ?_) (fun c_4 => ?_)
  · refine E_iconst (v := 0) fL_input_11 (by decide) ?_
    obtain ⟨v1, M1, hR, ⟨x, rfl, -⟩, hW1, hF1⟩ := setInput_ok (d := d) hG hW hk 0
    refine E_callV (t := []) hR fL_input_12 mX9_setInput (rc_obj (k0 hG) (by decide) (by decide)) ⟨by decide, rfl⟩ rfl rfl (Nat.le_of_ble_eq_true rfl) ?_
    refine E_pop fL_input_15 rfl ?_
    exact R_vret fL_input_16 mL_input rfl ⟨none, _, rfl, rfl, hW1, hF1⟩
  · refine E_iconst (v := 1) fL_input_7 (by decide) ?_
    refine E_goto (tg := 12) fL_input_8 (by decide) ?_
    obtain ⟨v1, M1, hR, ⟨x, rfl, -⟩, hW1, hF1⟩ := setInput_ok (d := d) hG hW hk 1
    refine E_callV (t := []) hR fL_input_12 mX9_setInput (rc_obj (k0 hG) (by decide) (by decide)) ⟨by decide, rfl⟩ rfl rfl (Nat.le_of_ble_eq_true rfl) ?_
    refine E_pop fL_input_15 rfl ?_
    exact R_vret fL_input_16 mL_input rfl ⟨none, _, rfl, rfl, hW1, hF1⟩
theorem setPeriodX_ok (hG : Core G) {n s t nw : Nat} (hW : WS M n s t nw) {k : Nat} (hk : k < 2) (p : Int32) (hp : 0 ≤ p ∧ p ≤ 100) : ∃ v M', Ret G (d + 3) 45 [.ref 0, .int (nI k), .int p] M v M' ∧ ((∃ x, v = some (.int x)) ∧ WS M' n s t nw ∧ Fr seB M M') := by
  rcases (by omega : k = 0 ∨ k = 1) with rfl | rfl
  · obtain ⟨v, M1, hR, h1, rfl⟩ := setPeriod0_ok (d := d) (M := M) hG p hp
    exact ⟨v, _, hR, h1, hW.se (Fr.rf.pI rfl) (hW.ai.pI (by omega)), Fr.rf.pI rfl⟩
  · obtain ⟨v, M1, hR, h1, rfl⟩ := setPeriod1_ok (d := d) (M := M) hG p hp
    exact ⟨v, _, hR, h1, hW.se (Fr.rf.pI rfl) (hW.ai.pI (by omega)), Fr.rf.pI rfl⟩
theorem happens_ok (hG : Core G) (hL : G.2.2 < 2 ^ 31) {n s t nw i : Nat} (hW : WS M n s t nw) (hi : i < 10000) : ∃ v M', Ret G (d + 6) 126 [.ref 0, .ref 1000, .int (nI i)] M v M' ∧ (v = none ∧ WS M' n s t nw ∧ Fr seB M M') := by
  refine X_start (d := d + 5) (by decide) mL_happens ?_
  show E _ _ _ (0, [some (.ref 0), some (.ref 1000), some (.int (nI i))], [], M, 0) _
  refine E_aload_n fL_happens_0 rfl (by decide) ?_
  refine E_iload_n fL_happens_1 rfl ?_
  refine E_bipush (v := 12) fL_happens_2 (by decide) ?_
  obtain ⟨x4, hx4, hp4⟩ := pick_ok (i := i) (m := 12) hL (by omega) (by omega) (by omega)
  refine E_callS (t := []) (hp4 _ _) fL_happens_4 (by decide) mL_pick ⟨rfl, rfl⟩ rfl rfl (Nat.le_of_ble_eq_true rfl) ?_
  rcases (by omega : x4 = 0 ∨ x4 = 1 ∨ x4 = 2 ∨ x4 = 3 ∨ x4 = 4 ∨ x4 = 5 ∨ 6 ≤ x4) with rfl | rfl | rfl | rfl | rfl | rfl | hx6
  · refine E_tsw (off := 37) (tg := 44) fL_happens_7 (by decide) (by decide) (by decide) ?_
    refine E_aload_n fL_happens_44 rfl (by decide) ?_
    refine E_bipush (v := 7) fL_happens_45 (by decide) ?_
    refine E_aload_n fL_happens_47 rfl (by decide) ?_
    refine E_iload_n fL_happens_48 rfl ?_
    refine E_iconst (v := 1) fL_happens_49 (by decide) ?_
    refine E_iadd fL_happens_50 ?_
    rw [show ((nI i) + 1 : Int32) = nI (i + 1) from nI_add _ _]
    refine E_bipush (v := 32) fL_happens_51 (by decide) ?_
    obtain ⟨x53, hx53, hp53⟩ := pick_ok (i := (i + 1)) (m := 32) hL (by omega) (by omega) (by omega)
    refine E_callS (t := [.int 7, .ref 0]) (hp53 _ _) fL_happens_53 (by decide) mL_pick ⟨rfl, rfl⟩ rfl rfl (Nat.le_of_ble_eq_true rfl) ?_
    refine E_aload_n fL_happens_56 rfl (by decide) ?_
    refine E_iload_n fL_happens_57 rfl ?_
    refine E_iconst (v := 2) fL_happens_58 (by decide) ?_
    refine E_iadd fL_happens_59 ?_
    rw [show ((nI i) + 2 : Int32) = nI (i + 2) from nI_add _ _]
    refine E_iconst (v := 3) fL_happens_60 (by decide) ?_
    obtain ⟨x61, hx61, hp61⟩ := pick_ok (i := (i + 2)) (m := 3) hL (by omega) (by omega) (by omega)
    refine E_callS (t := [.int (nI x53), .int 7, .ref 0]) (hp61 _ _) fL_happens_61 (by decide) mL_pick ⟨rfl, rfl⟩ rfl rfl (Nat.le_of_ble_eq_true rfl) ?_
    refine E_iconst (v := 1) fL_happens_64 (by decide) ?_
    refine E_isub fL_happens_65 ?_
    refine E_iconst (v := 0) fL_happens_66 (by decide) ?_
    refine E_iconst (v := 0) fL_happens_67 (by decide) ?_
    refine E_iconst (v := 0) fL_happens_68 (by decide) ?_
    refine E_iconst (v := 0) fL_happens_69 (by decide) ?_
    obtain ⟨v1, M1, hR, ⟨x, rfl⟩, hW1, hF1⟩ := force_ok (d := d) hG hW (k := x53) (by omega) ((nI x61) - 1) (fz _ (by omega))
    refine E_callS (t := []) (deed_ret (plain7_r hG (nI x53) ((nI x61) - 1) 0 0 0 0 hR)).z fL_happens_70 (by decide) mdD ⟨rfl, rfl⟩ rfl rfl (Nat.le_of_ble_eq_true rfl) ?_
    refine E_pop fL_happens_73 rfl ?_
    refine E_goto (tg := 237) fL_happens_74 (by decide) ?_
    exact R_vret fL_happens_237 mL_happens rfl ⟨none, _, rfl, rfl, hW1, hF1⟩
  · refine E_tsw (off := 70) (tg := 77) fL_happens_7 (by decide) (by decide) (by decide) ?_
    refine E_aload_n fL_happens_77 rfl (by decide) ?_
    refine E_bipush (v := 14) fL_happens_78 (by decide) ?_
    refine E_aload_n fL_happens_80 rfl (by decide) ?_
    refine E_iload_n fL_happens_81 rfl ?_
    refine E_iconst (v := 1) fL_happens_82 (by decide) ?_
    refine E_iadd fL_happens_83 ?_
    rw [show ((nI i) + 1 : Int32) = nI (i + 1) from nI_add _ _]
    refine E_bipush (v := 8) fL_happens_84 (by decide) ?_
    obtain ⟨x86, hx86, hp86⟩ := pick_ok (i := (i + 1)) (m := 8) hL (by omega) (by omega) (by omega)
    refine E_callS (t := [.int 14, .ref 0]) (hp86 _ _) fL_happens_86 (by decide) mL_pick ⟨rfl, rfl⟩ rfl rfl (Nat.le_of_ble_eq_true rfl) ?_
    refine E_iconst (v := 0) fL_happens_89 (by decide) ?_
    refine E_iconst (v := 0) fL_happens_90 (by decide) ?_
    refine E_iconst (v := 0) fL_happens_91 (by decide) ?_
    refine E_iconst (v := 0) fL_happens_92 (by decide) ?_
    refine E_iconst (v := 0) fL_happens_93 (by decide) ?_
    obtain ⟨v1, M1, hR, ⟨x, rfl, hb⟩, hW1, hF1⟩ := acknowledge_ok (d := d) hG hW (k := x86) (by omega)
    refine E_callS (t := []) (deed_ret (plain14_r hG (nI x86) 0 0 0 0 0 hR hb)).z fL_happens_94 (by decide) mdD ⟨rfl, rfl⟩ rfl rfl (Nat.le_of_ble_eq_true rfl) ?_
    refine E_pop fL_happens_97 rfl ?_
    refine E_goto (tg := 237) fL_happens_98 (by decide) ?_
    exact R_vret fL_happens_237 mL_happens rfl ⟨none, _, rfl, rfl, hW1, hF1⟩
  · refine E_tsw (off := 94) (tg := 101) fL_happens_7 (by decide) (by decide) (by decide) ?_
    refine E_aload_n fL_happens_101 rfl (by decide) ?_
    refine E_bipush (v := 15) fL_happens_102 (by decide) ?_
    refine E_aload_n fL_happens_104 rfl (by decide) ?_
    refine E_iload_n fL_happens_105 rfl ?_
    refine E_iconst (v := 1) fL_happens_106 (by decide) ?_
    refine E_iadd fL_happens_107 ?_
    rw [show ((nI i) + 1 : Int32) = nI (i + 1) from nI_add _ _]
    refine E_bipush (v := 8) fL_happens_108 (by decide) ?_
    obtain ⟨x110, hx110, hp110⟩ := pick_ok (i := (i + 1)) (m := 8) hL (by omega) (by omega) (by omega)
    refine E_callS (t := [.int 15, .ref 0]) (hp110 _ _) fL_happens_110 (by decide) mL_pick ⟨rfl, rfl⟩ rfl rfl (Nat.le_of_ble_eq_true rfl) ?_
    refine E_aload_n fL_happens_113 rfl (by decide) ?_
    refine E_iload_n fL_happens_114 rfl ?_
    refine E_iconst (v := 2) fL_happens_115 (by decide) ?_
    refine E_iadd fL_happens_116 ?_
    rw [show ((nI i) + 2 : Int32) = nI (i + 2) from nI_add _ _]
    refine E_iconst (v := 3) fL_happens_117 (by decide) ?_
    obtain ⟨x118, hx118, hp118⟩ := pick_ok (i := (i + 2)) (m := 3) hL (by omega) (by omega) (by omega)
    refine E_callS (t := [.int (nI x110), .int 15, .ref 0]) (hp118 _ _) fL_happens_118 (by decide) mL_pick ⟨rfl, rfl⟩ rfl rfl (Nat.le_of_ble_eq_true rfl) ?_
    refine E_bipush (v := 7) fL_happens_121 (by decide) ?_
    refine E_imul fL_happens_123 ?_
    rw [show ((nI x118) * 7 : Int32) = nI (x118 * 7) from nI_mul _ _]
    refine E_iconst (v := 0) fL_happens_124 (by decide) ?_
    refine E_iconst (v := 0) fL_happens_125 (by decide) ?_
    refine E_iconst (v := 0) fL_happens_126 (by decide) ?_
    refine E_iconst (v := 0) fL_happens_127 (by decide) ?_
    obtain ⟨v1, M1, hR, ⟨x, rfl⟩, hW1, hF1⟩ := shelve_ok (d := d) hG hW (k := x110) (u := (x118 * 7)) (by omega) (by omega)
    refine E_callS (t := []) (deed_ret (plain15_r hG (nI x110) (nI (x118 * 7)) 0 0 0 0 hR)).z fL_happens_128 (by decide) mdD ⟨rfl, rfl⟩ rfl rfl (Nat.le_of_ble_eq_true rfl) ?_
    refine E_pop fL_happens_131 rfl ?_
    refine E_goto (tg := 237) fL_happens_132 (by decide) ?_
    exact R_vret fL_happens_237 mL_happens rfl ⟨none, _, rfl, rfl, hW1, hF1⟩
  · refine E_tsw (off := 128) (tg := 135) fL_happens_7 (by decide) (by decide) (by decide) ?_
    refine E_aload_n fL_happens_135 rfl (by decide) ?_
    refine E_bipush (v := 11) fL_happens_136 (by decide) ?_
    refine E_iconst (v := 1) fL_happens_138 (by decide) ?_
    refine E_aload_n fL_happens_139 rfl (by decide) ?_
    refine E_iload_n fL_happens_140 rfl ?_
    refine E_iconst (v := 1) fL_happens_141 (by decide) ?_
    refine E_iadd fL_happens_142 ?_
    rw [show ((nI i) + 1 : Int32) = nI (i + 1) from nI_add _ _]
    refine E_iconst (v := 4) fL_happens_143 (by decide) ?_
    obtain ⟨x144, hx144, hp144⟩ := pick_ok (i := (i + 1)) (m := 4) hL (by omega) (by omega) (by omega)
    refine E_callS (t := [.int 1, .int 11, .ref 0]) (hp144 _ _) fL_happens_144 (by decide) mL_pick ⟨rfl, rfl⟩ rfl rfl (Nat.le_of_ble_eq_true rfl) ?_
    refine E_iadd fL_happens_147 ?_
    rw [show (1 + (nI x144) : Int32) = nI (1 + x144) from nI_add _ _]
    refine E_iconst (v := 0) fL_happens_148 (by decide) ?_
    refine E_iconst (v := 0) fL_happens_149 (by decide) ?_
    refine E_iconst (v := 0) fL_happens_150 (by decide) ?_
    refine E_iconst (v := 0) fL_happens_151 (by decide) ?_
    refine E_iconst (v := 0) fL_happens_152 (by decide) ?_
    obtain ⟨v1, M1, hR, ⟨x, rfl⟩, hW1, hF1⟩ := lose_ok (d := d) hG hW (nI (1 + x144)) ⟨nI_le (a := 1) (by omega) (by omega), nI_le (b := 20) (by omega) (by decide)⟩
    refine E_callS (t := []) (deed_ret (plain11_r hG (nI (1 + x144)) 0 0 0 0 0 hR)).z fL_happens_153 (by decide) mdD ⟨rfl, rfl⟩ rfl rfl (Nat.le_of_ble_eq_true rfl) ?_
    refine E_pop fL_happens_156 rfl ?_
    refine E_goto (tg := 237) fL_happens_157 (by decide) ?_
    exact R_vret fL_happens_237 mL_happens rfl ⟨none, _, rfl, rfl, hW1, hF1⟩
  · refine E_tsw (off := 153) (tg := 160) fL_happens_7 (by decide) (by decide) (by decide) ?_
    refine E_aload_n fL_happens_160 rfl (by decide) ?_
    refine E_bipush (v := 8) fL_happens_161 (by decide) ?_
    refine E_aload_n fL_happens_163 rfl (by decide) ?_
    refine E_iload_n fL_happens_164 rfl ?_
    refine E_iconst (v := 1) fL_happens_165 (by decide) ?_
    refine E_iadd fL_happens_166 ?_
    rw [show ((nI i) + 1 : Int32) = nI (i + 1) from nI_add _ _]
    refine E_iconst (v := 2) fL_happens_167 (by decide) ?_
    obtain ⟨x168, hx168, hp168⟩ := pick_ok (i := (i + 1)) (m := 2) hL (by omega) (by omega) (by omega)
    refine E_callS (t := [.int 8, .ref 0]) (hp168 _ _) fL_happens_168 (by decide) mL_pick ⟨rfl, rfl⟩ rfl rfl (Nat.le_of_ble_eq_true rfl) ?_
    refine E_iconst (v := 1) fL_happens_171 (by decide) ?_
    refine E_aload_n fL_happens_172 rfl (by decide) ?_
    refine E_iload_n fL_happens_173 rfl ?_
    refine E_iconst (v := 2) fL_happens_174 (by decide) ?_
    refine E_iadd fL_happens_175 ?_
    rw [show ((nI i) + 2 : Int32) = nI (i + 2) from nI_add _ _]
    refine E_bipush (v := 9) fL_happens_176 (by decide) ?_
    obtain ⟨x178, hx178, hp178⟩ := pick_ok (i := (i + 2)) (m := 9) hL (by omega) (by omega) (by omega)
    refine E_callS (t := [.int 1, .int (nI x168), .int 8, .ref 0]) (hp178 _ _) fL_happens_178 (by decide) mL_pick ⟨rfl, rfl⟩ rfl rfl (Nat.le_of_ble_eq_true rfl) ?_
    refine E_iadd fL_happens_181 ?_
    rw [show (1 + (nI x178) : Int32) = nI (1 + x178) from nI_add _ _]
    refine E_iconst (v := 0) fL_happens_182 (by decide) ?_
    refine E_iconst (v := 0) fL_happens_183 (by decide) ?_
    refine E_iconst (v := 0) fL_happens_184 (by decide) ?_
    refine E_iconst (v := 0) fL_happens_185 (by decide) ?_
    obtain ⟨v1, M1, hR, ⟨x, rfl⟩, hW1, hF1⟩ := setPeriodX_ok (d := d) hG hW (k := x168) (by omega) (nI (1 + x178)) ⟨nI_le (a := 0) (by omega) (by omega), nI_le (b := 100) (by omega) (by decide)⟩
    refine E_callS (t := []) (deed_ret (plain8_r hG (nI x168) (nI (1 + x178)) 0 0 0 0 hR)).z fL_happens_186 (by decide) mdD ⟨rfl, rfl⟩ rfl rfl (Nat.le_of_ble_eq_true rfl) ?_
    refine E_pop fL_happens_189 rfl ?_
    refine E_goto (tg := 237) fL_happens_190 (by decide) ?_
    exact R_vret fL_happens_237 mL_happens rfl ⟨none, _, rfl, rfl, hW1, hF1⟩
  · refine E_tsw (off := 186) (tg := 193) fL_happens_7 (by decide) (by decide) (by decide) ?_
    refine E_aload_n fL_happens_193 rfl (by decide) ?_
    refine E_bipush (v := 12) fL_happens_194 (by decide) ?_
    refine E_aload_n fL_happens_196 rfl (by decide) ?_
    refine E_iload_n fL_happens_197 rfl ?_
    refine E_iconst (v := 1) fL_happens_198 (by decide) ?_
    refine E_iadd fL_happens_199 ?_
    rw [show ((nI i) + 1 : Int32) = nI (i + 1) from nI_add _ _]
    refine E_iconst (v := 4) fL_happens_200 (by decide) ?_
    obtain ⟨x201, hx201, hp201⟩ := pick_ok (i := (i + 1)) (m := 4) hL (by omega) (by omega) (by omega)
    refine E_callS (t := [.int 12, .ref 0]) (hp201 _ _) fL_happens_201 (by decide) mL_pick ⟨rfl, rfl⟩ rfl rfl (Nat.le_of_ble_eq_true rfl) ?_
    refine E_iconst (v := 0) fL_happens_204 (by decide) ?_
    refine E_iconst (v := 0) fL_happens_205 (by decide) ?_
    refine E_iconst (v := 0) fL_happens_206 (by decide) ?_
    refine E_iconst (v := 0) fL_happens_207 (by decide) ?_
    refine E_iconst (v := 0) fL_happens_208 (by decide) ?_
    obtain ⟨v1, M1, hR, ⟨x, rfl⟩, hW1, hF1⟩ := setHold_ok (d := d) hG hW (nI x201) ⟨nI_le (a := 0) (by omega) (by omega), nI_le (b := 9) (by omega) (by decide)⟩
    refine E_callS (t := []) (deed_ret (plain12_r hG (nI x201) 0 0 0 0 0 hR)).z fL_happens_209 (by decide) mdD ⟨rfl, rfl⟩ rfl rfl (Nat.le_of_ble_eq_true rfl) ?_
    refine E_pop fL_happens_212 rfl ?_
    refine E_goto (tg := 237) fL_happens_213 (by decide) ?_
    exact R_vret fL_happens_237 mL_happens rfl ⟨none, _, rfl, rfl, hW1, hF1⟩
  · refine E_tswd (tg := 216) fL_happens_7 (Or.inr (by rw [nI_toInt (by omega)]; omega)) (by decide) ?_
    refine E_aload_n fL_happens_216 rfl (by decide) ?_
    refine E_aload_n fL_happens_217 rfl (by decide) ?_
    refine E_iload_n fL_happens_218 rfl ?_
    refine E_iconst (v := 1) fL_happens_219 (by decide) ?_
    refine E_iadd fL_happens_220 ?_
    rw [show ((nI i) + 1 : Int32) = nI (i + 1) from nI_add _ _]
    refine E_bipush (v := 8) fL_happens_221 (by decide) ?_
    obtain ⟨x223, hx223, hp223⟩ := pick_ok (i := (i + 1)) (m := 8) hL (by omega) (by omega) (by omega)
    refine E_callS (t := [.ref 0]) (hp223 _ _) fL_happens_223 (by decide) mL_pick ⟨rfl, rfl⟩ rfl rfl (Nat.le_of_ble_eq_true rfl) ?_
    refine E_aload_n fL_happens_226 rfl (by decide) ?_
    refine E_iload_n fL_happens_227 rfl ?_
    refine E_iconst (v := 2) fL_happens_228 (by decide) ?_
    refine E_iadd fL_happens_229 ?_
    rw [show ((nI i) + 2 : Int32) = nI (i + 2) from nI_add _ _]
    refine E_iconst (v := 2) fL_happens_230 (by decide) ?_
    obtain ⟨x231, hx231, hp231⟩ := pick_ok (i := (i + 2)) (m := 2) hL (by omega) (by omega) (by omega)
    refine E_callS (t := [.int (nI x223), .ref 0]) (hp231 _ _) fL_happens_231 (by decide) mL_pick ⟨rfl, rfl⟩ rfl rfl (Nat.le_of_ble_eq_true rfl) ?_
    obtain ⟨v1, M1, hR, rfl, hW1, hF1⟩ := input_ok (d := d + 1) hG hW (k := x223) (by omega) (nI x231)
    refine E_callS (t := []) hR fL_happens_234 (by decide) mL_input ⟨rfl, rfl⟩ rfl rfl (Nat.le_of_ble_eq_true rfl) ?_
    exact R_vret fL_happens_237 mL_happens rfl ⟨none, _, rfl, rfl, hW1, hF1⟩
theorem askR {w k x : Int32} (h : Ret G (d + 4) 120 [.ref 0, .int w, .int k, .int 0, .int 0, .int 0, .int 0, .int 0] M (some (.int x)) M) : RetC G (d + 6) 121 [.ref 0, .int w, .int k] M (some (.int x)) M 0 := ask_ok (deed_ret h)
theorem askT {w k : Int32} {x : Nat} (hx : x < 5) (h : Thr G (d + 4) 120 [.ref 0, .int w, .int k, .int 0, .int 0, .int 0, .int 0, .int 0] M x M) : RetC G (d + 6) 121 [.ref 0, .int w, .int k] M (some (.int (xcode x))) M 1 := ask_ok (deed_thr hx h)
theorem ask16 (hG : Core G) {k : Nat} (hk : k < 32) : ∃ x, RetC G (d + 6) 121 [.ref 0, .int 16, .int (nI k)] M (some (.int x)) M 0 := by
  obtain ⟨v, M1, hR, hM, x, rfl⟩ := bit_ok (d := d) (M := M) hG hk
  rw [hM] at hR
  exact ⟨x, askR (plain16_r hG (nI k) 0 0 0 0 0 hR)⟩
theorem ask17 (hG : Core G) {k : Nat} (hk : k < 8) : RetC G (d + 6) 121 [.ref 0, .int 17, .int (nI k)] M (some (.int (bI (isB1 (M.1 405 1) (nI k))))) M 0 := askR (plain17_r hG (nI k) 0 0 0 0 0 (given_ok (d := d) hG hk))
theorem ask18 (hG : Core G) {k : Nat} (hk : k < 8) : RetC G (d + 6) 121 [.ref 0, .int 18, .int (nI k)] M (some (.int (M.1 378 k))) M 0 := askR (plain18_r hG (nI k) 0 0 0 0 0 (number_ok (d := d) hG hk))
theorem ask19 (hG : Core G) {k : Nat} (hk : k < 8) : RetC G (d + 6) 121 [.ref 0, .int 19, .int (nI k)] M (some (.int (M.1 379 k))) M 0 := askR (plain19_r hG (nI k) 0 0 0 0 0 (timer_ok (d := d) hG hk))
theorem ask20 (hG : Core G) {k : Nat} (hk : k < 12) : RetC G (d + 6) 121 [.ref 0, .int 20, .int (nI k)] M (some (.int (bI (isB1 (M.1 377 1) (nI k))))) M 0 := askR (plain20_r hG (nI k) 0 0 0 0 0 (isActive_ok (d := d) hG hk) (bI_01 _))
theorem ask21 (hG : Core G) {k : Nat} (hk : k < 12) : ∃ x c, c ≤ 1 ∧ RetC G (d + 6) 121 [.ref 0, .int 21, .int (nI k)] M (some (.int x)) M c := by
  by_cases hb : isB1 (M.1 377 1) (nI k)
  · exact ⟨_, 0, by omega, askR (plain21_r hG (nI k) 0 0 0 0 0 (stepTime_yes (d := d) hG hk hb))⟩
  · exact ⟨_, 1, by omega, askT (by decide) (plain21_t hG (nI k) 0 0 0 0 0 (stepTime_no (d := d) hG hk hb))⟩
theorem ask21y (hG : Core G) {k : Nat} (hk : k < 12) (hb : isB1 (M.1 377 1) (nI k)) : RetC G (d + 6) 121 [.ref 0, .int 21, .int (nI k)] M (some (.int (M.1 380 k))) M 0 := askR (plain21_r hG (nI k) 0 0 0 0 0 (stepTime_yes (d := d) hG hk hb))
theorem ask22 (hG : Core G) {n k : Nat} (hk : k < 8) (hn : n ≤ 8) (hl : M.1 383 4 = nI n) : RetC G (d + 6) 121 [.ref 0, .int 22, .int (nI k)] M (some (.int (ltr M n k))) M 0 := askR (plain22_r hG (nI k) 0 0 0 0 0 (alarm_ok (d := d) hG hk hn hl))
theorem ask23 (hG : Core G) {n k : Nat} (hk : k < n) (hn : n ≤ 8) (hl : M.1 383 4 = nI n) : RetC G (d + 6) 121 [.ref 0, .int 23, .int (nI k)] M (some (.int (M.1 385 k))) M 0 := askR (plain23_r hG (nI k) 0 0 0 0 0 (alarmAt_yes (d := d + 2) hG hk hn hl))
theorem ask23n (hG : Core G) {n : Nat} (hn : n ≤ 8) (hl : M.1 383 4 = nI n) : RetC G (d + 6) 121 [.ref 0, .int 23, .int (nI n)] M (some (.int (-2001))) M 1 := askT (x := 0) (by decide) (plain23_t hG (nI n) 0 0 0 0 0 (alarmAt_no (d := d + 2) hG hn hl))
theorem ask25 (hG : Core G) : RetC G (d + 6) 121 [.ref 0, .int 25, .int 0] M (some (.int (M.1 408 3))) M 0 := askR (plain25_r hG 0 0 0 0 0 0 (missed0_ok (d := d) hG))
theorem ask26 (hG : Core G) {k : Nat} (hk : k < 8) : RetC G (d + 6) 121 [.ref 0, .int 26, .int (nI k)] M (some (.int (M.1 406 k))) M 0 := askR (plain26_r hG (nI k) 0 0 0 0 0 (changes_ok (d := d) hG hk))
theorem ltr_cnt {n k : Nat} (h : AIn M n) (hk : k < 8) : ((ltr M n k = 116 ∨ ltr M n k = 97 ∨ ltr M n k = 114) → cnt (M.1 385) (nI k) n = 1) ∧ (¬ (ltr M n k = 116 ∨ ltr M n k = 97 ∨ ltr M n k = 114) → cnt (M.1 385) (nI k) n = 0) := by
  obtain ⟨sv, hs, es⟩ := h.2.2.2.2.1 k hk
  rcases ain_cnt h (k := k) with ⟨e, hr⟩ | ⟨e, hr⟩
  · refine ⟨fun _ => e, fun hh => absurd ?_ hh⟩
    have h0 : ¬ 0 < M.1 384 k := fun z => h.2.2.2.2.2.1 k hk (fun y => by rw [y] at z; exact absurd z (by decide)) hr
    unfold ltr
    rw [if_neg h0]
    split
    · split
      · exact Or.inr (Or.inl rfl)
      · exact Or.inl rfl
    · rw [e, if_pos (by decide)]
      exact Or.inr (Or.inr rfl)
  · refine ⟨fun hh => absurd hh ?_, fun _ => e⟩
    unfold ltr
    split
    · decide
    · rename_i h0
      split
      · rename_i hb
        have hz : M.1 384 k = 0 := by
          by_cases z : sv = 0
          · rw [es, z]; rfl
          · exact absurd (by rw [es]; exact nI_lt (a := 0) (by omega) hs) h0
        exact absurd (h.2.2.2.2.2.2 k hk hb hz) hr
      · rw [e, if_neg (by decide)]
        decide
end SP24
