section SP21
variable {G : MG} {d : Nat} {M M' : Mem}
/-- a whole call with what was thrown and caught on the way -/
def RetC (G : MG) (d k : Nat) (As : List Value) (M : Mem) (v : Option Value) (M' : Mem) (c : Nat) : Prop := RunG G mdT cdT kD kP d k As M (.inl v, M', c)
theorem Ret.c {k : Nat} {As : List Value} {v : Option Value} (h : Ret G d k As M v M') : RetC G d k As M v M' 0 := h
theorem RetC.mx {k c : Nat} {As : List Value} {v : Option Value} (h : RetC (Gc G) d k As M v M' c) (U : Mem) : RetC G d k As (mx M U) v (mx M' U) c := run_mx _ _ _ _ _ h
section RC
variable {k pc : Nat} {L : Loc1} {st : List Value} {q : Nat} {Q : Res → Prop} {a b : Nat}
theorem E_callc {k' c : Nat} {As t : List Value} {i : Instr} {v : Option Value} (hr : RetC G d k' As M v M' c) (hf : fet (cdT k) pc = some (i, a, b)) (ho : opC G mdT (mdT k) i a b (pc, L, st, M, q) = some (.inr (k', As, (pc + 3, L, t, M, q)))) (h0 : opS i st = none) (h1 : opL i L st = none) (h2 : opB i pc st = none) (h3 : opH G i a b M st = none)
    (h : E G d k (pc + 3, L, v.toList ++ t, M', q + c) Q) : E G d k (pc, L, st, M, q) Q := by
  obtain ⟨f, r, h4, h5⟩ := h
  refine ⟨f + 1, r, ?_, h5⟩
  have hs := E_C hf ho h0 h1 h2 h3
  simp only [Exec, hs]
  exact ⟨_, hr, Or.inl ⟨v, rfl, h4⟩⟩
theorem E_callSc {k' ix c : Nat} {As t : List Value} {v : Option Value} (hr : RetC G d k' As M v M' c) (hf : fet (cdT k) pc = some (.invokestatic ix, k', b)) (hb : b = 1 ∨ b = 2 ∨ b = 6) {md : MD} (hmd : mdT k' = md) (hm : md.2.2.2 = 100 ∧ md.1 = As.length) (hst : st = As.reverse ++ t) (hc : As.all (fun v => v.category == 1) = true) (h8 : catS t ≤ 8)
    (h : E G d k (pc + 3, L, v.toList ++ t, M', q + c) Q) : E G d k (pc, L, st, M, q) Q := by
  subst hst; subst hmd
  refine E_callc hr hf ?_ rfl rfl rfl ?_ h
  · simp only [opC, cut]
    have e1 : (List.take (mdT k').1 (As.reverse ++ t)).reverse = As := by
      rw [hm.2, List.take_append_of_le_length (by simp), List.take_of_length_le (by simp), List.reverse_reverse]
    have e2 : List.drop (mdT k').1 (As.reverse ++ t) = t := by
      rw [hm.2, List.drop_append_of_le_length (by simp), List.drop_of_length_le (by simp), List.nil_append]
    rw [e1, e2, if_pos hm.2.symm, if_pos hm.1]
    simp only []
    rw [if_pos ⟨h8, hb, hc⟩]
  · simp only [opH]
    rw [if_neg (by omega), if_neg (by omega), if_neg (by omega)]
end RC
theorem C_start {k : Nat} {As : List Value} {P : Option Value → Mem → Nat → Prop} {md : MD} (hk : k ≠ 200) (hmd : mdT k = md) (h : E G d k (0, entL As md.2.2.1, [], M, 0) (fun r => ∃ v M' c, r = (.inl v, M', c) ∧ P v M' c)) : ∃ v M' c, RetC G (d + 1) k As M v M' c ∧ P v M' c := by
  obtain ⟨r, h1, v, M', c, rfl, h2⟩ := Run_of hk (P := fun r => ∃ v M' c, r = (.inl v, M', c) ∧ P v M' c) (by rw [hmd]; exact h)
  exact ⟨v, M', c, h1, h2⟩
theorem deed_ret {x1 x2 x3 x4 x5 x6 x7 x : Int32} (h : Ret G d 120 [.ref 0, .int x1, .int x2, .int x3, .int x4, .int x5, .int x6, .int x7] M (some (.int x)) M') : RetC G (d + 1) 200 [.ref 0, .int x1, .int x2, .int x3, .int x4, .int x5, .int x6, .int x7] M (some (.int x)) M' 0 := by
  unfold RetC
  simp only [RunG]
  rw [if_pos (show 200 = kD from rfl)]
  exact ⟨⟨0, x1, x2, x3, x4, x5, x6, x7, by decide, rfl⟩, _, h, Or.inl ⟨x, rfl, rfl⟩⟩
theorem deed_thr {x1 x2 x3 x4 x5 x6 x7 : Int32} {x : Nat} (hx : x < 5) (h : Thr G d 120 [.ref 0, .int x1, .int x2, .int x3, .int x4, .int x5, .int x6, .int x7] M x M') : RetC G (d + 1) 200 [.ref 0, .int x1, .int x2, .int x3, .int x4, .int x5, .int x6, .int x7] M (some (.int (xcode x))) M' 1 := by
  unfold RetC
  simp only [RunG]
  rw [if_pos (show 200 = kD from rfl)]
  exact ⟨⟨0, x1, x2, x3, x4, x5, x6, x7, by decide, rfl⟩, _, h, Or.inr ⟨x, hx, rfl, rfl⟩⟩
theorem Any.cases {k : Nat} {As : List Value} {P : Mem → Prop} (h : Any G d k As M P) : (∃ x M', Ret G d k As M (some (.int x)) M' ∧ P M') ∨ ∃ x M', x < 5 ∧ Thr G d k As M x M' ∧ P M' := by
  obtain ⟨⟨r1, M', c⟩, h1, -, h2, h3⟩ := h
  rcases h2 with ⟨x, e1, e2⟩ | ⟨x, hx, e1, e2⟩
  · refine Or.inl ⟨x, M', ?_, h3⟩
    cases e1; cases e2
    exact h1
  · refine Or.inr ⟨x, M', hx, ?_, h3⟩
    cases e1; cases e2
    exact h1
theorem told01 {x : Int32} (h : x = 0 ∨ x = 1) : Ret G (d + 1) 119 [.int x] M (some (.int x)) M := by
  rcases h with rfl | rfl
  · have := told_ok (G := G) (d := d) (M := M) False
    rw [bI_f (fun z => z)] at this
    exact this
  · have := told_ok (G := G) (d := d) (M := M) True
    rw [bI_t trivial] at this
    exact this
theorem plain0_r (hG : Core G) (a b c e f g : Int32) {x : Int32} (h : Ret G (d + 1) 36 [.ref 0, .int a, .int (((b : Int32).toUInt32 % 65536).toInt32), .int c, .int e] M (some (.int x)) M') : Ret G (d + 2) 120 [.ref 0, .int 0, .int a, .int b, .int c, .int e, .int f, .int g] M (some (.int x)) M' := by
  have hG0 : True := trivial
  refine R_start (d := d + 1) (by decide) mL_plain ?_
  show E _ _ _ (0, [some (.ref 0), some (.int 0), some (.int a), some (.int b), some (.int c), some (.int e), some (.int f), some (.int g)], [], M, 0) _
  refine E_iload_n fL_plain_0 rfl ?_
  refine E_tsw (off := 119) (tg := 120) fL_plain_1 (by decide) (by decide) (by decide) ?_
  refine E_aload_n fL_plain_120 rfl (by decide) ?_
  refine E_iload_n fL_plain_121 rfl ?_
  refine E_iload_n fL_plain_122 rfl ?_
  refine E_i2c fL_plain_123 ?_
  refine E_iload fL_plain_124 rfl ?_
  refine E_iload fL_plain_126 rfl ?_
  refine E_callV (t := []) h fL_plain_128 mX9_rung (rc_obj (k0 hG) (by decide) (by decide)) ⟨by decide, rfl⟩ rfl rfl (Nat.le_of_ble_eq_true rfl) ?_
  exact R_iret fL_plain_131 mL_plain rfl rfl
theorem plain0_t (hG : Core G) (a b c e f g : Int32) {x : Nat} (h : Thr G (d + 1) 36 [.ref 0, .int a, .int (((b : Int32).toUInt32 % 65536).toInt32), .int c, .int e] M x M') : Thr G (d + 2) 120 [.ref 0, .int 0, .int a, .int b, .int c, .int e, .int f, .int g] M x M' := by
  refine T_start (d := d + 1) (by decide) mL_plain ?_
  show E _ _ _ (0, [some (.ref 0), some (.int 0), some (.int a), some (.int b), some (.int c), some (.int e), some (.int f), some (.int g)], [], M, 0) _
  refine E_iload_n fL_plain_0 rfl ?_
  refine E_tsw (off := 119) (tg := 120) fL_plain_1 (by decide) (by decide) (by decide) ?_
  refine E_aload_n fL_plain_120 rfl (by decide) ?_
  refine E_iload_n fL_plain_121 rfl ?_
  refine E_iload_n fL_plain_122 rfl ?_
  refine E_i2c fL_plain_123 ?_
  refine E_iload fL_plain_124 rfl ?_
  refine E_iload fL_plain_126 rfl ?_
  exact E_thrV (t := []) h fL_plain_128 mX9_rung (rc_obj (k0 hG) (by decide) (by decide)) ⟨by decide, rfl⟩ rfl rfl (Nat.le_of_ble_eq_true rfl) rfl
theorem plain1_r (hG : Core G) (a b c e f g : Int32) {x : Int32} (h : Ret G (d + 1) 37 [.ref 0, .int a, .int (((b : Int32).toUInt32 % 65536).toInt32), .int c] M (some (.int x)) M') : Ret G (d + 2) 120 [.ref 0, .int 1, .int a, .int b, .int c, .int e, .int f, .int g] M (some (.int x)) M' := by
  have hG0 : True := trivial
  refine R_start (d := d + 1) (by decide) mL_plain ?_
  show E _ _ _ (0, [some (.ref 0), some (.int 1), some (.int a), some (.int b), some (.int c), some (.int e), some (.int f), some (.int g)], [], M, 0) _
  refine E_iload_n fL_plain_0 rfl ?_
  refine E_tsw (off := 131) (tg := 132) fL_plain_1 (by decide) (by decide) (by decide) ?_
  refine E_aload_n fL_plain_132 rfl (by decide) ?_
  refine E_iload_n fL_plain_133 rfl ?_
  refine E_iload_n fL_plain_134 rfl ?_
  refine E_i2c fL_plain_135 ?_
  refine E_iload fL_plain_136 rfl ?_
  refine E_callV (t := []) h fL_plain_138 mX9_contact (rc_obj (k0 hG) (by decide) (by decide)) ⟨by decide, rfl⟩ rfl rfl (Nat.le_of_ble_eq_true rfl) ?_
  exact R_iret fL_plain_141 mL_plain rfl rfl
theorem plain1_t (hG : Core G) (a b c e f g : Int32) {x : Nat} (h : Thr G (d + 1) 37 [.ref 0, .int a, .int (((b : Int32).toUInt32 % 65536).toInt32), .int c] M x M') : Thr G (d + 2) 120 [.ref 0, .int 1, .int a, .int b, .int c, .int e, .int f, .int g] M x M' := by
  refine T_start (d := d + 1) (by decide) mL_plain ?_
  show E _ _ _ (0, [some (.ref 0), some (.int 1), some (.int a), some (.int b), some (.int c), some (.int e), some (.int f), some (.int g)], [], M, 0) _
  refine E_iload_n fL_plain_0 rfl ?_
  refine E_tsw (off := 131) (tg := 132) fL_plain_1 (by decide) (by decide) (by decide) ?_
  refine E_aload_n fL_plain_132 rfl (by decide) ?_
  refine E_iload_n fL_plain_133 rfl ?_
  refine E_iload_n fL_plain_134 rfl ?_
  refine E_i2c fL_plain_135 ?_
  refine E_iload fL_plain_136 rfl ?_
  exact E_thrV (t := []) h fL_plain_138 mX9_contact (rc_obj (k0 hG) (by decide) (by decide)) ⟨by decide, rfl⟩ rfl rfl (Nat.le_of_ble_eq_true rfl) rfl
theorem plain3_r (hG : Core G) (a b c e f g : Int32) {x : Int32} (h : Ret G (d + 1) 39 [.ref 0, .int a, .int (((b : Int32).toUInt32 % 65536).toInt32), .int c, .int e] M (some (.int x)) M') : Ret G (d + 2) 120 [.ref 0, .int 3, .int a, .int b, .int c, .int e, .int f, .int g] M (some (.int x)) M' := by
  have hG0 : True := trivial
  refine R_start (d := d + 1) (by decide) mL_plain ?_
  show E _ _ _ (0, [some (.ref 0), some (.int 3), some (.int a), some (.int b), some (.int c), some (.int e), some (.int f), some (.int g)], [], M, 0) _
  refine E_iload_n fL_plain_0 rfl ?_
  refine E_tsw (off := 146) (tg := 147) fL_plain_1 (by decide) (by decide) (by decide) ?_
  refine E_aload_n fL_plain_147 rfl (by decide) ?_
  refine E_iload_n fL_plain_148 rfl ?_
  refine E_iload_n fL_plain_149 rfl ?_
  refine E_i2c fL_plain_150 ?_
  refine E_iload fL_plain_151 rfl ?_
  refine E_iload fL_plain_153 rfl ?_
  refine E_callV (t := []) h fL_plain_155 mX9_action (rc_obj (k0 hG) (by decide) (by decide)) ⟨by decide, rfl⟩ rfl rfl (Nat.le_of_ble_eq_true rfl) ?_
  exact R_iret fL_plain_158 mL_plain rfl rfl
theorem plain3_t (hG : Core G) (a b c e f g : Int32) {x : Nat} (h : Thr G (d + 1) 39 [.ref 0, .int a, .int (((b : Int32).toUInt32 % 65536).toInt32), .int c, .int e] M x M') : Thr G (d + 2) 120 [.ref 0, .int 3, .int a, .int b, .int c, .int e, .int f, .int g] M x M' := by
  refine T_start (d := d + 1) (by decide) mL_plain ?_
  show E _ _ _ (0, [some (.ref 0), some (.int 3), some (.int a), some (.int b), some (.int c), some (.int e), some (.int f), some (.int g)], [], M, 0) _
  refine E_iload_n fL_plain_0 rfl ?_
  refine E_tsw (off := 146) (tg := 147) fL_plain_1 (by decide) (by decide) (by decide) ?_
  refine E_aload_n fL_plain_147 rfl (by decide) ?_
  refine E_iload_n fL_plain_148 rfl ?_
  refine E_iload_n fL_plain_149 rfl ?_
  refine E_i2c fL_plain_150 ?_
  refine E_iload fL_plain_151 rfl ?_
  refine E_iload fL_plain_153 rfl ?_
  exact E_thrV (t := []) h fL_plain_155 mX9_action (rc_obj (k0 hG) (by decide) (by decide)) ⟨by decide, rfl⟩ rfl rfl (Nat.le_of_ble_eq_true rfl) rfl
theorem plain4_r_1 (hG : Core G) (a b c e f g : Int32) (hf : g = 1) {x : Int32} (h : Ret G (d + 1) 40 [.ref 0, .int a, .int b, .int c, .int e, .int f, .int 1] M (some (.int x)) M') : Ret G (d + 2) 120 [.ref 0, .int 4, .int a, .int b, .int c, .int e, .int f, .int g] M (some (.int x)) M' := by
  have hG0 : True := trivial
  refine R_start (d := d + 1) (by decide) mL_plain ?_
  show E _ _ _ (0, [some (.ref 0), some (.int 4), some (.int a), some (.int b), some (.int c), some (.int e), some (.int f), some (.int g)], [], M, 0) _
  refine E_iload_n fL_plain_0 rfl ?_
  refine E_tsw (off := 158) (tg := 159) fL_plain_1 (by decide) (by decide) (by decide) ?_
  refine E_aload_n fL_plain_159 rfl (by decide) ?_
  refine E_iload_n fL_plain_160 rfl ?_
  refine E_iload_n fL_plain_161 rfl ?_
  refine E_iload fL_plain_162 rfl ?_
  refine E_iload fL_plain_164 rfl ?_
  refine E_iload fL_plain_166 rfl ?_
  refine E_iload fL_plain_168 rfl ?_
  refine E_iconst (v := 1) fL_plain_170 (by decide) ?_
  refine E_icne (tg := 178) fL_plain_171 (by decide) (fun c => absurd hf c) (fun c_171 => ?_)
  refine E_iconst (v := 1) fL_plain_174 (by decide) ?_
  refine E_goto (tg := 179) fL_plain_175 (by decide) ?_
  refine E_callV (t := []) h fL_plain_179 mX9_transition (rc_obj (k0 hG) (by decide) (by decide)) ⟨by decide, rfl⟩ rfl rfl (Nat.le_of_ble_eq_true rfl) ?_
  exact R_iret fL_plain_182 mL_plain rfl rfl
theorem plain4_t_1 (hG : Core G) (a b c e f g : Int32) (hf : g = 1) {x : Nat} (h : Thr G (d + 1) 40 [.ref 0, .int a, .int b, .int c, .int e, .int f, .int 1] M x M') : Thr G (d + 2) 120 [.ref 0, .int 4, .int a, .int b, .int c, .int e, .int f, .int g] M x M' := by
  refine T_start (d := d + 1) (by decide) mL_plain ?_
  show E _ _ _ (0, [some (.ref 0), some (.int 4), some (.int a), some (.int b), some (.int c), some (.int e), some (.int f), some (.int g)], [], M, 0) _
  refine E_iload_n fL_plain_0 rfl ?_
  refine E_tsw (off := 158) (tg := 159) fL_plain_1 (by decide) (by decide) (by decide) ?_
  refine E_aload_n fL_plain_159 rfl (by decide) ?_
  refine E_iload_n fL_plain_160 rfl ?_
  refine E_iload_n fL_plain_161 rfl ?_
  refine E_iload fL_plain_162 rfl ?_
  refine E_iload fL_plain_164 rfl ?_
  refine E_iload fL_plain_166 rfl ?_
  refine E_iload fL_plain_168 rfl ?_
  refine E_iconst (v := 1) fL_plain_170 (by decide) ?_
  refine E_icne (tg := 178) fL_plain_171 (by decide) (fun c => absurd hf c) (fun c_171 => ?_)
  refine E_iconst (v := 1) fL_plain_174 (by decide) ?_
  refine E_goto (tg := 179) fL_plain_175 (by decide) ?_
  exact E_thrV (t := []) h fL_plain_179 mX9_transition (rc_obj (k0 hG) (by decide) (by decide)) ⟨by decide, rfl⟩ rfl rfl (Nat.le_of_ble_eq_true rfl) rfl
theorem plain4_r_0 (hG : Core G) (a b c e f g : Int32) (hf : ¬ g = 1) {x : Int32} (h : Ret G (d + 1) 40 [.ref 0, .int a, .int b, .int c, .int e, .int f, .int 0] M (some (.int x)) M') : Ret G (d + 2) 120 [.ref 0, .int 4, .int a, .int b, .int c, .int e, .int f, .int g] M (some (.int x)) M' := by
  have hG0 : True := trivial
  refine R_start (d := d + 1) (by decide) mL_plain ?_
  show E _ _ _ (0, [some (.ref 0), some (.int 4), some (.int a), some (.int b), some (.int c), some (.int e), some (.int f), some (.int g)], [], M, 0) _
  refine E_iload_n fL_plain_0 rfl ?_
  refine E_tsw (off := 158) (tg := 159) fL_plain_1 (by decide) (by decide) (by decide) ?_
  refine E_aload_n fL_plain_159 rfl (by decide) ?_
  refine E_iload_n fL_plain_160 rfl ?_
  refine E_iload_n fL_plain_161 rfl ?_
  refine E_iload fL_plain_162 rfl ?_
  refine E_iload fL_plain_164 rfl ?_
  refine E_iload fL_plain_166 rfl ?_
  refine E_iload fL_plain_168 rfl ?_
  refine E_iconst (v := 1) fL_plain_170 (by decide) ?_
  refine E_icne (tg := 178) fL_plain_171 (by decide) (fun c_171 => ?_) (fun c => absurd c hf)
  refine E_iconst (v := 0) fL_plain_178 (by decide) ?_
  refine E_callV (t := []) h fL_plain_179 mX9_transition (rc_obj (k0 hG) (by decide) (by decide)) ⟨by decide, rfl⟩ rfl rfl (Nat.le_of_ble_eq_true rfl) ?_
  exact R_iret fL_plain_182 mL_plain rfl rfl
theorem plain4_t_0 (hG : Core G) (a b c e f g : Int32) (hf : ¬ g = 1) {x : Nat} (h : Thr G (d + 1) 40 [.ref 0, .int a, .int b, .int c, .int e, .int f, .int 0] M x M') : Thr G (d + 2) 120 [.ref 0, .int 4, .int a, .int b, .int c, .int e, .int f, .int g] M x M' := by
  refine T_start (d := d + 1) (by decide) mL_plain ?_
  show E _ _ _ (0, [some (.ref 0), some (.int 4), some (.int a), some (.int b), some (.int c), some (.int e), some (.int f), some (.int g)], [], M, 0) _
  refine E_iload_n fL_plain_0 rfl ?_
  refine E_tsw (off := 158) (tg := 159) fL_plain_1 (by decide) (by decide) (by decide) ?_
  refine E_aload_n fL_plain_159 rfl (by decide) ?_
  refine E_iload_n fL_plain_160 rfl ?_
  refine E_iload_n fL_plain_161 rfl ?_
  refine E_iload fL_plain_162 rfl ?_
  refine E_iload fL_plain_164 rfl ?_
  refine E_iload fL_plain_166 rfl ?_
  refine E_iload fL_plain_168 rfl ?_
  refine E_iconst (v := 1) fL_plain_170 (by decide) ?_
  refine E_icne (tg := 178) fL_plain_171 (by decide) (fun c_171 => ?_) (fun c => absurd c hf)
  refine E_iconst (v := 0) fL_plain_178 (by decide) ?_
  exact E_thrV (t := []) h fL_plain_179 mX9_transition (rc_obj (k0 hG) (by decide) (by decide)) ⟨by decide, rfl⟩ rfl rfl (Nat.le_of_ble_eq_true rfl) rfl
theorem plain5_r (hG : Core G) (a b c e f g : Int32) {x : Int32} (h : Ret G (d + 1) 42 [.ref 0] M (some (.int x)) M') : Ret G (d + 2) 120 [.ref 0, .int 5, .int a, .int b, .int c, .int e, .int f, .int g] M (some (.int x)) M' := by
  have hG0 : True := trivial
  refine R_start (d := d + 1) (by decide) mL_plain ?_
  show E _ _ _ (0, [some (.ref 0), some (.int 5), some (.int a), some (.int b), some (.int c), some (.int e), some (.int f), some (.int g)], [], M, 0) _
  refine E_iload_n fL_plain_0 rfl ?_
  refine E_tsw (off := 182) (tg := 183) fL_plain_1 (by decide) (by decide) (by decide) ?_
  refine E_aload_n fL_plain_183 rfl (by decide) ?_
  refine E_callV (t := []) h fL_plain_184 mX9_takeOver (rc_obj (k0 hG) (by decide) (by decide)) ⟨by decide, rfl⟩ rfl rfl (Nat.le_of_ble_eq_true rfl) ?_
  exact R_iret fL_plain_187 mL_plain rfl rfl
theorem plain5_t (hG : Core G) (a b c e f g : Int32) {x : Nat} (h : Thr G (d + 1) 42 [.ref 0] M x M') : Thr G (d + 2) 120 [.ref 0, .int 5, .int a, .int b, .int c, .int e, .int f, .int g] M x M' := by
  refine T_start (d := d + 1) (by decide) mL_plain ?_
  show E _ _ _ (0, [some (.ref 0), some (.int 5), some (.int a), some (.int b), some (.int c), some (.int e), some (.int f), some (.int g)], [], M, 0) _
  refine E_iload_n fL_plain_0 rfl ?_
  refine E_tsw (off := 182) (tg := 183) fL_plain_1 (by decide) (by decide) (by decide) ?_
  refine E_aload_n fL_plain_183 rfl (by decide) ?_
  exact E_thrV (t := []) h fL_plain_184 mX9_takeOver (rc_obj (k0 hG) (by decide) (by decide)) ⟨by decide, rfl⟩ rfl rfl (Nat.le_of_ble_eq_true rfl) rfl
theorem plain7_r (hG : Core G) (a b c e f g : Int32) {x : Int32} (h : Ret G (d + 1) 44 [.ref 0, .int a, .int b] M (some (.int x)) M') : Ret G (d + 2) 120 [.ref 0, .int 7, .int a, .int b, .int c, .int e, .int f, .int g] M (some (.int x)) M' := by
  have hG0 : True := trivial
  refine R_start (d := d + 1) (by decide) mL_plain ?_
  show E _ _ _ (0, [some (.ref 0), some (.int 7), some (.int a), some (.int b), some (.int c), some (.int e), some (.int f), some (.int g)], [], M, 0) _
  refine E_iload_n fL_plain_0 rfl ?_
  refine E_tsw (off := 206) (tg := 207) fL_plain_1 (by decide) (by decide) (by decide) ?_
  refine E_aload_n fL_plain_207 rfl (by decide) ?_
  refine E_iload_n fL_plain_208 rfl ?_
  refine E_iload_n fL_plain_209 rfl ?_
  refine E_callV (t := []) h fL_plain_210 mX9_force (rc_obj (k0 hG) (by decide) (by decide)) ⟨by decide, rfl⟩ rfl rfl (Nat.le_of_ble_eq_true rfl) ?_
  exact R_iret fL_plain_213 mL_plain rfl rfl
theorem plain8_r (hG : Core G) (a b c e f g : Int32) {x : Int32} (h : Ret G (d + 1) 45 [.ref 0, .int a, .int b] M (some (.int x)) M') : Ret G (d + 2) 120 [.ref 0, .int 8, .int a, .int b, .int c, .int e, .int f, .int g] M (some (.int x)) M' := by
  have hG0 : True := trivial
  refine R_start (d := d + 1) (by decide) mL_plain ?_
  show E _ _ _ (0, [some (.ref 0), some (.int 8), some (.int a), some (.int b), some (.int c), some (.int e), some (.int f), some (.int g)], [], M, 0) _
  refine E_iload_n fL_plain_0 rfl ?_
  refine E_tsw (off := 213) (tg := 214) fL_plain_1 (by decide) (by decide) (by decide) ?_
  refine E_aload_n fL_plain_214 rfl (by decide) ?_
  refine E_iload_n fL_plain_215 rfl ?_
  refine E_iload_n fL_plain_216 rfl ?_
  refine E_callV (t := []) h fL_plain_217 mX9_setPeriod (rc_obj (k0 hG) (by decide) (by decide)) ⟨by decide, rfl⟩ rfl rfl (Nat.le_of_ble_eq_true rfl) ?_
  exact R_iret fL_plain_220 mL_plain rfl rfl
theorem plain10_r (hG : Core G) (a b c e f g : Int32) {x : Int32} (h : Ret G (d + 1) 47 [.ref 0, .int a, .int b] M (some (.int x)) M') : Ret G (d + 2) 120 [.ref 0, .int 10, .int a, .int b, .int c, .int e, .int f, .int g] M (some (.int x)) M' := by
  have hG0 : True := trivial
  refine R_start (d := d + 1) (by decide) mL_plain ?_
  show E _ _ _ (0, [some (.ref 0), some (.int 10), some (.int a), some (.int b), some (.int c), some (.int e), some (.int f), some (.int g)], [], M, 0) _
  refine E_iload_n fL_plain_0 rfl ?_
  refine E_tsw (off := 226) (tg := 227) fL_plain_1 (by decide) (by decide) (by decide) ?_
  refine E_aload_n fL_plain_227 rfl (by decide) ?_
  refine E_iload_n fL_plain_228 rfl ?_
  refine E_iload_n fL_plain_229 rfl ?_
  refine E_callV (t := []) h fL_plain_230 mX9_setWatch (rc_obj (k0 hG) (by decide) (by decide)) ⟨by decide, rfl⟩ rfl rfl (Nat.le_of_ble_eq_true rfl) ?_
  exact R_iret fL_plain_233 mL_plain rfl rfl
theorem plain11_r (hG : Core G) (a b c e f g : Int32) {x : Int32} (h : Ret G (d + 1) 48 [.ref 0, .int a] M (some (.int x)) M') : Ret G (d + 2) 120 [.ref 0, .int 11, .int a, .int b, .int c, .int e, .int f, .int g] M (some (.int x)) M' := by
  have hG0 : True := trivial
  refine R_start (d := d + 1) (by decide) mL_plain ?_
  show E _ _ _ (0, [some (.ref 0), some (.int 11), some (.int a), some (.int b), some (.int c), some (.int e), some (.int f), some (.int g)], [], M, 0) _
  refine E_iload_n fL_plain_0 rfl ?_
  refine E_tsw (off := 233) (tg := 234) fL_plain_1 (by decide) (by decide) (by decide) ?_
  refine E_aload_n fL_plain_234 rfl (by decide) ?_
  refine E_iload_n fL_plain_235 rfl ?_
  refine E_callV (t := []) h fL_plain_236 mX9_lose (rc_obj (k0 hG) (by decide) (by decide)) ⟨by decide, rfl⟩ rfl rfl (Nat.le_of_ble_eq_true rfl) ?_
  exact R_iret fL_plain_239 mL_plain rfl rfl
theorem plain12_r (hG : Core G) (a b c e f g : Int32) {x : Int32} (h : Ret G (d + 1) 49 [.ref 0, .int a] M (some (.int x)) M') : Ret G (d + 2) 120 [.ref 0, .int 12, .int a, .int b, .int c, .int e, .int f, .int g] M (some (.int x)) M' := by
  have hG0 : True := trivial
  refine R_start (d := d + 1) (by decide) mL_plain ?_
  show E _ _ _ (0, [some (.ref 0), some (.int 12), some (.int a), some (.int b), some (.int c), some (.int e), some (.int f), some (.int g)], [], M, 0) _
  refine E_iload_n fL_plain_0 rfl ?_
  refine E_tsw (off := 239) (tg := 240) fL_plain_1 (by decide) (by decide) (by decide) ?_
  refine E_aload_n fL_plain_240 rfl (by decide) ?_
  refine E_iload_n fL_plain_241 rfl ?_
  refine E_callV (t := []) h fL_plain_242 mX9_setHold (rc_obj (k0 hG) (by decide) (by decide)) ⟨by decide, rfl⟩ rfl rfl (Nat.le_of_ble_eq_true rfl) ?_
  exact R_iret fL_plain_245 mL_plain rfl rfl
theorem plain13_r (hG : Core G) (a b c e f g : Int32) {x : Int32} (h : Ret G (d + 1) 50 [.ref 0, .int a] M (some (.int x)) M') : Ret G (d + 2) 120 [.ref 0, .int 13, .int a, .int b, .int c, .int e, .int f, .int g] M (some (.int x)) M' := by
  have hG0 : True := trivial
  refine R_start (d := d + 1) (by decide) mL_plain ?_
  show E _ _ _ (0, [some (.ref 0), some (.int 13), some (.int a), some (.int b), some (.int c), some (.int e), some (.int f), some (.int g)], [], M, 0) _
  refine E_iload_n fL_plain_0 rfl ?_
  refine E_tsw (off := 245) (tg := 246) fL_plain_1 (by decide) (by decide) (by decide) ?_
  refine E_aload_n fL_plain_246 rfl (by decide) ?_
  refine E_iload_n fL_plain_247 rfl ?_
  refine E_callV (t := []) h fL_plain_248 mX9_pass (rc_obj (k0 hG) (by decide) (by decide)) ⟨by decide, rfl⟩ rfl rfl (Nat.le_of_ble_eq_true rfl) ?_
  exact R_iret fL_plain_251 mL_plain rfl rfl
theorem plain14_r (hG : Core G) (a b c e f g : Int32) {x : Int32} (h : Ret G (d + 1) 51 [.ref 0, .int a] M (some (.int x)) M') (hx : x = 0 ∨ x = 1) : Ret G (d + 2) 120 [.ref 0, .int 14, .int a, .int b, .int c, .int e, .int f, .int g] M (some (.int x)) M' := by
  have hG0 : True := trivial
  refine R_start (d := d + 1) (by decide) mL_plain ?_
  show E _ _ _ (0, [some (.ref 0), some (.int 14), some (.int a), some (.int b), some (.int c), some (.int e), some (.int f), some (.int g)], [], M, 0) _
  refine E_iload_n fL_plain_0 rfl ?_
  refine E_tsw (off := 251) (tg := 252) fL_plain_1 (by decide) (by decide) (by decide) ?_
  refine E_aload_n fL_plain_252 rfl (by decide) ?_
  refine E_iload_n fL_plain_253 rfl ?_
  refine E_callV (t := []) h fL_plain_254 mX9_acknowledge (rc_obj (k0 hG) (by decide) (by decide)) ⟨by decide, rfl⟩ rfl rfl (Nat.le_of_ble_eq_true rfl) ?_
  refine E_callS (t := []) (told01 (d := d) hx) fL_plain_257 (by decide) mL_told ⟨rfl, rfl⟩ rfl rfl (Nat.le_of_ble_eq_true rfl) ?_
  exact R_iret fL_plain_260 mL_plain rfl rfl
theorem plain15_r (hG : Core G) (a b c e f g : Int32) {x : Int32} (h : Ret G (d + 1) 52 [.ref 0, .int a, .int b] M (some (.int x)) M') : Ret G (d + 2) 120 [.ref 0, .int 15, .int a, .int b, .int c, .int e, .int f, .int g] M (some (.int x)) M' := by
  have hG0 : True := trivial
  refine R_start (d := d + 1) (by decide) mL_plain ?_
  show E _ _ _ (0, [some (.ref 0), some (.int 15), some (.int a), some (.int b), some (.int c), some (.int e), some (.int f), some (.int g)], [], M, 0) _
  refine E_iload_n fL_plain_0 rfl ?_
  refine E_tsw (off := 260) (tg := 261) fL_plain_1 (by decide) (by decide) (by decide) ?_
  refine E_aload_n fL_plain_261 rfl (by decide) ?_
  refine E_iload_n fL_plain_262 rfl ?_
  refine E_iload_n fL_plain_263 rfl ?_
  refine E_callV (t := []) h fL_plain_264 mX9_shelve (rc_obj (k0 hG) (by decide) (by decide)) ⟨by decide, rfl⟩ rfl rfl (Nat.le_of_ble_eq_true rfl) ?_
  exact R_iret fL_plain_267 mL_plain rfl rfl
theorem plain16_r (hG : Core G) (a b c e f g : Int32) {x : Int32} (h : Ret G (d + 1) 56 [.ref 0, .int a] M (some (.int x)) M') : Ret G (d + 2) 120 [.ref 0, .int 16, .int a, .int b, .int c, .int e, .int f, .int g] M (some (.int x)) M' := by
  have hG0 : True := trivial
  refine R_start (d := d + 1) (by decide) mL_plain ?_
  show E _ _ _ (0, [some (.ref 0), some (.int 16), some (.int a), some (.int b), some (.int c), some (.int e), some (.int f), some (.int g)], [], M, 0) _
  refine E_iload_n fL_plain_0 rfl ?_
  refine E_tsw (off := 267) (tg := 268) fL_plain_1 (by decide) (by decide) (by decide) ?_
  refine E_aload_n fL_plain_268 rfl (by decide) ?_
  refine E_iload_n fL_plain_269 rfl ?_
  refine E_callV (t := []) h fL_plain_270 mX9_bit (rc_obj (k0 hG) (by decide) (by decide)) ⟨by decide, rfl⟩ rfl rfl (Nat.le_of_ble_eq_true rfl) ?_
  exact R_iret fL_plain_273 mL_plain rfl rfl
theorem plain17_r (hG : Core G) (a b c e f g : Int32) {x : Int32} (h : Ret G (d + 1) 57 [.ref 0, .int a] M (some (.int x)) M') : Ret G (d + 2) 120 [.ref 0, .int 17, .int a, .int b, .int c, .int e, .int f, .int g] M (some (.int x)) M' := by
  have hG0 : True := trivial
  refine R_start (d := d + 1) (by decide) mL_plain ?_
  show E _ _ _ (0, [some (.ref 0), some (.int 17), some (.int a), some (.int b), some (.int c), some (.int e), some (.int f), some (.int g)], [], M, 0) _
  refine E_iload_n fL_plain_0 rfl ?_
  refine E_tsw (off := 273) (tg := 274) fL_plain_1 (by decide) (by decide) (by decide) ?_
  refine E_aload_n fL_plain_274 rfl (by decide) ?_
  refine E_iload_n fL_plain_275 rfl ?_
  refine E_callV (t := []) h fL_plain_276 mX9_given (rc_obj (k0 hG) (by decide) (by decide)) ⟨by decide, rfl⟩ rfl rfl (Nat.le_of_ble_eq_true rfl) ?_
  exact R_iret fL_plain_279 mL_plain rfl rfl
theorem plain18_r (hG : Core G) (a b c e f g : Int32) {x : Int32} (h : Ret G (d + 1) 58 [.ref 0, .int a] M (some (.int x)) M') : Ret G (d + 2) 120 [.ref 0, .int 18, .int a, .int b, .int c, .int e, .int f, .int g] M (some (.int x)) M' := by
  have hG0 : True := trivial
  refine R_start (d := d + 1) (by decide) mL_plain ?_
  show E _ _ _ (0, [some (.ref 0), some (.int 18), some (.int a), some (.int b), some (.int c), some (.int e), some (.int f), some (.int g)], [], M, 0) _
  refine E_iload_n fL_plain_0 rfl ?_
  refine E_tsw (off := 279) (tg := 280) fL_plain_1 (by decide) (by decide) (by decide) ?_
  refine E_aload_n fL_plain_280 rfl (by decide) ?_
  refine E_iload_n fL_plain_281 rfl ?_
  refine E_callV (t := []) h fL_plain_282 mX9_number (rc_obj (k0 hG) (by decide) (by decide)) ⟨by decide, rfl⟩ rfl rfl (Nat.le_of_ble_eq_true rfl) ?_
  exact R_iret fL_plain_285 mL_plain rfl rfl
theorem plain19_r (hG : Core G) (a b c e f g : Int32) {x : Int32} (h : Ret G (d + 1) 59 [.ref 0, .int a] M (some (.int x)) M') : Ret G (d + 2) 120 [.ref 0, .int 19, .int a, .int b, .int c, .int e, .int f, .int g] M (some (.int x)) M' := by
  have hG0 : True := trivial
  refine R_start (d := d + 1) (by decide) mL_plain ?_
  show E _ _ _ (0, [some (.ref 0), some (.int 19), some (.int a), some (.int b), some (.int c), some (.int e), some (.int f), some (.int g)], [], M, 0) _
  refine E_iload_n fL_plain_0 rfl ?_
  refine E_tsw (off := 285) (tg := 286) fL_plain_1 (by decide) (by decide) (by decide) ?_
  refine E_aload_n fL_plain_286 rfl (by decide) ?_
  refine E_iload_n fL_plain_287 rfl ?_
  refine E_callV (t := []) h fL_plain_288 mX9_timer (rc_obj (k0 hG) (by decide) (by decide)) ⟨by decide, rfl⟩ rfl rfl (Nat.le_of_ble_eq_true rfl) ?_
  exact R_iret fL_plain_291 mL_plain rfl rfl
theorem plain20_r (hG : Core G) (a b c e f g : Int32) {x : Int32} (h : Ret G (d + 1) 60 [.ref 0, .int a] M (some (.int x)) M') (hx : x = 0 ∨ x = 1) : Ret G (d + 2) 120 [.ref 0, .int 20, .int a, .int b, .int c, .int e, .int f, .int g] M (some (.int x)) M' := by
  have hG0 : True := trivial
  refine R_start (d := d + 1) (by decide) mL_plain ?_
  show E _ _ _ (0, [some (.ref 0), some (.int 20), some (.int a), some (.int b), some (.int c), some (.int e), some (.int f), some (.int g)], [], M, 0) _
  refine E_iload_n fL_plain_0 rfl ?_
  refine E_tsw (off := 291) (tg := 292) fL_plain_1 (by decide) (by decide) (by decide) ?_
  refine E_aload_n fL_plain_292 rfl (by decide) ?_
  refine E_iload_n fL_plain_293 rfl ?_
  refine E_callV (t := []) h fL_plain_294 mX9_isActive (rc_obj (k0 hG) (by decide) (by decide)) ⟨by decide, rfl⟩ rfl rfl (Nat.le_of_ble_eq_true rfl) ?_
  refine E_callS (t := []) (told01 (d := d) hx) fL_plain_297 (by decide) mL_told ⟨rfl, rfl⟩ rfl rfl (Nat.le_of_ble_eq_true rfl) ?_
  exact R_iret fL_plain_300 mL_plain rfl rfl
theorem plain21_r (hG : Core G) (a b c e f g : Int32) {x : Int32} (h : Ret G (d + 1) 61 [.ref 0, .int a] M (some (.int x)) M') : Ret G (d + 2) 120 [.ref 0, .int 21, .int a, .int b, .int c, .int e, .int f, .int g] M (some (.int x)) M' := by
  have hG0 : True := trivial
  refine R_start (d := d + 1) (by decide) mL_plain ?_
  show E _ _ _ (0, [some (.ref 0), some (.int 21), some (.int a), some (.int b), some (.int c), some (.int e), some (.int f), some (.int g)], [], M, 0) _
  refine E_iload_n fL_plain_0 rfl ?_
  refine E_tsw (off := 300) (tg := 301) fL_plain_1 (by decide) (by decide) (by decide) ?_
  refine E_aload_n fL_plain_301 rfl (by decide) ?_
  refine E_iload_n fL_plain_302 rfl ?_
  refine E_callV (t := []) h fL_plain_303 mX9_stepTime (rc_obj (k0 hG) (by decide) (by decide)) ⟨by decide, rfl⟩ rfl rfl (Nat.le_of_ble_eq_true rfl) ?_
  exact R_iret fL_plain_306 mL_plain rfl rfl
theorem plain21_t (hG : Core G) (a b c e f g : Int32) {x : Nat} (h : Thr G (d + 1) 61 [.ref 0, .int a] M x M') : Thr G (d + 2) 120 [.ref 0, .int 21, .int a, .int b, .int c, .int e, .int f, .int g] M x M' := by
  refine T_start (d := d + 1) (by decide) mL_plain ?_
  show E _ _ _ (0, [some (.ref 0), some (.int 21), some (.int a), some (.int b), some (.int c), some (.int e), some (.int f), some (.int g)], [], M, 0) _
  refine E_iload_n fL_plain_0 rfl ?_
  refine E_tsw (off := 300) (tg := 301) fL_plain_1 (by decide) (by decide) (by decide) ?_
  refine E_aload_n fL_plain_301 rfl (by decide) ?_
  refine E_iload_n fL_plain_302 rfl ?_
  exact E_thrV (t := []) h fL_plain_303 mX9_stepTime (rc_obj (k0 hG) (by decide) (by decide)) ⟨by decide, rfl⟩ rfl rfl (Nat.le_of_ble_eq_true rfl) rfl
theorem plain22_r (hG : Core G) (a b c e f g : Int32) {x : Int32} (h : Ret G (d + 1) 62 [.ref 0, .int a] M (some (.int x)) M') : Ret G (d + 2) 120 [.ref 0, .int 22, .int a, .int b, .int c, .int e, .int f, .int g] M (some (.int x)) M' := by
  have hG0 : True := trivial
  refine R_start (d := d + 1) (by decide) mL_plain ?_
  show E _ _ _ (0, [some (.ref 0), some (.int 22), some (.int a), some (.int b), some (.int c), some (.int e), some (.int f), some (.int g)], [], M, 0) _
  refine E_iload_n fL_plain_0 rfl ?_
  refine E_tsw (off := 306) (tg := 307) fL_plain_1 (by decide) (by decide) (by decide) ?_
  refine E_aload_n fL_plain_307 rfl (by decide) ?_
  refine E_iload_n fL_plain_308 rfl ?_
  refine E_callV (t := []) h fL_plain_309 mX9_alarm (rc_obj (k0 hG) (by decide) (by decide)) ⟨by decide, rfl⟩ rfl rfl (Nat.le_of_ble_eq_true rfl) ?_
  exact R_iret fL_plain_312 mL_plain rfl rfl
theorem plain23_r (hG : Core G) (a b c e f g : Int32) {x : Int32} (h : Ret G (d + 1) 64 [.ref 0, .int a] M (some (.int x)) M') : Ret G (d + 2) 120 [.ref 0, .int 23, .int a, .int b, .int c, .int e, .int f, .int g] M (some (.int x)) M' := by
  have hG0 : True := trivial
  refine R_start (d := d + 1) (by decide) mL_plain ?_
  show E _ _ _ (0, [some (.ref 0), some (.int 23), some (.int a), some (.int b), some (.int c), some (.int e), some (.int f), some (.int g)], [], M, 0) _
  refine E_iload_n fL_plain_0 rfl ?_
  refine E_tsw (off := 312) (tg := 313) fL_plain_1 (by decide) (by decide) (by decide) ?_
  refine E_aload_n fL_plain_313 rfl (by decide) ?_
  refine E_iload_n fL_plain_314 rfl ?_
  refine E_callV (t := []) h fL_plain_315 mX9_alarmAt (rc_obj (k0 hG) (by decide) (by decide)) ⟨by decide, rfl⟩ rfl rfl (Nat.le_of_ble_eq_true rfl) ?_
  exact R_iret fL_plain_318 mL_plain rfl rfl
theorem plain23_t (hG : Core G) (a b c e f g : Int32) {x : Nat} (h : Thr G (d + 1) 64 [.ref 0, .int a] M x M') : Thr G (d + 2) 120 [.ref 0, .int 23, .int a, .int b, .int c, .int e, .int f, .int g] M x M' := by
  refine T_start (d := d + 1) (by decide) mL_plain ?_
  show E _ _ _ (0, [some (.ref 0), some (.int 23), some (.int a), some (.int b), some (.int c), some (.int e), some (.int f), some (.int g)], [], M, 0) _
  refine E_iload_n fL_plain_0 rfl ?_
  refine E_tsw (off := 312) (tg := 313) fL_plain_1 (by decide) (by decide) (by decide) ?_
  refine E_aload_n fL_plain_313 rfl (by decide) ?_
  refine E_iload_n fL_plain_314 rfl ?_
  exact E_thrV (t := []) h fL_plain_315 mX9_alarmAt (rc_obj (k0 hG) (by decide) (by decide)) ⟨by decide, rfl⟩ rfl rfl (Nat.le_of_ble_eq_true rfl) rfl
theorem plain25_r (hG : Core G) (a b c e f g : Int32) {x : Int32} (h : Ret G (d + 1) 67 [.ref 0, .int a] M (some (.int x)) M') : Ret G (d + 2) 120 [.ref 0, .int 25, .int a, .int b, .int c, .int e, .int f, .int g] M (some (.int x)) M' := by
  have hG0 : True := trivial
  refine R_start (d := d + 1) (by decide) mL_plain ?_
  show E _ _ _ (0, [some (.ref 0), some (.int 25), some (.int a), some (.int b), some (.int c), some (.int e), some (.int f), some (.int g)], [], M, 0) _
  refine E_iload_n fL_plain_0 rfl ?_
  refine E_tsw (off := 324) (tg := 325) fL_plain_1 (by decide) (by decide) (by decide) ?_
  refine E_aload_n fL_plain_325 rfl (by decide) ?_
  refine E_iload_n fL_plain_326 rfl ?_
  refine E_callV (t := []) h fL_plain_327 mX9_missed (rc_obj (k0 hG) (by decide) (by decide)) ⟨by decide, rfl⟩ rfl rfl (Nat.le_of_ble_eq_true rfl) ?_
  exact R_iret fL_plain_330 mL_plain rfl rfl
theorem plain26_r (hG : Core G) (a b c e f g : Int32) {x : Int32} (h : Ret G (d + 1) 71 [.ref 0, .int a] M (some (.int x)) M') : Ret G (d + 2) 120 [.ref 0, .int 26, .int a, .int b, .int c, .int e, .int f, .int g] M (some (.int x)) M' := by
  have hG0 : True := trivial
  refine R_start (d := d + 1) (by decide) mL_plain ?_
  show E _ _ _ (0, [some (.ref 0), some (.int 26), some (.int a), some (.int b), some (.int c), some (.int e), some (.int f), some (.int g)], [], M, 0) _
  refine E_iload_n fL_plain_0 rfl ?_
  refine E_tswd (tg := 331) fL_plain_1 (by decide) (by decide) ?_
  refine E_aload_n fL_plain_331 rfl (by decide) ?_
  refine E_iload_n fL_plain_332 rfl ?_
  refine E_callV (t := []) h fL_plain_333 mX9_changes (rc_obj (k0 hG) (by decide) (by decide)) ⟨by decide, rfl⟩ rfl rfl (Nat.le_of_ble_eq_true rfl) ?_
  exact R_iret fL_plain_336 mL_plain rfl rfl
theorem mdD : mdT 200 = (8, 1, 9, 100) := if_pos rfl
theorem ask_ok {w a x : Int32} {c : Nat} (h : RetC G (d + 1) 200 [.ref 0, .int w, .int a, .int 0, .int 0, .int 0, .int 0, .int 0] M (some (.int x)) M' c) : RetC G (d + 2) 121 [.ref 0, .int w, .int a] M (some (.int x)) M' c := by
  obtain ⟨v1, M1, c1, h1, rfl, rfl, rfl⟩ := C_start (G := G) (d := d + 1) (k := 121) (M := M) (P := fun v M2 c2 => v = some (.int x) ∧ M2 = M' ∧ c2 = c) (by decide) mL_ask (As := [.ref 0, .int w, .int a]) (by
    show E _ _ _ (0, [some (.ref 0), some (.int w), some (.int a)], [], M, 0) _
    refine E_aload_n fL_ask_0 rfl (by decide) ?_
    refine E_iload_n fL_ask_1 rfl ?_
    refine E_iload_n fL_ask_2 rfl ?_
    refine E_iconst (v := 0) fL_ask_3 (by decide) ?_
    refine E_iconst (v := 0) fL_ask_4 (by decide) ?_
    refine E_iconst (v := 0) fL_ask_5 (by decide) ?_
    refine E_iconst (v := 0) fL_ask_6 (by decide) ?_
    refine E_iconst (v := 0) fL_ask_7 (by decide) ?_
    refine E_callSc (t := []) h fL_ask_8 (by decide) mdD ⟨rfl, rfl⟩ rfl rfl (Nat.le_of_ble_eq_true rfl) ?_
    exact R_iret fL_ask_11 mL_ask rfl ⟨_, _, _, rfl, rfl, rfl, by omega⟩)
  exact h1
end SP21
