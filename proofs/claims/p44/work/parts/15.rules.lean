/-! RULES OF THE SMALL MACHINE: a row an instruction; E: from here the method comes to an end with Q; Ret, Thr: a whole call -/
def E (G : MG) (d k : Nat) (s : AS) (Q : Res → Prop) : Prop := ∃ (f : Nat) (r : Res), Exec G mdT cdT (RunG G mdT cdT kD kP d) k f s r ∧ Q r
def Ret (G : MG) (d k : Nat) (As : List Value) (M : Mem) (v : Option Value) (M' : Mem) : Prop := RunG G mdT cdT kD kP d k As M (.inl v, M', 0)
def Thr (G : MG) (d k : Nat) (As : List Value) (M : Mem) (x : Nat) (M' : Mem) : Prop := RunG G mdT cdT kD kP d k As M (.inr x, M', 1)
section RUL
variable {G : MG} {d k pc : Nat} {L L' : Loc1} {st st' : List Value} {M M' : Mem} {q : Nat} {Q : Res → Prop} {a b : Nat}
theorem E_next {s s' : AS} (hs : stepf G mdT cdT k s = some (.inl s')) (h : E G d k s' Q) : E G d k s Q := by
  obtain ⟨f, r, h1, h2⟩ := h
  refine ⟨f + 1, r, ?_, h2⟩
  simp only [Exec, hs]
  exact h1
theorem E_done {s : AS} {r : Res} (hs : stepf G mdT cdT k s = some (.inr (.inl r))) (h : Q r) : E G d k s Q := by
  refine ⟨1, r, ?_, h⟩
  simp only [Exec, hs]
theorem E_S {i : Instr} (hf : fet (cdT k) pc = some (i, a, b)) (ho : opS i st = some st') (h : E G d k (pc + ilen i, L, st', M, q) Q) : E G d k (pc, L, st, M, q) Q :=
  E_next (by simp only [stepf, hf, stepi, ho]) h
theorem E_L {i : Instr} (hf : fet (cdT k) pc = some (i, a, b)) (ho : opL i L st = some (L', st')) (h0 : opS i st = none) (h : E G d k (pc + ilen i, L', st', M, q) Q) : E G d k (pc, L, st, M, q) Q :=
  E_next (by simp only [stepf, hf, stepi, h0, ho]) h
theorem E_B {i : Instr} {tg : Nat} (hf : fet (cdT k) pc = some (i, a, b)) (ho : opB i pc st = some (tg, st')) (h0 : opS i st = none) (h1 : opL i L st = none) (h : E G d k (tg, L, st', M, q) Q) : E G d k (pc, L, st, M, q) Q :=
  E_next (by simp only [stepf, hf, stepi, h0, h1, ho]) h
theorem E_H {i : Instr} (hf : fet (cdT k) pc = some (i, a, b)) (ho : opH G i a b M st = some (M', st')) (h0 : opS i st = none) (h1 : opL i L st = none) (h2 : opB i pc st = none) (h : E G d k (pc + ilen i, L, st', M', q) Q) : E G d k (pc, L, st, M, q) Q :=
  E_next (by simp only [stepf, hf, stepi, h0, h1, h2, ho]) h
theorem E_C {i : Instr} {z : Res ⊕ (Nat × List Value × AS)} (hf : fet (cdT k) pc = some (i, a, b)) (ho : opC G mdT (mdT k) i a b (pc, L, st, M, q) = some z) (h0 : opS i st = none) (h1 : opL i L st = none) (h2 : opB i pc st = none) (h3 : opH G i a b M st = none) : stepf G mdT cdT k (pc, L, st, M, q) = some (.inr z) := by
  simp only [stepf, hf, stepi, h0, h1, h2, h3, ho]
theorem E_call {k' : Nat} {As t : List Value} {i : Instr} {v : Option Value} (hr : Ret G d k' As M v M') (hf : fet (cdT k) pc = some (i, a, b)) (ho : opC G mdT (mdT k) i a b (pc, L, st, M, q) = some (.inr (k', As, (pc + 3, L, t, M, q)))) (h0 : opS i st = none) (h1 : opL i L st = none) (h2 : opB i pc st = none) (h3 : opH G i a b M st = none)
    (h : E G d k (pc + 3, L, v.toList ++ t, M', q) Q) : E G d k (pc, L, st, M, q) Q := by
  obtain ⟨f, r, h4, h5⟩ := h
  refine ⟨f + 1, r, ?_, h5⟩
  have hs := E_C hf ho h0 h1 h2 h3
  simp only [Exec, hs]
  exact ⟨_, hr, Or.inl ⟨v, rfl, h4⟩⟩
theorem E_thr {k' x : Nat} {As t : List Value} {i : Instr} (hr : Thr G d k' As M x M') (hf : fet (cdT k) pc = some (i, a, b)) (ho : opC G mdT (mdT k) i a b (pc, L, st, M, q) = some (.inr (k', As, (pc + 3, L, t, M, q)))) (h0 : opS i st = none) (h1 : opL i L st = none) (h2 : opB i pc st = none) (h3 : opH G i a b M st = none)
    (h : Q (.inr x, M', q + 1)) : E G d k (pc, L, st, M, q) Q := by
  refine ⟨1, (.inr x, M', q + 1), ?_, h⟩
  have hs := E_C hf ho h0 h1 h2 h3
  simp only [Exec, hs]
  exact ⟨_, hr, Or.inr ⟨x, rfl, rfl⟩⟩
/-- a call's start -/
theorem Ret_of {As : List Value} {v : Option Value} (hk : k ≠ 200) (h : E G d k (0, entL As (mdT k).2.2.1, [], M, 0) (fun r => r = (.inl v, M', 0))) : Ret G (d + 1) k As M v M' := by
  obtain ⟨f, r, h1, rfl⟩ := h
  show RunG G mdT cdT kD kP (d + 1) k As M _
  simp only [RunG]
  rw [if_neg (show ¬ k = kD from hk)]
  exact ⟨f, h1⟩
theorem Thr_of {As : List Value} {x : Nat} (hk : k ≠ 200) (h : E G d k (0, entL As (mdT k).2.2.1, [], M, 0) (fun r => r = (.inr x, M', 1))) : Thr G (d + 1) k As M x M' := by
  obtain ⟨f, r, h1, rfl⟩ := h
  show RunG G mdT cdT kD kP (d + 1) k As M _
  simp only [RunG]
  rw [if_neg (show ¬ k = kD from hk)]
  exact ⟨f, h1⟩
/-- .. when the end is known only by what holds of it -/
theorem Run_of {As : List Value} {P : Res → Prop} (hk : k ≠ 200) (h : E G d k (0, entL As (mdT k).2.2.1, [], M, 0) P) : ∃ r, RunG G mdT cdT kD kP (d + 1) k As M r ∧ P r := by
  obtain ⟨f, r, h1, h2⟩ := h
  refine ⟨r, ?_, h2⟩
  simp only [RunG]
  rw [if_neg (show ¬ k = kD from hk)]
  exact ⟨f, h1⟩
theorem E_ifeq {x : Int32} {off : Int} {tg : Nat} (hf : fet (cdT k) pc = some (.ifCond .eq off, a, b)) (ht : (pc : Int) + off = (tg : Int)) (kt : x = 0 → E G d k (tg, L, st, M, q) Q) (kf : ¬ x = 0 → E G d k (pc + 3, L, st, M, q) Q) : E G d k (pc, L, .int x :: st, M, q) Q := by
  by_cases c : x = 0
  · refine E_B hf (st' := st) (tg := tg) ?_ rfl rfl (kt c)
    simp only [opB, hold1, jmp, decide_eq_true_eq]
    rw [if_pos c, if_pos (by omega), ht]
    rfl
  · refine E_B hf (st' := st) (tg := pc + 3) ?_ rfl rfl (kf (c))
    simp only [opB, hold1, jmp, decide_eq_true_eq]
    rw [if_neg c, if_pos (by omega)]
theorem E_ifne {x : Int32} {off : Int} {tg : Nat} (hf : fet (cdT k) pc = some (.ifCond .ne off, a, b)) (ht : (pc : Int) + off = (tg : Int)) (kt : ¬ x = 0 → E G d k (tg, L, st, M, q) Q) (kf : x = 0 → E G d k (pc + 3, L, st, M, q) Q) : E G d k (pc, L, .int x :: st, M, q) Q := by
  by_cases c : ¬ x = 0
  · refine E_B hf (st' := st) (tg := tg) ?_ rfl rfl (kt c)
    simp only [opB, hold1, jmp, decide_eq_true_eq]
    rw [if_pos c, if_pos (by omega), ht]
    rfl
  · refine E_B hf (st' := st) (tg := pc + 3) ?_ rfl rfl (kf (Classical.not_not.mp c))
    simp only [opB, hold1, jmp, decide_eq_true_eq]
    rw [if_neg c, if_pos (by omega)]
theorem E_iflt {x : Int32} {off : Int} {tg : Nat} (hf : fet (cdT k) pc = some (.ifCond .lt off, a, b)) (ht : (pc : Int) + off = (tg : Int)) (kt : x < 0 → E G d k (tg, L, st, M, q) Q) (kf : ¬ x < 0 → E G d k (pc + 3, L, st, M, q) Q) : E G d k (pc, L, .int x :: st, M, q) Q := by
  by_cases c : x < 0
  · refine E_B hf (st' := st) (tg := tg) ?_ rfl rfl (kt c)
    simp only [opB, hold1, jmp, decide_eq_true_eq]
    rw [if_pos c, if_pos (by omega), ht]
    rfl
  · refine E_B hf (st' := st) (tg := pc + 3) ?_ rfl rfl (kf (c))
    simp only [opB, hold1, jmp, decide_eq_true_eq]
    rw [if_neg c, if_pos (by omega)]
theorem E_ifge {x : Int32} {off : Int} {tg : Nat} (hf : fet (cdT k) pc = some (.ifCond .ge off, a, b)) (ht : (pc : Int) + off = (tg : Int)) (kt : 0 ≤ x → E G d k (tg, L, st, M, q) Q) (kf : ¬ 0 ≤ x → E G d k (pc + 3, L, st, M, q) Q) : E G d k (pc, L, .int x :: st, M, q) Q := by
  by_cases c : 0 ≤ x
  · refine E_B hf (st' := st) (tg := tg) ?_ rfl rfl (kt c)
    simp only [opB, hold1, jmp, decide_eq_true_eq]
    rw [if_pos c, if_pos (by omega), ht]
    rfl
  · refine E_B hf (st' := st) (tg := pc + 3) ?_ rfl rfl (kf (c))
    simp only [opB, hold1, jmp, decide_eq_true_eq]
    rw [if_neg c, if_pos (by omega)]
theorem E_ifgt {x : Int32} {off : Int} {tg : Nat} (hf : fet (cdT k) pc = some (.ifCond .gt off, a, b)) (ht : (pc : Int) + off = (tg : Int)) (kt : 0 < x → E G d k (tg, L, st, M, q) Q) (kf : ¬ 0 < x → E G d k (pc + 3, L, st, M, q) Q) : E G d k (pc, L, .int x :: st, M, q) Q := by
  by_cases c : 0 < x
  · refine E_B hf (st' := st) (tg := tg) ?_ rfl rfl (kt c)
    simp only [opB, hold1, jmp, decide_eq_true_eq]
    rw [if_pos c, if_pos (by omega), ht]
    rfl
  · refine E_B hf (st' := st) (tg := pc + 3) ?_ rfl rfl (kf (c))
    simp only [opB, hold1, jmp, decide_eq_true_eq]
    rw [if_neg c, if_pos (by omega)]
theorem E_ifle {x : Int32} {off : Int} {tg : Nat} (hf : fet (cdT k) pc = some (.ifCond .le off, a, b)) (ht : (pc : Int) + off = (tg : Int)) (kt : x ≤ 0 → E G d k (tg, L, st, M, q) Q) (kf : ¬ x ≤ 0 → E G d k (pc + 3, L, st, M, q) Q) : E G d k (pc, L, .int x :: st, M, q) Q := by
  by_cases c : x ≤ 0
  · refine E_B hf (st' := st) (tg := tg) ?_ rfl rfl (kt c)
    simp only [opB, hold1, jmp, decide_eq_true_eq]
    rw [if_pos c, if_pos (by omega), ht]
    rfl
  · refine E_B hf (st' := st) (tg := pc + 3) ?_ rfl rfl (kf (c))
    simp only [opB, hold1, jmp, decide_eq_true_eq]
    rw [if_neg c, if_pos (by omega)]
theorem E_iceq {x y : Int32} {off : Int} {tg : Nat} (hf : fet (cdT k) pc = some (.if_icmp .eq off, a, b)) (ht : (pc : Int) + off = (tg : Int)) (kt : x = y → E G d k (tg, L, st, M, q) Q) (kf : ¬ x = y → E G d k (pc + 3, L, st, M, q) Q) : E G d k (pc, L, .int y :: .int x :: st, M, q) Q := by
  by_cases c : x = y
  · refine E_B hf (st' := st) (tg := tg) ?_ rfl rfl (kt c)
    simp only [opB, hold2, jmp, decide_eq_true_eq]
    rw [if_pos c, if_pos (by omega), ht]
    rfl
  · refine E_B hf (st' := st) (tg := pc + 3) ?_ rfl rfl (kf (c))
    simp only [opB, hold2, jmp, decide_eq_true_eq]
    rw [if_neg c, if_pos (by omega)]
theorem E_icne {x y : Int32} {off : Int} {tg : Nat} (hf : fet (cdT k) pc = some (.if_icmp .ne off, a, b)) (ht : (pc : Int) + off = (tg : Int)) (kt : ¬ x = y → E G d k (tg, L, st, M, q) Q) (kf : x = y → E G d k (pc + 3, L, st, M, q) Q) : E G d k (pc, L, .int y :: .int x :: st, M, q) Q := by
  by_cases c : ¬ x = y
  · refine E_B hf (st' := st) (tg := tg) ?_ rfl rfl (kt c)
    simp only [opB, hold2, jmp, decide_eq_true_eq]
    rw [if_pos c, if_pos (by omega), ht]
    rfl
  · refine E_B hf (st' := st) (tg := pc + 3) ?_ rfl rfl (kf (Classical.not_not.mp c))
    simp only [opB, hold2, jmp, decide_eq_true_eq]
    rw [if_neg c, if_pos (by omega)]
theorem E_iclt {x y : Int32} {off : Int} {tg : Nat} (hf : fet (cdT k) pc = some (.if_icmp .lt off, a, b)) (ht : (pc : Int) + off = (tg : Int)) (kt : x < y → E G d k (tg, L, st, M, q) Q) (kf : ¬ x < y → E G d k (pc + 3, L, st, M, q) Q) : E G d k (pc, L, .int y :: .int x :: st, M, q) Q := by
  by_cases c : x < y
  · refine E_B hf (st' := st) (tg := tg) ?_ rfl rfl (kt c)
    simp only [opB, hold2, jmp, decide_eq_true_eq]
    rw [if_pos c, if_pos (by omega), ht]
    rfl
  · refine E_B hf (st' := st) (tg := pc + 3) ?_ rfl rfl (kf (c))
    simp only [opB, hold2, jmp, decide_eq_true_eq]
    rw [if_neg c, if_pos (by omega)]
theorem E_icge {x y : Int32} {off : Int} {tg : Nat} (hf : fet (cdT k) pc = some (.if_icmp .ge off, a, b)) (ht : (pc : Int) + off = (tg : Int)) (kt : y ≤ x → E G d k (tg, L, st, M, q) Q) (kf : ¬ y ≤ x → E G d k (pc + 3, L, st, M, q) Q) : E G d k (pc, L, .int y :: .int x :: st, M, q) Q := by
  by_cases c : y ≤ x
  · refine E_B hf (st' := st) (tg := tg) ?_ rfl rfl (kt c)
    simp only [opB, hold2, jmp, decide_eq_true_eq]
    rw [if_pos c, if_pos (by omega), ht]
    rfl
  · refine E_B hf (st' := st) (tg := pc + 3) ?_ rfl rfl (kf (c))
    simp only [opB, hold2, jmp, decide_eq_true_eq]
    rw [if_neg c, if_pos (by omega)]
theorem E_icgt {x y : Int32} {off : Int} {tg : Nat} (hf : fet (cdT k) pc = some (.if_icmp .gt off, a, b)) (ht : (pc : Int) + off = (tg : Int)) (kt : y < x → E G d k (tg, L, st, M, q) Q) (kf : ¬ y < x → E G d k (pc + 3, L, st, M, q) Q) : E G d k (pc, L, .int y :: .int x :: st, M, q) Q := by
  by_cases c : y < x
  · refine E_B hf (st' := st) (tg := tg) ?_ rfl rfl (kt c)
    simp only [opB, hold2, jmp, decide_eq_true_eq]
    rw [if_pos c, if_pos (by omega), ht]
    rfl
  · refine E_B hf (st' := st) (tg := pc + 3) ?_ rfl rfl (kf (c))
    simp only [opB, hold2, jmp, decide_eq_true_eq]
    rw [if_neg c, if_pos (by omega)]
theorem E_icle {x y : Int32} {off : Int} {tg : Nat} (hf : fet (cdT k) pc = some (.if_icmp .le off, a, b)) (ht : (pc : Int) + off = (tg : Int)) (kt : x ≤ y → E G d k (tg, L, st, M, q) Q) (kf : ¬ x ≤ y → E G d k (pc + 3, L, st, M, q) Q) : E G d k (pc, L, .int y :: .int x :: st, M, q) Q := by
  by_cases c : x ≤ y
  · refine E_B hf (st' := st) (tg := tg) ?_ rfl rfl (kt c)
    simp only [opB, hold2, jmp, decide_eq_true_eq]
    rw [if_pos c, if_pos (by omega), ht]
    rfl
  · refine E_B hf (st' := st) (tg := pc + 3) ?_ rfl rfl (kf (c))
    simp only [opB, hold2, jmp, decide_eq_true_eq]
    rw [if_neg c, if_pos (by omega)]
theorem E_goto {off : Int} {tg : Nat} (hf : fet (cdT k) pc = some (.goto off, a, b)) (ht : (pc : Int) + off = (tg : Int)) (h : E G d k (tg, L, st, M, q) Q) : E G d k (pc, L, st, M, q) Q := by
  refine E_B hf (st' := st) (tg := tg) ?_ rfl rfl h
  simp only [opB, jmp]
  rw [if_pos (by omega), ht]
  rfl
theorem E_lsw {dd : Int} {ps : Array (Int × Int)} {x : Int32} {off : Int} {tg : Nat} (hf : fet (cdT k) pc = some (.lookupswitch dd ps, a, b)) (ho : Op.lookupswitch.offset ps.toList dd x.toInt = off) (ht : (pc : Int) + off = (tg : Int)) (h : E G d k (tg, L, st, M, q) Q) : E G d k (pc, L, .int x :: st, M, q) Q := by
  refine E_B hf (st' := st) (tg := tg) ?_ rfl rfl h
  simp only [opB, jmp]
  rw [ho, if_pos (by omega), ht]
  rfl
theorem E_tsw {dd lo hi : Int} {offs : Array Int} {x : Int32} {off : Int} {tg : Nat} (hf : fet (cdT k) pc = some (.tableswitch dd lo hi offs, a, b)) (h1 : ¬ (x.toInt < lo ∨ hi < x.toInt)) (ho : offs[(x.toInt - lo).toNat]? = some off) (ht : (pc : Int) + off = (tg : Int)) (h : E G d k (tg, L, st, M, q) Q) : E G d k (pc, L, .int x :: st, M, q) Q := by
  refine E_B hf (st' := st) (tg := tg) ?_ rfl rfl h
  simp only [opB, jmp]
  rw [if_neg h1, ho]
  simp only []
  rw [if_pos (by omega), ht]
  rfl
theorem E_tswd {dd lo hi : Int} {offs : Array Int} {x : Int32} {tg : Nat} (hf : fet (cdT k) pc = some (.tableswitch dd lo hi offs, a, b)) (h1 : x.toInt < lo ∨ hi < x.toInt) (ht : (pc : Int) + dd = (tg : Int)) (h : E G d k (tg, L, st, M, q) Q) : E G d k (pc, L, .int x :: st, M, q) Q := by
  refine E_B hf (st' := st) (tg := tg) ?_ rfl rfl h
  simp only [opB, jmp]
  rw [if_pos h1, if_pos (by omega), ht]
  rfl
theorem E_getI {ix r : Nat} (hf : fet (cdT k) pc = some (.getfield ix, a, b)) (hk : G.1 r = a) (h4 : r < 410) (ha : a ≠ 200) (ht : fTy a b < 3) (h : E G d k (pc + 3, L, .int (M.1 r b) :: st, M, q) Q) : E G d k (pc, L, .ref r :: st, M, q) Q := by
  refine E_H hf (M' := M) (st' := .int (M.1 r b) :: st) ?_ rfl rfl rfl h
  simp only [opH]
  rw [if_neg ha, if_pos (show okO G r a from ⟨hk, h4⟩)]
  simp only [fval]
  rw [if_neg (by omega), if_neg (by omega)]
theorem E_getL {ix r : Nat} (hf : fet (cdT k) pc = some (.getfield ix, a, b)) (hk : G.1 r = a) (h4 : r < 410) (ha : a ≠ 200) (ht : fTy a b = 3) (h : E G d k (pc + 3, L, .long (M.2 r) :: st, M, q) Q) : E G d k (pc, L, .ref r :: st, M, q) Q := by
  refine E_H hf (M' := M) (st' := .long (M.2 r) :: st) ?_ rfl rfl rfl h
  simp only [opH]
  rw [if_neg ha, if_pos (show okO G r a from ⟨hk, h4⟩)]
  simp only [fval]
  rw [if_pos ht]
theorem E_getR {ix r r' : Nat} (hf : fet (cdT k) pc = some (.getfield ix, a, b)) (hk : G.1 r = a) (h4 : r < 410) (ha : a ≠ 200) (ht : fTy a b = 4) (hr : r + fOff a b = r') (h : E G d k (pc + 3, L, .ref r' :: st, M, q) Q) : E G d k (pc, L, .ref r :: st, M, q) Q := by
  subst hr
  refine E_H hf (M' := M) (st' := .ref (r + fOff a b) :: st) ?_ rfl rfl rfl h
  simp only [opH]
  rw [if_neg ha, if_pos (show okO G r a from ⟨hk, h4⟩)]
  simp only [fval]
  rw [if_neg (by omega), if_pos ht]
theorem E_getS {ix r : Nat} {v : Value} (hf : fet (cdT k) pc = some (.getfield ix, 200, b)) (h1 : okK r) (hv : (if b = 0 then .int 0 else .ref (r + 1000)) = v) (h : E G d k (pc + 3, L, v :: st, M, q) Q) : E G d k (pc, L, .ref r :: st, M, q) Q := by
  subst hv
  refine E_H hf (M' := M) (st' := (if b = 0 then .int 0 else .ref (r + 1000)) :: st) ?_ rfl rfl rfl h
  simp only [opH]
  rw [if_pos trivial, if_pos h1]
  by_cases hb : b = 0
  · rw [if_pos hb, if_pos hb]
  · rw [if_neg hb, if_neg hb]
theorem E_putI {ix r : Nat} {x : Int32} (hf : fet (cdT k) pc = some (.putfield ix, a, b)) (hk : G.1 r = a) (h4 : r < 410) (hx : fitF (fTy a b) x = true) (h : E G d k (pc + 3, L, st, pI M r b x, q) Q) : E G d k (pc, L, .int x :: .ref r :: st, M, q) Q := by
  refine E_H hf (M' := pI M r b x) (st' := st) ?_ rfl rfl rfl h
  simp only [opH]
  rw [if_pos (show okO G r a ∧ fitF (fTy a b) x = true from ⟨⟨hk, h4⟩, hx⟩)]
theorem E_putL {ix r : Nat} {x : Int64} (hf : fet (cdT k) pc = some (.putfield ix, a, b)) (hk : G.1 r = a) (h4 : r < 410) (hx : fTy a b = 3) (h : E G d k (pc + 3, L, st, pL M r x, q) Q) : E G d k (pc, L, .long x :: .ref r :: st, M, q) Q := by
  refine E_H hf (M' := pL M r x) (st' := st) ?_ rfl rfl rfl h
  simp only [opH]
  rw [if_pos (show okO G r a ∧ fTy a b = 3 from ⟨⟨hk, h4⟩, hx⟩)]
/-- a row's place: j is the int of the number n -/
theorem okX_nI {n N : Nat} (h : n < N) (hN : N ≤ 410) : okX (nI n) N := ⟨nI_pos' (by omega), by rw [nI_clamp (by omega)]; exact h⟩
theorem aLen_le : ∀ k, aLen k ≤ 410 := by
  intro k
  unfold aLen
  repeat' split
  all_goals decide
theorem E_aald {r r' n : Nat} {j : Int32} {K : Nat} (hf : fet (cdT k) pc = some (.aaload, a, b)) (hk : G.1 r = K) (h1 : 28 ≤ K ∧ K ≤ 31) (h4 : r < 410) (hj : j = nI n) (hn : n < aLen K) (hr : r + aOff K n = r') (h : E G d k (pc + 1, L, .ref r' :: st, M, q) Q) : E G d k (pc, L, .int j :: .ref r :: st, M, q) Q := by
  subst hr; subst hj; subst hk
  have hX := okX_nI hn (aLen_le _)
  refine E_H hf (M' := M) (st' := .ref (r + aOff (G.1 r) n) :: st) ?_ rfl rfl rfl h
  simp only [opH]
  rw [if_pos (show okR G r 28 31 ∧ okX (nI n) (aLen (G.1 r)) from ⟨⟨h1.1, h1.2, h4⟩, hX⟩), nI_clamp (by have := aLen_le (G.1 r); omega)]
theorem E_iald {r n : Nat} {j : Int32} {K : Nat} (hf : fet (cdT k) pc = some (.iaload, a, b)) (hk : G.1 r = K) (h1 : 20 ≤ K ∧ K ≤ 25) (h4 : r < 410) (hj : j = nI n) (hn : n < aLen K) (h : E G d k (pc + 1, L, .int (M.1 r n) :: st, M, q) Q) : E G d k (pc, L, .int j :: .ref r :: st, M, q) Q := by
  subst hj; subst hk
  have hX := okX_nI hn (aLen_le _)
  refine E_H hf (M' := M) (st' := .int (M.1 r n) :: st) ?_ rfl rfl rfl h
  simp only [opH]
  rw [if_neg (show ¬ okS r from fun z => by unfold okS at z; omega), if_pos (show okR G r 20 25 ∧ okX (nI n) (aLen (G.1 r)) from ⟨⟨h1.1, h1.2, h4⟩, hX⟩), nI_clamp (by have := aLen_le (G.1 r); omega)]
theorem E_cald {r n : Nat} {j : Int32} {K : Nat} (hf : fet (cdT k) pc = some (.caload, a, b)) (hk : G.1 r = K) (h1 : 26 ≤ K ∧ K ≤ 27) (h4 : r < 410) (hj : j = nI n) (hn : n < aLen K) (h : E G d k (pc + 1, L, .int (M.1 r n) :: st, M, q) Q) : E G d k (pc, L, .int j :: .ref r :: st, M, q) Q := by
  subst hj; subst hk
  have hX := okX_nI hn (aLen_le _)
  refine E_H hf (M' := M) (st' := .int (M.1 r n) :: st) ?_ rfl rfl rfl h
  simp only [opH]
  rw [if_pos (show okR G r 26 27 ∧ okX (nI n) (aLen (G.1 r)) from ⟨⟨h1.1, h1.2, h4⟩, hX⟩), nI_clamp (by have := aLen_le (G.1 r); omega)]
theorem E_iast {r n : Nat} {j x : Int32} {K : Nat} (hf : fet (cdT k) pc = some (.iastore, a, b)) (hk : G.1 r = K) (h1 : 20 ≤ K ∧ K ≤ 25) (h4 : r < 410) (hj : j = nI n) (hn : n < aLen K) (h : E G d k (pc + 1, L, st, pI M r n x, q) Q) : E G d k (pc, L, .int x :: .int j :: .ref r :: st, M, q) Q := by
  subst hj; subst hk
  have hX := okX_nI hn (aLen_le _)
  refine E_H hf (M' := pI M r n x) (st' := st) ?_ rfl rfl rfl h
  simp only [opH]
  rw [if_pos (show okR G r 20 25 ∧ okX (nI n) (aLen (G.1 r)) from ⟨⟨h1.1, h1.2, h4⟩, hX⟩), nI_clamp (by have := aLen_le (G.1 r); omega)]
theorem E_cast {r n : Nat} {j x : Int32} {K : Nat} (hf : fet (cdT k) pc = some (.castore, a, b)) (hk : G.1 r = K) (h1 : 26 ≤ K ∧ K ≤ 27) (h4 : r < 410) (hj : j = nI n) (hn : n < aLen K) (h : E G d k (pc + 1, L, st, pI M r n (vp_nar .char x), q) Q) : E G d k (pc, L, .int x :: .int j :: .ref r :: st, M, q) Q := by
  subst hj; subst hk
  have hX := okX_nI hn (aLen_le _)
  refine E_H hf (M' := pI M r n (vp_nar .char x)) (st' := st) ?_ rfl rfl rfl h
  simp only [opH]
  rw [if_pos (show okR G r 26 27 ∧ okX (nI n) (aLen (G.1 r)) from ⟨⟨h1.1, h1.2, h4⟩, hX⟩), nI_clamp (by have := aLen_le (G.1 r); omega)]
theorem E_sald {j : Int32} (hf : fet (cdT k) pc = some (.iaload, a, b)) (h1 : okX j G.2.2) (h : E G d k (pc + 1, L, .int (G.2.1 j.toNatClampNeg) :: st, M, q) Q) : E G d k (pc, L, .int j :: .ref 1000 :: st, M, q) Q := by
  refine E_H hf (M' := M) (st' := .int (G.2.1 j.toNatClampNeg) :: st) ?_ rfl rfl rfl h
  simp only [opH]
  rw [if_pos trivial, if_pos h1]
theorem E_slen (hf : fet (cdT k) pc = some (.arraylength, a, b)) (h : E G d k (pc + 1, L, .int (Int32.ofNat G.2.2) :: st, M, q) Q) : E G d k (pc, L, .ref 1000 :: st, M, q) Q := by
  refine E_H hf (M' := M) (st' := .int (Int32.ofNat G.2.2) :: st) ?_ rfl rfl rfl h
  simp only [opH]
  rw [if_pos trivial]
theorem E_blen {r j : Nat} (hf : fet (cdT k) pc = some (.arraylength, a, b)) (hr : r = 3000 + j) (hj : j < 5) (h : E G d k (pc + 1, L, .int (nI (strN j)) :: st, M, q) Q) : E G d k (pc, L, .ref r :: st, M, q) Q := by
  subst hr
  refine E_H hf (M' := M) (st' := .int (nI (strN j)) :: st) ?_ rfl rfl rfl h
  simp only [opH]
  rw [if_neg (show ¬ okS (3000 + j) from fun z => by unfold okS at z; omega), if_pos (show okV (3000 + j) from ⟨by omega, by omega⟩), show 3000 + j - 3000 = j by omega]
theorem E_bald {r j n : Nat} {x : Int32} (hf : fet (cdT k) pc = some (.baload, a, b)) (hr : r = 3000 + j) (hj : j < 5) (hx : x = nI n) (hn : n < strN j) (hN : strN j ≤ 410) (h : E G d k (pc + 1, L, .int (strI j n) :: st, M, q) Q) : E G d k (pc, L, .int x :: .ref r :: st, M, q) Q := by
  subst hr; subst hx
  have hX := okX_nI hn hN
  refine E_H hf (M' := M) (st' := .int (strI j n) :: st) ?_ rfl rfl rfl h
  simp only [opH]
  rw [show 3000 + j - 3000 = j by omega, if_pos (show okV (3000 + j) ∧ okX (nI n) (strN j) from ⟨⟨by omega, by omega⟩, hX⟩), nI_clamp (by omega)]
theorem E_ldcI {ix : Nat} {v : Int32} (hf : fet (cdT k) pc = some (.ldc ix, 1, b)) (hv : Int32.ofNat b = v) (h : E G d k (pc + 2, L, .int v :: st, M, q) Q) : E G d k (pc, L, st, M, q) Q := by
  subst hv
  exact E_H hf (M' := M) (st' := .int (Int32.ofNat b) :: st) rfl rfl rfl rfl h
theorem E_ldcS {ix : Nat} (hf : fet (cdT k) pc = some (.ldc ix, 2, b)) (hb : b < 5) (h : E G d k (pc + 2, L, .ref (2000 + b) :: st, M, q) Q) : E G d k (pc, L, st, M, q) Q := by
  refine E_H hf (M' := M) (st' := .ref (2000 + b) :: st) ?_ rfl rfl rfl h
  simp only [opH]
  rw [if_neg (by decide), if_pos hb]
theorem E_ldc2 {ix : Nat} {v : Int64} (hf : fet (cdT k) pc = some (.ldc2_w ix, a, b)) (hv : (if a = 1 then -1 else Int64.ofNat b) = v) (h : E G d k (pc + 3, L, .long v :: st, M, q) Q) : E G d k (pc, L, st, M, q) Q := by
  subst hv
  refine E_H hf (M' := M) (st' := .long (if a = 1 then -1 else Int64.ofNat b) :: st) ?_ rfl rfl rfl h
  simp only [opH]
  by_cases ha : a = 1
  · rw [if_pos ha, if_pos ha]
  · rw [if_neg ha, if_neg ha]
theorem E_gets {ix : Nat} {v : Value} (hf : fet (cdT k) pc = some (.getstatic ix, a, b)) (hv : (if a = 1 then .int 1 else .ref 9999) = v) (h : E G d k (pc + 3, L, v :: st, M, q) Q) : E G d k (pc, L, st, M, q) Q := by
  subst hv
  refine E_H hf (M' := M) (st' := (if a = 1 then .int 1 else .ref 9999) :: st) ?_ rfl rfl rfl h
  simp only [opH]
  by_cases ha : a = 1
  · rw [if_pos ha, if_pos ha]
  · rw [if_neg ha, if_neg ha]
theorem E_min {ix : Nat} {x y : Int32} (hf : fet (cdT k) pc = some (.invokestatic ix, a, 3)) (h8 : catS st ≤ 8) (h : E G d k (pc + 3, L, .int (if y < x then y else x) :: st, M, q) Q) : E G d k (pc, L, .int y :: .int x :: st, M, q) Q := by
  refine E_H hf (M' := M) (st' := .int (if y < x then y else x) :: st) ?_ rfl rfl rfl h
  simp only [opH]
  rw [if_pos trivial, if_pos (show (st.map fun v => v.category).sum ≤ 8 from h8)]
theorem E_max {ix : Nat} {x y : Int32} (hf : fet (cdT k) pc = some (.invokestatic ix, a, 5)) (h8 : catS st ≤ 8) (h : E G d k (pc + 3, L, .int (if x < y then y else x) :: st, M, q) Q) : E G d k (pc, L, .int y :: .int x :: st, M, q) Q := by
  refine E_H hf (M' := M) (st' := .int (if x < y then y else x) :: st) ?_ rfl rfl rfl h
  simp only [opH]
  rw [if_neg (by decide), if_pos trivial, if_pos (show (st.map fun v => v.category).sum ≤ 8 from h8)]
theorem E_cpy {ix rs rd N K K' : Nat} {n : Int32} (hf : fet (cdT k) pc = some (.invokestatic ix, a, 4)) (hs : G.1 rs = K) (hs2 : 20 ≤ K ∧ K ≤ 25 ∧ rs < 410) (hd : G.1 rd = K') (hd2 : 20 ≤ K' ∧ K' ≤ 25 ∧ rd < 410) (hn : n = nI N) (h1 : N ≤ aLen K) (h2 : N ≤ aLen K') (h8 : catS st ≤ 8) (h : E G d k (pc + 3, L, st, pA M rd (va_cpy (M.1 rs) (M.1 rd) 0 0 N), q) Q) : E G d k (pc, L, .int n :: .int 0 :: .ref rd :: .int 0 :: .ref rs :: st, M, q) Q := by
  subst hn; subst hs; subst hd
  have e := aLen_le (G.1 rs)
  have en : (nI N).toNatClampNeg = N := nI_clamp (by omega)
  have e0 : (0 : Int32).toNatClampNeg = 0 := by decide
  refine E_H hf (M' := pA M rd (va_cpy (M.1 rs) (M.1 rd) 0 0 N)) (st' := st) ?_ rfl rfl rfl h
  simp only [opH]
  rw [if_neg (by decide), if_neg (by decide), if_pos trivial, en, e0, if_pos]
  exact ⟨⟨hs2.1, hs2.2.1, hs2.2.2⟩, ⟨hd2.1, hd2.2.1, hd2.2.2⟩, ⟨by decide, by decide, nI_pos' (by omega)⟩, by omega, by omega, h8⟩
theorem E_iret {x : Int32} (hf : fet (cdT k) pc = some (.ireturn, a, b)) (hr : retOk (mdT k).2.1 x = true) (h : Q (.inl (some (.int x)), M, q)) : E G d k (pc, L, [.int x], M, q) Q := by
  refine E_done (E_C hf (z := .inl (.inl (some (.int x)), M, q)) ?_ rfl rfl rfl rfl) h
  simp only [opC]
  rw [if_pos hr]
theorem E_lret {x : Int64} (hf : fet (cdT k) pc = some (.lreturn, a, b)) (hr : (mdT k).2.1 = 5) (h : Q (.inl (some (.long x)), M, q)) : E G d k (pc, L, [.long x], M, q) Q := by
  refine E_done (E_C hf (z := .inl (.inl (some (.long x)), M, q)) ?_ rfl rfl rfl rfl) h
  simp only [opC]
  rw [if_pos hr]
theorem E_vret (hf : fet (cdT k) pc = some (.return_, a, b)) (hr : (mdT k).2.1 = 0) (h : Q (.inl none, M, q)) : E G d k (pc, L, [], M, q) Q := by
  refine E_done (E_C hf (z := .inl (.inl none, M, q)) ?_ rfl rfl rfl rfl) h
  simp only [opC]
  rw [if_pos hr]
theorem E_new {ix : Nat} (hf : fet (cdT k) pc = some (.new ix, a, 1)) (ha : a < 5) (h : Q (.inr a, M, q + 1)) : E G d k (pc, L, [], M, q) Q := by
  refine E_done (E_C hf (z := .inl (.inr a, M, q + 1)) ?_ rfl rfl rfl rfl) h
  simp only [opC]
  rw [if_pos ⟨ha, trivial⟩]
end RUL
