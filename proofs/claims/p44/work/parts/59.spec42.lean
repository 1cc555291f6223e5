section SP42
/-- THE LAW'S BODY over two blocks: o's cells from 0, other's from 410 -/
def upV : Value → Value
  | .ref a => if a < 410 then .ref (a + 410) else .ref a
  | v => v
def okAs (As : List Value) : Bool := As.all (fun v => match v with
  | .int _ => true
  | .ref a => a == 0 || a == 1000
  | _ => false)
def isNum (v : Option Value) : Bool := match v with
  | none => true
  | some (.int _) => true
  | some (.long _) => true
  | _ => false
def ynL (k : Nat) : MethodName := if k = 200 then yL_deed else ynT k
abbrev KT : Type := Nat → Loc1 → List Value → Mem → Mem → Nat → Prop
/-- how a call of the law is written -/
def CallL (i : Instr) (k' : Nat) (As : List Value) : Prop := ∃ ix : Nat, Cond.methodLink "RungmasterLaw" ix (ynL k') ∈ Wg ∧ ((i = .invokestatic ix ∧ (k' < nM ∨ k' = 200) ∧ (mdT k').2.2.2 = 100 ∧ (mdT k').1 = As.length) ∨ (i = .invokevirtual ix ∧ k' < nM ∧ (mdT k').2.2.2 = 9 ∧ ∃ As' : List Value, As = .ref 0 :: As' ∧ (mdT k').1 = As'.length))
def LK (xs : Nat → Int32) (Lx N : Nat) (K : KT) : Prop :=
  (∀ (pc : Nat) (i : Instr) (L : Loc1) (st st' : List Value) (M1 M2 : Mem) (q : Nat), decode cL_law pc = .ok (i, ilen i) → opS i st = some st' → K (pc + ilen i) L st' M1 M2 q → K pc L st M1 M2 q) ∧
  (∀ (pc : Nat) (i : Instr) (L L' : Loc1) (st st' : List Value) (M1 M2 : Mem) (q : Nat), decode cL_law pc = .ok (i, ilen i) → opL i L st = some (L', st') → K (pc + ilen i) L' st' M1 M2 q → K pc L st M1 M2 q) ∧
  (∀ (pc : Nat) (i : Instr) (L : Loc1) (st st' : List Value) (tg : Nat) (M1 M2 : Mem) (q : Nat), decode cL_law pc = .ok (i, ilen i) → (∀ d ps, i ≠ .lookupswitch d ps) → opB i pc st = some (tg, st') → K tg L st' M1 M2 q → K pc L st M1 M2 q) ∧
  (∀ (pc ix : Nat) (v : Int64) (L : Loc1) (st : List Value) (M1 M2 : Mem) (q : Nat), decode cL_law pc = .ok (.ldc2_w ix, 3) → Cond.constantLong "RungmasterLaw" ix v ∈ Wg → K (pc + 3) L (.long v :: st) M1 M2 q → K pc L st M1 M2 q) ∧
  (∀ (pc : Nat) (i : Instr) (d k' : Nat) (As t : List Value) (v : Option Value) (M1' : Mem) (c : Nat) (L : Loc1) (M1 M2 : Mem) (q : Nat), decode cL_law pc = .ok (i, 3) → CallL i k' As → d ≤ 13 → okAs As = true → isNum v = true → catS t ≤ 8 → q + c ≤ N → RetC (kdAll, xs, Lx) d k' As M1 v M1' c → K (pc + 3) L (v.toList ++ t) M1' M2 (q + c) → K pc L (As.reverse ++ t) M1 M2 q) ∧
  (∀ (pc : Nat) (i : Instr) (d k' : Nat) (As t : List Value) (v : Option Value) (M2' : Mem) (c : Nat) (L : Loc1) (M1 M2 : Mem) (q : Nat), decode cL_law pc = .ok (i, 3) → CallL i k' As → d ≤ 13 → okAs As = true → isNum v = true → catS t ≤ 8 → q + c ≤ N → RetC (kdAll, xs, Lx) d k' As M2 v M2' c → K (pc + 3) L (v.toList ++ t) M1 M2' (q + c) → K pc L ((As.map upV).reverse ++ t) M1 M2 q) ∧
  (∀ (pc : Nat) (L : Loc1) (M1 M2 : Mem) (q : Nat), decode cL_law pc = .ok (.ireturn, 1) → q ≤ N → K pc L [.int 1] M1 M2 q)
variable {xs : Nat → Int32} {Lx N pc : Nat} {K : KT} {L L' : Loc1} {st st' : List Value} {M1 M2 M1' M2' : Mem} {q : Nat}
theorem V_S (hK : LK xs Lx N K) {i : Instr} {n : Nat} (hd : decode cL_law pc = .ok (i, n)) (hn : n = ilen i) (ho : opS i st = some st') (h : K (pc + n) L st' M1 M2 q) : K pc L st M1 M2 q := by
  subst hn
  exact hK.1 pc i L st st' M1 M2 q hd ho h
theorem V_L (hK : LK xs Lx N K) {i : Instr} {n : Nat} (hd : decode cL_law pc = .ok (i, n)) (hn : n = ilen i) (ho : opL i L st = some (L', st')) (h : K (pc + n) L' st' M1 M2 q) : K pc L st M1 M2 q := by
  subst hn
  exact hK.2.1 pc i L L' st st' M1 M2 q hd ho h
theorem V_B (hK : LK xs Lx N K) {i : Instr} {n tg : Nat} (hd : decode cL_law pc = .ok (i, n)) (hn : n = ilen i) (hl : ∀ d ps, i ≠ .lookupswitch d ps) (ho : opB i pc st = some (tg, st')) (h : K tg L st' M1 M2 q) : K pc L st M1 M2 q := by
  subst hn
  exact hK.2.2.1 pc i L st st' tg M1 M2 q hd hl ho h
theorem V_ldc2 (hK : LK xs Lx N K) {ix : Nat} {v : Int64} (hd : decode cL_law pc = .ok (.ldc2_w ix, 3)) (hw : Cond.constantLong "RungmasterLaw" ix v ∈ Wg) (h : K (pc + 3) L (.long v :: st) M1 M2 q) : K pc L st M1 M2 q := hK.2.2.2.1 pc ix v L st M1 M2 q hd hw h
theorem V_ret (hK : LK xs Lx N K) (hd : decode cL_law pc = .ok (.ireturn, 1)) (hq : q ≤ N) : K pc L [.int 1] M1 M2 q := hK.2.2.2.2.2.2 pc L M1 M2 q hd hq
theorem V_s1 (hK : LK xs Lx N K) {d k' ix c : Nat} {As t : List Value} {v : Option Value} (hr : RetC (kdAll, xs, Lx) d k' As M1 v M1' c) (hd : decode cL_law pc = .ok (.invokestatic ix, 3)) (hw : Cond.methodLink "RungmasterLaw" ix (ynL k') ∈ Wg) (hk : k' < nM ∨ k' = 200) {md : MD} (hmd : mdT k' = md) (hm : md.2.2.2 = 100 ∧ md.1 = As.length) (hst : st = As.reverse ++ t) (h13 : d ≤ 13) (hok : okAs As = true) (hv : isNum v = true) (h8 : catS t ≤ 8) (hq : q + c ≤ N) (h : K (pc + 3) L (v.toList ++ t) M1' M2 (q + c)) : K pc L st M1 M2 q := by
  subst hst; subst hmd
  exact hK.2.2.2.2.1 pc _ d k' As t v M1' c L M1 M2 q hd ⟨ix, hw, Or.inl ⟨rfl, hk, hm.1, hm.2⟩⟩ h13 hok hv h8 hq hr h
theorem V_s2 (hK : LK xs Lx N K) {d k' ix c : Nat} {As t : List Value} {v : Option Value} (hr : RetC (kdAll, xs, Lx) d k' As M2 v M2' c) (hd : decode cL_law pc = .ok (.invokestatic ix, 3)) (hw : Cond.methodLink "RungmasterLaw" ix (ynL k') ∈ Wg) (hk : k' < nM ∨ k' = 200) {md : MD} (hmd : mdT k' = md) (hm : md.2.2.2 = 100 ∧ md.1 = As.length) (hst : st = (As.map upV).reverse ++ t) (h13 : d ≤ 13) (hok : okAs As = true) (hv : isNum v = true) (h8 : catS t ≤ 8) (hq : q + c ≤ N) (h : K (pc + 3) L (v.toList ++ t) M1 M2' (q + c)) : K pc L st M1 M2 q := by
  subst hst; subst hmd
  exact hK.2.2.2.2.2.1 pc _ d k' As t v M2' c L M1 M2 q hd ⟨ix, hw, Or.inl ⟨rfl, hk, hm.1, hm.2⟩⟩ h13 hok hv h8 hq hr h
theorem V_v1 (hK : LK xs Lx N K) {d k' ix c : Nat} {As t : List Value} {v : Option Value} (hr : RetC (kdAll, xs, Lx) d k' (.ref 0 :: As) M1 v M1' c) (hd : decode cL_law pc = .ok (.invokevirtual ix, 3)) (hw : Cond.methodLink "RungmasterLaw" ix (ynL k') ∈ Wg) (hk : k' < nM) {md : MD} (hmd : mdT k' = md) (hm : md.2.2.2 = 9 ∧ md.1 = As.length) (hst : st = (.ref 0 :: As).reverse ++ t) (h13 : d ≤ 13) (hok : okAs (.ref 0 :: As) = true) (hv : isNum v = true) (h8 : catS t ≤ 8) (hq : q + c ≤ N) (h : K (pc + 3) L (v.toList ++ t) M1' M2 (q + c)) : K pc L st M1 M2 q := by
  subst hst; subst hmd
  exact hK.2.2.2.2.1 pc _ d k' (.ref 0 :: As) t v M1' c L M1 M2 q hd ⟨ix, hw, Or.inr ⟨rfl, hk, hm.1, As, rfl, hm.2⟩⟩ h13 hok hv h8 hq hr h
theorem V_v2 (hK : LK xs Lx N K) {d k' ix c : Nat} {As t : List Value} {v : Option Value} (hr : RetC (kdAll, xs, Lx) d k' (.ref 0 :: As) M2 v M2' c) (hd : decode cL_law pc = .ok (.invokevirtual ix, 3)) (hw : Cond.methodLink "RungmasterLaw" ix (ynL k') ∈ Wg) (hk : k' < nM) {md : MD} (hmd : mdT k' = md) (hm : md.2.2.2 = 9 ∧ md.1 = As.length) (hst : st = ((.ref 0 :: As : List Value).map upV).reverse ++ t) (h13 : d ≤ 13) (hok : okAs (.ref 0 :: As) = true) (hv : isNum v = true) (h8 : catS t ≤ 8) (hq : q + c ≤ N) (h : K (pc + 3) L (v.toList ++ t) M1 M2' (q + c)) : K pc L st M1 M2 q := by
  subst hst; subst hmd
  exact hK.2.2.2.2.2.1 pc _ d k' (.ref 0 :: As) t v M2' c L M1 M2 q hd ⟨ix, hw, Or.inr ⟨rfl, hk, hm.1, As, rfl, hm.2⟩⟩ h13 hok hv h8 hq hr h
theorem V_ifeq (hK : LK xs Lx N K) {x : Int32} {off : Int} {tg : Nat} (hd : decode cL_law pc = .ok (.ifCond .eq off, 3)) (ht : (pc : Int) + off = (tg : Int)) (kt : x = 0 → K (tg) L (st) M1 M2 q) (kf : ¬ x = 0 → K (pc + 3) L (st) M1 M2 q) : K (pc) L (.int x :: st) M1 M2 q := by
  by_cases c : x = 0
  · refine V_B hK hd rfl (fun _ _ h => by cases h) (st' := st) (tg := tg) ?_ (kt c)
    simp only [opB, hold1, jmp, decide_eq_true_eq]
    rw [if_pos c, if_pos (by omega), ht]
    rfl
  · refine V_B hK hd rfl (fun _ _ h => by cases h) (st' := st) (tg := pc + 3) ?_ (kf (c))
    simp only [opB, hold1, jmp, decide_eq_true_eq]
    rw [if_neg c, if_pos (by omega)]
theorem V_ifne (hK : LK xs Lx N K) {x : Int32} {off : Int} {tg : Nat} (hd : decode cL_law pc = .ok (.ifCond .ne off, 3)) (ht : (pc : Int) + off = (tg : Int)) (kt : ¬ x = 0 → K (tg) L (st) M1 M2 q) (kf : x = 0 → K (pc + 3) L (st) M1 M2 q) : K (pc) L (.int x :: st) M1 M2 q := by
  by_cases c : ¬ x = 0
  · refine V_B hK hd rfl (fun _ _ h => by cases h) (st' := st) (tg := tg) ?_ (kt c)
    simp only [opB, hold1, jmp, decide_eq_true_eq]
    rw [if_pos c, if_pos (by omega), ht]
    rfl
  · refine V_B hK hd rfl (fun _ _ h => by cases h) (st' := st) (tg := pc + 3) ?_ (kf (Classical.not_not.mp c))
    simp only [opB, hold1, jmp, decide_eq_true_eq]
    rw [if_neg c, if_pos (by omega)]
theorem V_iceq (hK : LK xs Lx N K) {x y : Int32} {off : Int} {tg : Nat} (hd : decode cL_law pc = .ok (.if_icmp .eq off, 3)) (ht : (pc : Int) + off = (tg : Int)) (kt : x = y → K (tg) L (st) M1 M2 q) (kf : ¬ x = y → K (pc + 3) L (st) M1 M2 q) : K (pc) L (.int y :: .int x :: st) M1 M2 q := by
  by_cases c : x = y
  · refine V_B hK hd rfl (fun _ _ h => by cases h) (st' := st) (tg := tg) ?_ (kt c)
    simp only [opB, hold2, jmp, decide_eq_true_eq]
    rw [if_pos c, if_pos (by omega), ht]
    rfl
  · refine V_B hK hd rfl (fun _ _ h => by cases h) (st' := st) (tg := pc + 3) ?_ (kf (c))
    simp only [opB, hold2, jmp, decide_eq_true_eq]
    rw [if_neg c, if_pos (by omega)]
theorem V_icne (hK : LK xs Lx N K) {x y : Int32} {off : Int} {tg : Nat} (hd : decode cL_law pc = .ok (.if_icmp .ne off, 3)) (ht : (pc : Int) + off = (tg : Int)) (kt : ¬ x = y → K (tg) L (st) M1 M2 q) (kf : x = y → K (pc + 3) L (st) M1 M2 q) : K (pc) L (.int y :: .int x :: st) M1 M2 q := by
  by_cases c : ¬ x = y
  · refine V_B hK hd rfl (fun _ _ h => by cases h) (st' := st) (tg := tg) ?_ (kt c)
    simp only [opB, hold2, jmp, decide_eq_true_eq]
    rw [if_pos c, if_pos (by omega), ht]
    rfl
  · refine V_B hK hd rfl (fun _ _ h => by cases h) (st' := st) (tg := pc + 3) ?_ (kf (Classical.not_not.mp c))
    simp only [opB, hold2, jmp, decide_eq_true_eq]
    rw [if_neg c, if_pos (by omega)]
theorem V_icge (hK : LK xs Lx N K) {x y : Int32} {off : Int} {tg : Nat} (hd : decode cL_law pc = .ok (.if_icmp .ge off, 3)) (ht : (pc : Int) + off = (tg : Int)) (kt : y ≤ x → K (tg) L (st) M1 M2 q) (kf : ¬ y ≤ x → K (pc + 3) L (st) M1 M2 q) : K (pc) L (.int y :: .int x :: st) M1 M2 q := by
  by_cases c : y ≤ x
  · refine V_B hK hd rfl (fun _ _ h => by cases h) (st' := st) (tg := tg) ?_ (kt c)
    simp only [opB, hold2, jmp, decide_eq_true_eq]
    rw [if_pos c, if_pos (by omega), ht]
    rfl
  · refine V_B hK hd rfl (fun _ _ h => by cases h) (st' := st) (tg := pc + 3) ?_ (kf (c))
    simp only [opB, hold2, jmp, decide_eq_true_eq]
    rw [if_neg c, if_pos (by omega)]
theorem V_iclt (hK : LK xs Lx N K) {x y : Int32} {off : Int} {tg : Nat} (hd : decode cL_law pc = .ok (.if_icmp .lt off, 3)) (ht : (pc : Int) + off = (tg : Int)) (kt : x < y → K (tg) L (st) M1 M2 q) (kf : ¬ x < y → K (pc + 3) L (st) M1 M2 q) : K (pc) L (.int y :: .int x :: st) M1 M2 q := by
  by_cases c : x < y
  · refine V_B hK hd rfl (fun _ _ h => by cases h) (st' := st) (tg := tg) ?_ (kt c)
    simp only [opB, hold2, jmp, decide_eq_true_eq]
    rw [if_pos c, if_pos (by omega), ht]
    rfl
  · refine V_B hK hd rfl (fun _ _ h => by cases h) (st' := st) (tg := pc + 3) ?_ (kf (c))
    simp only [opB, hold2, jmp, decide_eq_true_eq]
    rw [if_neg c, if_pos (by omega)]
theorem V_goto (hK : LK xs Lx N K) {off : Int} {tg : Nat} (hd : decode cL_law pc = .ok (.goto off, 3)) (ht : (pc : Int) + off = (tg : Int)) (h : K (tg) L (st) M1 M2 q) : K (pc) L (st) M1 M2 q := by
  refine V_B hK hd rfl (fun _ _ h => by cases h) (st' := st) (tg := tg) ?_ h
  simp only [opB, jmp]
  rw [if_pos (by omega), ht]
  rfl
theorem V_iconst (hK : LK xs Lx N K) {n : Int} {v : Int32} (hd : decode cL_law pc = .ok (.iconst n, 1)) (hv : Int32.ofInt n = v) (h : K (pc + 1) L (.int v :: st) M1 M2 q) : K (pc) L (st) M1 M2 q := by subst hv; exact V_S hK hd rfl rfl h
theorem V_bipush (hK : LK xs Lx N K) {n : Int} {v : Int32} (hd : decode cL_law pc = .ok (.bipush n, 2)) (hv : (Int8.ofInt n).toInt32 = v) (h : K (pc + 2) L (.int v :: st) M1 M2 q) : K (pc) L (st) M1 M2 q := by subst hv; exact V_S hK hd rfl rfl h
theorem V_sipush (hK : LK xs Lx N K) {n : Int} {v : Int32} (hd : decode cL_law pc = .ok (.sipush n, 3)) (hv : (Int16.ofInt n).toInt32 = v) (h : K (pc + 3) L (.int v :: st) M1 M2 q) : K (pc) L (st) M1 M2 q := by subst hv; exact V_S hK hd rfl rfl h
theorem V_lconst (hK : LK xs Lx N K) {n : Fin 2} {v : Int64} (hd : decode cL_law pc = .ok (.lconst n, 1)) (hv : Int64.ofNat (n : Nat) = v) (h : K (pc + 1) L (.long v :: st) M1 M2 q) : K (pc) L (st) M1 M2 q := by subst hv; exact V_S hK hd rfl rfl h
theorem V_iadd (hK : LK xs Lx N K) {x y : Int32} (hd : decode cL_law pc = .ok (.iadd, 1)) (h : K (pc + 1) L (.int (x + y) :: st) M1 M2 q) : K (pc) L (.int y :: .int x :: st) M1 M2 q := V_S hK hd rfl rfl h
theorem V_imul (hK : LK xs Lx N K) {x y : Int32} (hd : decode cL_law pc = .ok (.imul, 1)) (h : K (pc + 1) L (.int (x * y) :: st) M1 M2 q) : K (pc) L (.int y :: .int x :: st) M1 M2 q := V_S hK hd rfl rfl h
theorem V_ladd (hK : LK xs Lx N K) {x y : Int64} (hd : decode cL_law pc = .ok (.ladd, 1)) (h : K (pc + 1) L (.long (x + y) :: st) M1 M2 q) : K (pc) L (.long y :: .long x :: st) M1 M2 q := V_S hK hd rfl rfl h
theorem V_lmul (hK : LK xs Lx N K) {x y : Int64} (hd : decode cL_law pc = .ok (.lmul, 1)) (h : K (pc + 1) L (.long (x * y) :: st) M1 M2 q) : K (pc) L (.long y :: .long x :: st) M1 M2 q := V_S hK hd rfl rfl h
theorem V_lcmp (hK : LK xs Lx N K) {x y : Int64} (hd : decode cL_law pc = .ok (.lcmp, 1)) (h : K (pc + 1) L (.int (lg_cmp x y) :: st) M1 M2 q) : K (pc) L (.long y :: .long x :: st) M1 M2 q := V_S hK hd rfl rfl h
theorem V_i2l (hK : LK xs Lx N K) {x : Int32} (hd : decode cL_law pc = .ok (.i2l, 1)) (h : K (pc + 1) L (.long x.toInt64 :: st) M1 M2 q) : K (pc) L (.int x :: st) M1 M2 q := V_S hK hd rfl rfl h
theorem V_pop (hK : LK xs Lx N K) {v : Value} (hd : decode cL_law pc = .ok (.pop, 1)) (hc : v.category = 1) (h : K (pc + 1) L (st) M1 M2 q) : K (pc) L (v :: st) M1 M2 q := V_S hK hd rfl (by simp only [opS]; rw [if_pos hc]) h
theorem V_dup (hK : LK xs Lx N K) {v : Value} (hd : decode cL_law pc = .ok (.dup, 1)) (hc : v.category = 1) (h : K (pc + 1) L (v :: v :: st) M1 M2 q) : K (pc) L (v :: st) M1 M2 q := V_S hK hd rfl (by simp only [opS]; rw [if_pos hc]) h
theorem V_iload (hK : LK xs Lx N K) {i : Nat} {x : Int32} (hd : decode cL_law pc = .ok (.iload i, 2)) (hL : L[i]? = some (some (.int x))) (h : K (pc + 2) L (.int x :: st) M1 M2 q) : K (pc) L (st) M1 M2 q := V_L hK hd rfl (by simp only [opL, ldI, hL, push]) h
theorem V_iload_n (hK : LK xs Lx N K) {i : Fin 4} {x : Int32} (hd : decode cL_law pc = .ok (.iload_n i, 1)) (hL : L[(i : Nat)]? = some (some (.int x))) (h : K (pc + 1) L (.int x :: st) M1 M2 q) : K (pc) L (st) M1 M2 q := V_L hK hd rfl (by simp only [opL, ldI, hL, push]) h
theorem V_lload (hK : LK xs Lx N K) {i : Nat} {x : Int64} (hd : decode cL_law pc = .ok (.lload i, 2)) (hL : L[i]? = some (some (.long x))) (h : K (pc + 2) L (.long x :: st) M1 M2 q) : K (pc) L (st) M1 M2 q := V_L hK hd rfl (by simp only [opL, ldL, hL, push]) h
theorem V_lload_n (hK : LK xs Lx N K) {i : Fin 4} {x : Int64} (hd : decode cL_law pc = .ok (.lload_n i, 1)) (hL : L[(i : Nat)]? = some (some (.long x))) (h : K (pc + 1) L (.long x :: st) M1 M2 q) : K (pc) L (st) M1 M2 q := V_L hK hd rfl (by simp only [opL, ldL, hL, push]) h
theorem V_aload (hK : LK xs Lx N K) {i : Nat} {x : Nat} (hd : decode cL_law pc = .ok (.aload i, 2)) (hL : L[i]? = some (some (.ref x))) (hx : x < 4000) (h : K (pc + 2) L (.ref x :: st) M1 M2 q) : K (pc) L (st) M1 M2 q := V_L hK hd rfl (by simp only [opL, ldA, hL]; rw [if_pos hx]; rfl) h
theorem V_aload_n (hK : LK xs Lx N K) {i : Fin 4} {x : Nat} (hd : decode cL_law pc = .ok (.aload_n i, 1)) (hL : L[(i : Nat)]? = some (some (.ref x))) (hx : x < 4000) (h : K (pc + 1) L (.ref x :: st) M1 M2 q) : K (pc) L (st) M1 M2 q := V_L hK hd rfl (by simp only [opL, ldA, hL]; rw [if_pos hx]; rfl) h
theorem V_istore (hK : LK xs Lx N K) {i : Nat} {x : Int32} (hd : decode cL_law pc = .ok (.istore i, 2)) (hL : stL L i (.int x) = L') (hi : i < L.length) (h : K (pc + 2) L' (st) M1 M2 q) : K (pc) L (.int x :: st) M1 M2 q := by
  subst hL
  exact V_L hK hd rfl (L' := stL L i (.int x)) (st' := st) (by simp only [opL, stI]; rw [if_pos hi]) h
theorem V_lstore (hK : LK xs Lx N K) {i : Nat} {x : Int64} (hd : decode cL_law pc = .ok (.lstore i, 2)) (hL : stL L i (.long x) = L') (hi : i + 1 < L.length) (h : K (pc + 2) L' (st) M1 M2 q) : K (pc) L (.long x :: st) M1 M2 q := by
  subst hL
  exact V_L hK hd rfl (L' := stL L i (.long x)) (st' := st) (by simp only [opL, stJ]; rw [if_pos hi]) h
theorem V_istore_n (hK : LK xs Lx N K) {i : Fin 4} {x : Int32} (hd : decode cL_law pc = .ok (.istore_n i, 1)) (hL : stL L (i : Nat) (.int x) = L') (hi : (i : Nat) < L.length) (h : K (pc + 1) L' (st) M1 M2 q) : K (pc) L (.int x :: st) M1 M2 q := by
  subst hL
  exact V_L hK hd rfl (L' := stL L (i : Nat) (.int x)) (st' := st) (by simp only [opL, stI]; rw [if_pos hi]) h
theorem V_lstore_n (hK : LK xs Lx N K) {i : Fin 4} {x : Int64} (hd : decode cL_law pc = .ok (.lstore_n i, 1)) (hL : stL L (i : Nat) (.long x) = L') (hi : (i : Nat) + 1 < L.length) (h : K (pc + 1) L' (st) M1 M2 q) : K (pc) L (.long x :: st) M1 M2 q := by
  subst hL
  exact V_L hK hd rfl (L' := stL L (i : Nat) (.long x)) (st' := st) (by simp only [opL, stJ]; rw [if_pos hi]) h
theorem V_astore_n (hK : LK xs Lx N K) {i : Fin 4} {x : Nat} (hd : decode cL_law pc = .ok (.astore_n i, 1)) (hL : stL L (i : Nat) (.ref x) = L') (hi : (i : Nat) < L.length) (hx : x < 4000) (h : K (pc + 1) L' (st) M1 M2 q) : K (pc) L (.ref x :: st) M1 M2 q := by
  subst hL
  exact V_L hK hd rfl (L' := stL L (i : Nat) (.ref x)) (st' := st) (by simp only [opL, stA]; rw [if_pos ⟨hi, hx⟩]) h
theorem V_iinc (hK : LK xs Lx N K) {i : Nat} {n : Int} {x v : Int32} (hd : decode cL_law pc = .ok (.iinc i n, 3)) (hL : L[i]? = some (some (.int x))) (hv : x + Int32.ofInt n = v) (hL' : stL L i (.int v) = L') (h : K (pc + 3) L' (st) M1 M2 q) : K (pc) L (st) M1 M2 q := by
  subst hv; subst hL'
  exact V_L hK hd rfl (L' := stL L i (.int (x + Int32.ofInt n))) (st' := st) (by simp only [opL, ldI, hL]) h
end SP42
