section RUL2
variable {G : MG} {d k pc : Nat} {L L' : Loc1} {st st' : List Value} {M M' : Mem} {q : Nat} {Q : Res → Prop} {a b : Nat}
theorem E_iconst {n : Int} {v : Int32} (hf : fet (cdT k) pc = some (.iconst n, a, b)) (hv : Int32.ofInt n = v) (h : E G d k (pc + 1, L, .int v :: st, M, q) Q) : E G d k (pc, L, st, M, q) Q := by subst hv; exact E_S hf rfl h
theorem E_bipush {n : Int} {v : Int32} (hf : fet (cdT k) pc = some (.bipush n, a, b)) (hv : (Int8.ofInt n).toInt32 = v) (h : E G d k (pc + 2, L, .int v :: st, M, q) Q) : E G d k (pc, L, st, M, q) Q := by subst hv; exact E_S hf rfl h
theorem E_sipush {n : Int} {v : Int32} (hf : fet (cdT k) pc = some (.sipush n, a, b)) (hv : (Int16.ofInt n).toInt32 = v) (h : E G d k (pc + 3, L, .int v :: st, M, q) Q) : E G d k (pc, L, st, M, q) Q := by subst hv; exact E_S hf rfl h
theorem E_lconst {n : Fin 2} {v : Int64} (hf : fet (cdT k) pc = some (.lconst n, a, b)) (hv : Int64.ofNat (n : Nat) = v) (h : E G d k (pc + 1, L, .long v :: st, M, q) Q) : E G d k (pc, L, st, M, q) Q := by subst hv; exact E_S hf rfl h
theorem E_iadd {x y : Int32} (hf : fet (cdT k) pc = some (.iadd, a, b)) (h : E G d k (pc + 1, L, .int (x + y) :: st, M, q) Q) : E G d k (pc, L, .int y :: .int x :: st, M, q) Q := E_S hf rfl h
theorem E_isub {x y : Int32} (hf : fet (cdT k) pc = some (.isub, a, b)) (h : E G d k (pc + 1, L, .int (x - y) :: st, M, q) Q) : E G d k (pc, L, .int y :: .int x :: st, M, q) Q := E_S hf rfl h
theorem E_imul {x y : Int32} (hf : fet (cdT k) pc = some (.imul, a, b)) (h : E G d k (pc + 1, L, .int (x * y) :: st, M, q) Q) : E G d k (pc, L, .int y :: .int x :: st, M, q) Q := E_S hf rfl h
theorem E_iand {x y : Int32} (hf : fet (cdT k) pc = some (.iand, a, b)) (h : E G d k (pc + 1, L, .int (x &&& y) :: st, M, q) Q) : E G d k (pc, L, .int y :: .int x :: st, M, q) Q := E_S hf rfl h
theorem E_ior {x y : Int32} (hf : fet (cdT k) pc = some (.ior, a, b)) (h : E G d k (pc + 1, L, .int (x ||| y) :: st, M, q) Q) : E G d k (pc, L, .int y :: .int x :: st, M, q) Q := E_S hf rfl h
theorem E_ixor {x y : Int32} (hf : fet (cdT k) pc = some (.ixor, a, b)) (h : E G d k (pc + 1, L, .int (x ^^^ y) :: st, M, q) Q) : E G d k (pc, L, .int y :: .int x :: st, M, q) Q := E_S hf rfl h
theorem E_ishl {x y : Int32} (hf : fet (cdT k) pc = some (.ishl, a, b)) (h : E G d k (pc + 1, L, .int (x <<< (y &&& 31)) :: st, M, q) Q) : E G d k (pc, L, .int y :: .int x :: st, M, q) Q := E_S hf rfl h
theorem E_ishr {x y : Int32} (hf : fet (cdT k) pc = some (.ishr, a, b)) (h : E G d k (pc + 1, L, .int (x >>> (y &&& 31)) :: st, M, q) Q) : E G d k (pc, L, .int y :: .int x :: st, M, q) Q := E_S hf rfl h
theorem E_iushr {x y : Int32} (hf : fet (cdT k) pc = some (.iushr, a, b)) (h : E G d k (pc + 1, L, .int ((x.toUInt32 >>> (y.toUInt32 &&& Int32.toUInt32 31)).toInt32) :: st, M, q) Q) : E G d k (pc, L, .int y :: .int x :: st, M, q) Q := E_S hf rfl h
theorem E_ladd {x y : Int64} (hf : fet (cdT k) pc = some (.ladd, a, b)) (h : E G d k (pc + 1, L, .long (x + y) :: st, M, q) Q) : E G d k (pc, L, .long y :: .long x :: st, M, q) Q := E_S hf rfl h
theorem E_lmul {x y : Int64} (hf : fet (cdT k) pc = some (.lmul, a, b)) (h : E G d k (pc + 1, L, .long (x * y) :: st, M, q) Q) : E G d k (pc, L, .long y :: .long x :: st, M, q) Q := E_S hf rfl h
theorem E_land {x y : Int64} (hf : fet (cdT k) pc = some (.land, a, b)) (h : E G d k (pc + 1, L, .long (x &&& y) :: st, M, q) Q) : E G d k (pc, L, .long y :: .long x :: st, M, q) Q := E_S hf rfl h
theorem E_lor {x y : Int64} (hf : fet (cdT k) pc = some (.lor, a, b)) (h : E G d k (pc + 1, L, .long (x ||| y) :: st, M, q) Q) : E G d k (pc, L, .long y :: .long x :: st, M, q) Q := E_S hf rfl h
theorem E_lxor {x y : Int64} (hf : fet (cdT k) pc = some (.lxor, a, b)) (h : E G d k (pc + 1, L, .long (x ^^^ y) :: st, M, q) Q) : E G d k (pc, L, .long y :: .long x :: st, M, q) Q := E_S hf rfl h
theorem E_irem {x y : Int32} (hf : fet (cdT k) pc = some (.irem, a, b)) (hy : ¬ y = 0) (h : E G d k (pc + 1, L, .int (x - x / y * y) :: st, M, q) Q) : E G d k (pc, L, .int y :: .int x :: st, M, q) Q := E_S hf (by simp only [opS]; rw [if_neg hy]) h
theorem E_lshl {x : Int64} {y : Int32} (hf : fet (cdT k) pc = some (.lshl, a, b)) (h : E G d k (pc + 1, L, .long (x <<< (y.toInt64 &&& 63)) :: st, M, q) Q) : E G d k (pc, L, .int y :: .long x :: st, M, q) Q := E_S hf rfl h
theorem E_lushr {x : Int64} {y : Int32} (hf : fet (cdT k) pc = some (.lushr, a, b)) (h : E G d k (pc + 1, L, .long ((x.toUInt64 >>> (y.toInt64.toUInt64 &&& Int64.toUInt64 63)).toInt64) :: st, M, q) Q) : E G d k (pc, L, .int y :: .long x :: st, M, q) Q := E_S hf rfl h
theorem E_lcmp {x y : Int64} (hf : fet (cdT k) pc = some (.lcmp, a, b)) (h : E G d k (pc + 1, L, .int (lg_cmp x y) :: st, M, q) Q) : E G d k (pc, L, .long y :: .long x :: st, M, q) Q := E_S hf rfl h
theorem E_i2l {x : Int32} (hf : fet (cdT k) pc = some (.i2l, a, b)) (h : E G d k (pc + 1, L, .long x.toInt64 :: st, M, q) Q) : E G d k (pc, L, .int x :: st, M, q) Q := E_S hf rfl h
theorem E_i2c {x : Int32} (hf : fet (cdT k) pc = some (.i2c, a, b)) (h : E G d k (pc + 1, L, .int (x.toUInt32 % 65536).toInt32 :: st, M, q) Q) : E G d k (pc, L, .int x :: st, M, q) Q := E_S hf rfl h
theorem E_i2b {x : Int32} (hf : fet (cdT k) pc = some (.i2b, a, b)) (h : E G d k (pc + 1, L, .int x.toInt8.toInt32 :: st, M, q) Q) : E G d k (pc, L, .int x :: st, M, q) Q := E_S hf rfl h
theorem E_dup {v : Value} (hf : fet (cdT k) pc = some (.dup, a, b)) (hc : v.category = 1) (h : E G d k (pc + 1, L, v :: v :: st, M, q) Q) : E G d k (pc, L, v :: st, M, q) Q := E_S hf (by simp only [opS]; rw [if_pos hc]) h
theorem E_dup2 {v w : Value} (hf : fet (cdT k) pc = some (.dup2, a, b)) (hc : v.category = 1) (hc2 : w.category = 1) (h : E G d k (pc + 1, L, v :: w :: v :: w :: st, M, q) Q) : E G d k (pc, L, v :: w :: st, M, q) Q := E_S hf (by simp only [opS]; rw [if_pos ⟨hc, hc2⟩]) h
theorem E_pop {v : Value} (hf : fet (cdT k) pc = some (.pop, a, b)) (hc : v.category = 1) (h : E G d k (pc + 1, L, st, M, q) Q) : E G d k (pc, L, v :: st, M, q) Q := E_S hf (by simp only [opS]; rw [if_pos hc]) h
theorem E_iload {i : Nat} {x : Int32} (hf : fet (cdT k) pc = some (.iload i, a, b)) (hL : L[i]? = some (some (.int x))) (h : E G d k (pc + 2, L, .int x :: st, M, q) Q) : E G d k (pc, L, st, M, q) Q := E_L hf (by simp only [opL, ldI, hL, push]) rfl h
theorem E_iload_n {i : Fin 4} {x : Int32} (hf : fet (cdT k) pc = some (.iload_n i, a, b)) (hL : L[(i : Nat)]? = some (some (.int x))) (h : E G d k (pc + 1, L, .int x :: st, M, q) Q) : E G d k (pc, L, st, M, q) Q := E_L hf (by simp only [opL, ldI, hL, push]) rfl h
theorem E_lload {i : Nat} {x : Int64} (hf : fet (cdT k) pc = some (.lload i, a, b)) (hL : L[i]? = some (some (.long x))) (h : E G d k (pc + 2, L, .long x :: st, M, q) Q) : E G d k (pc, L, st, M, q) Q := E_L hf (by simp only [opL, ldL, hL, push]) rfl h
theorem E_lload_n {i : Fin 4} {x : Int64} (hf : fet (cdT k) pc = some (.lload_n i, a, b)) (hL : L[(i : Nat)]? = some (some (.long x))) (h : E G d k (pc + 1, L, .long x :: st, M, q) Q) : E G d k (pc, L, st, M, q) Q := E_L hf (by simp only [opL, ldL, hL, push]) rfl h
theorem E_aload {i : Nat} {x : Nat} (hf : fet (cdT k) pc = some (.aload i, a, b)) (hL : L[i]? = some (some (.ref x))) (hx : x < 4000) (h : E G d k (pc + 2, L, .ref x :: st, M, q) Q) : E G d k (pc, L, st, M, q) Q := E_L hf (by simp only [opL, ldA, hL]; rw [if_pos hx]; rfl) rfl h
theorem E_aload_n {i : Fin 4} {x : Nat} (hf : fet (cdT k) pc = some (.aload_n i, a, b)) (hL : L[(i : Nat)]? = some (some (.ref x))) (hx : x < 4000) (h : E G d k (pc + 1, L, .ref x :: st, M, q) Q) : E G d k (pc, L, st, M, q) Q := E_L hf (by simp only [opL, ldA, hL]; rw [if_pos hx]; rfl) rfl h
theorem E_istore {i : Nat} {x : Int32} (hf : fet (cdT k) pc = some (.istore i, a, b)) (hL : stL L i (.int x) = L') (hi : i < L.length) (h : E G d k (pc + 2, L', st, M, q) Q) : E G d k (pc, L, .int x :: st, M, q) Q := by
  subst hL
  exact E_L hf (L' := stL L i (.int x)) (st' := st) (by simp only [opL, stI]; rw [if_pos hi]) rfl h
theorem E_lstore {i : Nat} {x : Int64} (hf : fet (cdT k) pc = some (.lstore i, a, b)) (hL : stL L i (.long x) = L') (hi : i + 1 < L.length) (h : E G d k (pc + 2, L', st, M, q) Q) : E G d k (pc, L, .long x :: st, M, q) Q := by
  subst hL
  exact E_L hf (L' := stL L i (.long x)) (st' := st) (by simp only [opL, stJ]; rw [if_pos hi]) rfl h
theorem E_astore {i : Nat} {x : Nat} (hf : fet (cdT k) pc = some (.astore i, a, b)) (hL : stL L i (.ref x) = L') (hi : i < L.length) (hx : x < 4000) (h : E G d k (pc + 2, L', st, M, q) Q) : E G d k (pc, L, .ref x :: st, M, q) Q := by
  subst hL
  exact E_L hf (L' := stL L i (.ref x)) (st' := st) (by simp only [opL, stA]; rw [if_pos ⟨hi, hx⟩]) rfl h
theorem E_istore_n {i : Fin 4} {x : Int32} (hf : fet (cdT k) pc = some (.istore_n i, a, b)) (hL : stL L (i : Nat) (.int x) = L') (hi : (i : Nat) < L.length) (h : E G d k (pc + 1, L', st, M, q) Q) : E G d k (pc, L, .int x :: st, M, q) Q := by
  subst hL
  exact E_L hf (L' := stL L (i : Nat) (.int x)) (st' := st) (by simp only [opL, stI]; rw [if_pos hi]) rfl h
theorem E_lstore_n {i : Fin 4} {x : Int64} (hf : fet (cdT k) pc = some (.lstore_n i, a, b)) (hL : stL L (i : Nat) (.long x) = L') (hi : (i : Nat) + 1 < L.length) (h : E G d k (pc + 1, L', st, M, q) Q) : E G d k (pc, L, .long x :: st, M, q) Q := by
  subst hL
  exact E_L hf (L' := stL L (i : Nat) (.long x)) (st' := st) (by simp only [opL, stJ]; rw [if_pos hi]) rfl h
theorem E_astore_n {i : Fin 4} {x : Nat} (hf : fet (cdT k) pc = some (.astore_n i, a, b)) (hL : stL L (i : Nat) (.ref x) = L') (hi : (i : Nat) < L.length) (hx : x < 4000) (h : E G d k (pc + 1, L', st, M, q) Q) : E G d k (pc, L, .ref x :: st, M, q) Q := by
  subst hL
  exact E_L hf (L' := stL L (i : Nat) (.ref x)) (st' := st) (by simp only [opL, stA]; rw [if_pos ⟨hi, hx⟩]) rfl h
theorem E_iinc {i : Nat} {n : Int} {x v : Int32} (hf : fet (cdT k) pc = some (.iinc i n, a, b)) (hL : L[i]? = some (some (.int x))) (hv : x + Int32.ofInt n = v) (hL' : stL L i (.int v) = L') (h : E G d k (pc + 3, L', st, M, q) Q) : E G d k (pc, L, st, M, q) Q := by
  subst hv; subst hL'
  exact E_L hf (L' := stL L i (.int (x + Int32.ofInt n))) (st' := st) (by simp only [opL, ldI, hL]) rfl h
theorem inc1 (n : Nat) : nI n + Int32.ofInt 1 = nI (n + 1) := nI_1 n
theorem incx (x : Int32) : x + Int32.ofInt 1 = x + 1 := rfl
theorem E_callS {k' ix : Nat} {As t : List Value} {v : Option Value} (hr : Ret G d k' As M v M') (hf : fet (cdT k) pc = some (.invokestatic ix, k', b)) (hb : b = 1 ∨ b = 2 ∨ b = 6) {md : MD} (hmd : mdT k' = md) (hm : md.2.2.2 = 100 ∧ md.1 = As.length) (hst : st = As.reverse ++ t) (hc : As.all (fun v => v.category == 1) = true) (h8 : catS t ≤ 8)
    (h : E G d k (pc + 3, L, v.toList ++ t, M', q) Q) : E G d k (pc, L, st, M, q) Q := by
  subst hst; subst hmd
  refine E_call hr hf ?_ rfl rfl rfl ?_ h
  · simp only [opC, cut]
    have e1 : (List.take (mdT k').1 (As.reverse ++ t)).reverse = As := by
      rw [hm.2, List.take_append_of_le_length (by simp), List.take_of_length_le (by simp), List.reverse_reverse]
    have e2 : List.drop (mdT k').1 (As.reverse ++ t) = t := by
      rw [hm.2, List.drop_append_of_le_length (by simp), List.drop_of_length_le (by simp), List.nil_append]
    rw [e1, e2, if_pos hm.2.symm, if_pos hm.1]
    simp only []
    rw [if_pos ⟨h8, hb, hc⟩]
  · simp only [opH]
    rw [if_neg (by omega), if_neg (by omega), if_neg (by omega)]
theorem E_thrS {k' ix x : Nat} {As t : List Value} (hr : Thr G d k' As M x M') (hf : fet (cdT k) pc = some (.invokestatic ix, k', b)) (hb : b = 1 ∨ b = 2 ∨ b = 6) {md : MD} (hmd : mdT k' = md) (hm : md.2.2.2 = 100 ∧ md.1 = As.length) (hst : st = As.reverse ++ t) (hc : As.all (fun v => v.category == 1) = true) (h8 : catS t ≤ 8)
    (h : Q (.inr x, M', q + 1)) : E G d k (pc, L, st, M, q) Q := by
  subst hst; subst hmd
  refine E_thr hr hf (t := t) ?_ rfl rfl rfl ?_ h
  · simp only [opC, cut]
    have e1 : (List.take (mdT k').1 (As.reverse ++ t)).reverse = As := by
      rw [hm.2, List.take_append_of_le_length (by simp), List.take_of_length_le (by simp), List.reverse_reverse]
    have e2 : List.drop (mdT k').1 (As.reverse ++ t) = t := by
      rw [hm.2, List.drop_append_of_le_length (by simp), List.drop_of_length_le (by simp), List.nil_append]
    rw [e1, e2, if_pos hm.2.symm, if_pos hm.1]
    simp only []
    rw [if_pos ⟨h8, hb, hc⟩]
  · simp only [opH]
    rw [if_neg (by omega), if_neg (by omega), if_neg (by omega)]
theorem cut_V {md : MD} {As t : List Value} {r : Nat} (hm : md.2.2.2 ≠ 100 ∧ md.1 = As.length) (hr : recvOk G md.2.2.2 r = true) : cut G md (As.reverse ++ .ref r :: t) = some (.ref r :: As, t) := by
  simp only [cut]
  have e1 : (List.take md.1 (As.reverse ++ .ref r :: t)).reverse = As := by
    rw [hm.2, List.take_append_of_le_length (by simp), List.take_of_length_le (by simp), List.reverse_reverse]
  have e2 : List.drop md.1 (As.reverse ++ .ref r :: t) = .ref r :: t := by
    rw [hm.2, List.drop_append_of_le_length (by simp), List.drop_of_length_le (by simp), List.nil_append]
  rw [e1, e2, if_pos hm.2.symm, if_neg hm.1]
  simp only []
  rw [if_pos hr]
theorem rc_obj {c r : Nat} (h : G.1 r = c) (h4 : r < 410) (hc : c ≠ 101) : recvOk G c r = true := by
  unfold recvOk
  rw [if_neg hc]
  exact decide_eq_true ⟨h, h4⟩
theorem rc_str {r : Nat} (h : okK r) : recvOk G 101 r = true := by
  unfold recvOk
  rw [if_pos rfl]
  exact decide_eq_true h
theorem E_callV {k' ix r : Nat} {As t : List Value} {v : Option Value} (hr : Ret G d k' (.ref r :: As) M v M') (hf : fet (cdT k) pc = some (.invokevirtual ix, k', 0)) {md : MD} (hmd : mdT k' = md) (hk : recvOk G md.2.2.2 r = true) (hm : md.2.2.2 ≠ 100 ∧ md.1 = As.length) (hst : st = As.reverse ++ .ref r :: t) (hc : As.all (fun v => v.category == 1) = true) (h8 : catS t ≤ 8)
    (h : E G d k (pc + 3, L, v.toList ++ t, M', q) Q) : E G d k (pc, L, st, M, q) Q := by
  subst hst; subst hmd
  refine E_call hr hf ?_ rfl rfl rfl rfl h
  simp only [opC]
  rw [cut_V hm hk]
  simp only []
  rw [if_pos ⟨h8, trivial, by rw [List.all_cons, hc]; rfl⟩]
theorem E_thrV {k' ix r x : Nat} {As t : List Value} (hr : Thr G d k' (.ref r :: As) M x M') (hf : fet (cdT k) pc = some (.invokevirtual ix, k', 0)) {md : MD} (hmd : mdT k' = md) (hk : recvOk G md.2.2.2 r = true) (hm : md.2.2.2 ≠ 100 ∧ md.1 = As.length) (hst : st = As.reverse ++ .ref r :: t) (hc : As.all (fun v => v.category == 1) = true) (h8 : catS t ≤ 8)
    (h : Q (.inr x, M', q + 1)) : E G d k (pc, L, st, M, q) Q := by
  subst hst; subst hmd
  refine E_thr hr hf (t := t) ?_ rfl rfl rfl rfl h
  simp only [opC]
  rw [cut_V hm hk]
  simp only []
  rw [if_pos ⟨h8, trivial, by rw [List.all_cons, hc]; rfl⟩]
theorem R_iret {x : Int32} {md : MD} (hf : fet (cdT k) pc = some (.ireturn, a, b)) (hmd : mdT k = md) (hr : retOk md.2.1 x = true) (h : Q (.inl (some (.int x)), M, q)) : E G d k (pc, L, [.int x], M, q) Q := E_iret hf (by rw [hmd]; exact hr) h
theorem R_lret {x : Int64} {md : MD} (hf : fet (cdT k) pc = some (.lreturn, a, b)) (hmd : mdT k = md) (hr : md.2.1 = 5) (h : Q (.inl (some (.long x)), M, q)) : E G d k (pc, L, [.long x], M, q) Q := E_lret hf (by rw [hmd]; exact hr) h
theorem R_vret {md : MD} (hf : fet (cdT k) pc = some (.return_, a, b)) (hmd : mdT k = md) (hr : md.2.1 = 0) (h : Q (.inl none, M, q)) : E G d k (pc, L, [], M, q) Q := E_vret hf (by rw [hmd]; exact hr) h
theorem R_start {As : List Value} {v : Option Value} {md : MD} (hk : k ≠ 200) (hmd : mdT k = md) (h : E G d k (0, entL As md.2.2.1, [], M, 0) (fun r => r = (.inl v, M', 0))) : Ret G (d + 1) k As M v M' := Ret_of hk (by rw [hmd]; exact h)
theorem T_start {As : List Value} {x : Nat} {md : MD} (hk : k ≠ 200) (hmd : mdT k = md) (h : E G d k (0, entL As md.2.2.1, [], M, 0) (fun r => r = (.inr x, M', 1))) : Thr G (d + 1) k As M x M' := Thr_of hk (by rw [hmd]; exact h)
theorem X_start {As : List Value} {P : Option Value → Mem → Prop} {md : MD} (hk : k ≠ 200) (hmd : mdT k = md) (h : E G d k (0, entL As md.2.2.1, [], M, 0) (fun r => ∃ v M', r = (.inl v, M', 0) ∧ P v M')) : ∃ v M', Ret G (d + 1) k As M v M' ∧ P v M' := by
  obtain ⟨r, h1, v, M', rfl, h2⟩ := Run_of hk (P := fun r => ∃ v M', r = (.inl v, M', 0) ∧ P v M') (by rw [hmd]; exact h)
  exact ⟨v, M', h1, h2⟩
end RUL2
