/-! ALARMS, on -/
def LI (M : Mem) (k i c : Nat) (M1 : Mem) : Prop := (∀ a s, a ≠ 385 → M1.1 a s = M.1 a s) ∧ (∀ a, M1.2 a = M.2 a) ∧ c ≤ i ∧ (∀ j, i ≤ j → M1.1 385 j = M.1 385 j) ∧ (∀ j, j < c → ∃ j0, j0 < i ∧ M1.1 385 j = M.1 385 j0 ∧ M.1 385 j0 ≠ nI k) ∧ (∀ j0, j0 < i → M.1 385 j0 ≠ nI k → ∃ j, j < c ∧ M1.1 385 j = M.1 385 j0) ∧ ∀ a b, a < b → b < c → M1.1 385 a ≠ M1.1 385 b
def LV (M : Mem) (n k : Nat) (M' : Mem) : Prop := AFr M M' ∧ M'.1 383 0 = M.1 383 0 ∧ (∀ s, M'.1 384 s = M.1 384 s) ∧ ∃ n', n' ≤ n ∧ M'.1 383 4 = nI n' ∧ (∀ j, j < n' → ∃ a, a < 8 ∧ M'.1 385 j = nI a) ∧ (∀ i j, i < j → j < n' → M'.1 385 i ≠ M'.1 385 j) ∧ ∀ x, x < 8 → (inR M' n' x ↔ inR M n x ∧ x ≠ k)
theorem LI_0 {M : Mem} {k : Nat} : LI M k 0 0 M := ⟨fun _ _ _ => rfl, fun _ => rfl, Nat.le_refl _, fun _ _ => rfl, fun j h => absurd h (Nat.not_lt_zero j), fun j h => absurd h (Nat.not_lt_zero j), fun a b _ h => absurd h (Nat.not_lt_zero b)⟩
theorem LI_s {M M1 : Mem} {k i c : Nat} (h : LI M k i c M1) (hk : M1.1 385 i = nI k) : LI M k (i + 1) c M1 := by
  obtain ⟨h1, h2, h3, h4, h5, h6, h7⟩ := h
  refine ⟨h1, h2, by omega, fun j hj => h4 j (by omega), fun j hj => ?_, fun j0 hj hne => ?_, h7⟩
  · obtain ⟨j0, a, b⟩ := h5 j hj
    exact ⟨j0, by omega, b⟩
  · by_cases e : j0 = i
    · subst e
      rw [← h4 j0 (Nat.le_refl _)] at hne
      exact absurd hk hne
    · exact h6 j0 (by omega) hne
theorem LI_k {M M1 : Mem} {k i c n : Nat} (hd : ∀ i j, i < j → j < n → M.1 385 i ≠ M.1 385 j) (hi : i < n) (h : LI M k i c M1) (hk : ¬ M1.1 385 i = nI k) : LI M k (i + 1) (c + 1) (pI M1 385 c (M1.1 385 i)) := by
  obtain ⟨h1, h2, h3, h4, h5, h6, h7⟩ := h
  have e0 : M1.1 385 i = M.1 385 i := h4 i (Nat.le_refl _)
  have old : ∀ j, j ≠ c → (pI M1 385 c (M1.1 385 i)).1 385 j = M1.1 385 j := fun j hj => pI_ne (Or.inr hj)
  have new : (pI M1 385 c (M1.1 385 i)).1 385 c = M.1 385 i := by rw [pI_at, e0]
  refine ⟨fun a s ha => by rw [pI_ne (Or.inl ha)]; exact h1 a s ha, h2, by omega, fun j hj => by rw [old j (by omega)]; exact h4 j (by omega), fun j hj => ?_, fun j0 hj hne => ?_, fun a b hab hb => ?_⟩
  · by_cases e : j = c
    · subst e
      exact ⟨i, by omega, new, by rw [← e0]; exact hk⟩
    · obtain ⟨j0, a, b⟩ := h5 j (by omega)
      exact ⟨j0, by omega, by rw [old j e]; exact b.1, b.2⟩
  · by_cases e : j0 = i
    · subst e
      exact ⟨c, by omega, new⟩
    · obtain ⟨j, a, b⟩ := h6 j0 (by omega) hne
      exact ⟨j, by omega, by rw [old j (by omega)]; exact b⟩
  · rw [old a (by omega)]
    by_cases e : b = c
    · subst e
      rw [new]
      obtain ⟨j0, q1, q2, -⟩ := h5 a hab
      rw [q2]
      exact hd j0 i q1 hi
    · rw [old b e]
      exact h7 a b hab (by omega)
theorem LV_of {M M1 : Mem} {n k c : Nat} {x : Int32} (hr : ∀ j, j < n → ∃ a, a < 8 ∧ M.1 385 j = nI a) (hk : k < 8) (h : LI M k n c M1) : LV M n k (pI (pI M1 383 4 (nI c)) 383 1 x) := by
  obtain ⟨h1, h2, h3, h4, h5, h6, h7⟩ := h
  have f : ∀ a s, a ≠ 383 → (pI (pI M1 383 4 (nI c)) 383 1 x).1 a s = M1.1 a s := fun a s ha => by rw [pI_ne (Or.inl ha), pI_ne (Or.inl ha)]
  refine ⟨⟨fun a s h1' h2' h3' => by rw [f a s h1']; exact h1 a s h3', h2⟩, ?_, fun s => by rw [f 384 s (by decide)]; exact h1 384 s (by decide), c, h3, ?_, fun j hj => ?_, fun i j hij hj => ?_, fun y hy => ⟨fun hz => ?_, fun hz => ?_⟩⟩
  · rw [pI_ne (Or.inr (by decide)), pI_ne (Or.inr (by decide))]
    exact h1 383 0 (by decide)
  · rw [pI_ne (Or.inr (by decide)), pI_at]
  · rw [f 385 j (by decide)]
    obtain ⟨j0, a, b, -⟩ := h5 j hj
    rw [b]
    exact hr j0 a
  · rw [f 385 i (by decide), f 385 j (by decide)]
    exact h7 i j hij hj
  · obtain ⟨j, hj, e⟩ := hz
    rw [f 385 j (by decide)] at e
    obtain ⟨j0, a, b, b2⟩ := h5 j hj
    exact ⟨⟨j0, a, b.symm.trans e⟩, fun z => b2 (by rw [← b, e, z])⟩
  · obtain ⟨⟨j0, a, b⟩, hne⟩ := hz
    obtain ⟨j, q1, q2⟩ := h6 j0 a (fun z => hne (nI_inj (by omega) (by omega) (b.symm.trans z)))
    exact ⟨j, q1, by rw [f 385 j (by decide), q2, b]⟩
section SP3
variable {G : MG} {d : Nat} {M : Mem}
theorem leaveRow_ok (hG : Core G) {n k : Nat} (hn : n ≤ 8) (hk : k < 8) (hl : M.1 383 4 = nI n) (hr : ∀ j, j < n → ∃ a, a < 8 ∧ M.1 385 j = nI a) (hd : ∀ i j, i < j → j < n → M.1 385 i ≠ M.1 385 j) : ∃ v M', Ret G (d + 1) 4 [.ref 383, .int (nI k)] M v M' ∧ (v = none ∧ LV M n k M') := by
  have loop : ∀ m i c M1, i + m = n → LI M k i c M1 → E G d 4 (4, [some (.ref 383), some (.int (nI k)), some (.int (nI c)), some (.int (nI i))], [], M1, 0) (fun r => ∃ v M', r = (.inl v, M', 0) ∧ (v = none ∧ LV M n k M')) := by
    intro m
    induction m with
    | zero =>
      intro i c M1 hi h
      have e : i = n := by omega
      subst e
      have hl1 : M1.1 383 4 = nI i := (h.1 383 4 (by decide)).trans hl
      refine E_iload_n fX0_leaveRow_4 rfl ?_
      refine E_aload_n fX0_leaveRow_5 rfl (by decide) ?_
      refine E_getI fX0_leaveRow_6 (k383 hG) (by decide) (by decide) (by decide) ?_
      refine E_icge (tg := 43) fX0_leaveRow_9 (by decide) (fun c_9 => ?_) (fun c => absurd (by rw [hl1]; exact Int32.le_refl _) c)
      refine E_aload_n fX0_leaveRow_43 rfl (by decide) ?_
      refine E_iload_n fX0_leaveRow_44 rfl ?_
      refine E_putI fX0_leaveRow_45 (k383 hG) (by decide) rfl ?_
      refine E_aload_n fX0_leaveRow_48 rfl (by decide) ?_
      refine E_dup fX0_leaveRow_49 rfl ?_
      refine E_getI fX0_leaveRow_50 (k383 hG) (by decide) (by decide) (by decide) ?_
      refine E_iconst (v := 1) fX0_leaveRow_53 (by decide) ?_
      refine E_iload_n fX0_leaveRow_54 rfl ?_
      refine E_ishl fX0_leaveRow_55 ?_
      refine E_iconst (v := (-1)) fX0_leaveRow_56 (by decide) ?_
      refine E_ixor fX0_leaveRow_57 ?_
      refine E_iand fX0_leaveRow_58 ?_
      refine E_putI fX0_leaveRow_59 (k383 hG) (by decide) rfl ?_
      exact R_vret fX0_leaveRow_62 mX0_leaveRow rfl ⟨none, _, rfl, rfl, LV_of hr hk h⟩
    | succ m ih =>
      intro i c M1 hi h
      have hlt : i < n := by omega
      have hl1 : M1.1 383 4 = nI n := (h.1 383 4 (by decide)).trans hl
      have hci := h.2.2.1
      refine E_iload_n fX0_leaveRow_4 rfl ?_
      refine E_aload_n fX0_leaveRow_5 rfl (by decide) ?_
      refine E_getI fX0_leaveRow_6 (k383 hG) (by decide) (by decide) (by decide) ?_
      refine E_icge (tg := 43) fX0_leaveRow_9 (by decide) (fun c => absurd (hl1 ▸ c) (nI_ge hlt (by omega))) (fun c_9 => ?_)
      refine E_aload_n fX0_leaveRow_12 rfl (by decide) ?_
      refine E_getR (r' := 385) fX0_leaveRow_13 (k383 hG) (by decide) (by decide) (by decide) rfl ?_
      refine E_iload_n fX0_leaveRow_16 rfl ?_
      refine E_iald (n := i) (K := 20) fX0_leaveRow_17 (k385 hG) ⟨by decide, by decide⟩ (by decide) rfl (by show i < 8; omega) ?_
      refine E_iload_n fX0_leaveRow_18 rfl ?_
      refine E_iceq (tg := 37) fX0_leaveRow_19 (by decide) (fun c_19 => ?_) (fun c_19 => ?_)
      · refine E_iinc (v := nI (i + 1)) (L' := [some (.ref 383), some (.int (nI k)), some (.int (nI c)), some (.int (nI (i + 1)))]) fX0_leaveRow_37 rfl (inc1 _) rfl ?_
        refine E_goto (tg := 4) fX0_leaveRow_40 (by decide) ?_
        exact ih (i + 1) c _ (by omega) (LI_s h c_19)
      · refine E_aload_n fX0_leaveRow_22 rfl (by decide) ?_
        refine E_getR (r' := 385) fX0_leaveRow_23 (k383 hG) (by decide) (by decide) (by decide) rfl ?_
        refine E_iload_n fX0_leaveRow_26 rfl ?_
        refine E_aload_n fX0_leaveRow_27 rfl (by decide) ?_
        refine E_getR (r' := 385) fX0_leaveRow_28 (k383 hG) (by decide) (by decide) (by decide) rfl ?_
        refine E_iload_n fX0_leaveRow_31 rfl ?_
        refine E_iald (n := i) (K := 20) fX0_leaveRow_32 (k385 hG) ⟨by decide, by decide⟩ (by decide) rfl (by show i < 8; omega) ?_
        refine E_iast (n := c) (K := 20) fX0_leaveRow_33 (k385 hG) ⟨by decide, by decide⟩ (by decide) rfl (by show c < 8; omega) ?_
        refine E_iinc (v := nI (c + 1)) (L' := [some (.ref 383), some (.int (nI k)), some (.int (nI (c + 1))), some (.int (nI i))]) fX0_leaveRow_34 rfl (inc1 _) rfl ?_
        refine E_iinc (v := nI (i + 1)) (L' := [some (.ref 383), some (.int (nI k)), some (.int (nI (c + 1))), some (.int (nI (i + 1)))]) fX0_leaveRow_37 rfl (inc1 _) rfl ?_
        refine E_goto (tg := 4) fX0_leaveRow_40 (by decide) ?_
        exact ih (i + 1) (c + 1) _ (by omega) (LI_k hd hlt h c_19)
  refine X_start (by decide) mX0_leaveRow ?_
  show E _ _ _ (0, [some (.ref 383), some (.int (nI k)), none, none], [], M, 0) _
  refine E_iconst (v := 0) fX0_leaveRow_0 (by decide) ?_
  refine E_istore_n (L' := [some (.ref 383), some (.int (nI k)), some (.int 0), none]) fX0_leaveRow_1 rfl (Nat.le_of_ble_eq_true rfl) ?_
  refine E_iconst (v := 0) fX0_leaveRow_2 (by decide) ?_
  refine E_istore_n (L' := [some (.ref 383), some (.int (nI k)), some (.int 0), some (.int 0)]) fX0_leaveRow_3 rfl (Nat.le_of_ble_eq_true rfl) ?_
  exact loop n 0 0 M (by omega) LI_0
/-- what k's leaving leaves of the invariant, when k is shelved or not there -/
theorem ai_leave {M M' : Mem} {n k : Nat} (hL : LV M n k M') (h5 : ∀ k, k < 8 → ∃ s, s < 2 ^ 31 ∧ M.1 384 k = nI s) (hn : n ≤ 8) (h6 : ∀ q, q < 8 → q ≠ k → M.1 384 q ≠ 0 → ¬ inR M n q) (h7 : ∀ q, q < 8 → q ≠ k → isB1 (M.1 383 0) (nI q) → M.1 384 q = 0 → inR M n q) (hk : isB1 (M.1 383 0) (nI k) → M.1 384 k = 0 → False) : AI M' := by
  obtain ⟨a1, a2, a3, n', b1, b2, b3, b4, b5⟩ := hL
  refine ⟨n', by omega, b2, b3, b4, fun q hq => by rw [a3]; exact h5 q hq, fun q hq hs hz => ?_, fun q hq hb hs => ?_⟩
  · rw [a3] at hs
    obtain ⟨c1, c2⟩ := (b5 q hq).mp hz
    exact h6 q hq c2 hs c1
  · rw [a3] at hs
    rw [a2] at hb
    by_cases e : q = k
    · subst e; exact (hk hb hs).elim
    · exact (b5 q hq).mpr ⟨h7 q hq e hb hs, e⟩
/-! ===== Int32 by its bits: bt x i ===== -/
def bt (x : Int32) (i : Nat) : Bool := x.toBitVec.getLsbD i
theorem b_ext {x y : Int32} (h : ∀ i, i < 32 → bt x i = bt y i) : x = y := Int32.toBitVec_inj.mp (BitVec.eq_of_getLsbD_eq (fun i hi => h i hi))
theorem b_or (x y : Int32) (i : Nat) : bt (x ||| y) i = (bt x i || bt y i) := by unfold bt; rw [Int32.toBitVec_or, BitVec.getLsbD_or]
theorem b_and (x y : Int32) (i : Nat) : bt (x &&& y) i = (bt x i && bt y i) := by unfold bt; rw [Int32.toBitVec_and, BitVec.getLsbD_and]
theorem b_xor (x y : Int32) (i : Nat) : bt (x ^^^ y) i = (bt x i ^^ bt y i) := by unfold bt; rw [Int32.toBitVec_xor, BitVec.getLsbD_xor]
theorem b_big {x : Int32} {i : Nat} (h : 32 ≤ i) : bt x i = false := BitVec.getLsbD_of_ge _ _ h
theorem b_255 (i : Nat) : bt 255 i = decide (i < 8) := by
  rcases Nat.lt_or_ge i 32 with h | h
  · exact (by decide +kernel : ∀ i, i < 32 → bt 255 i = decide (i < 8)) i h
  · rw [b_big h, decide_eq_false (by omega)]
theorem b_65535 (i : Nat) : bt 65535 i = decide (i < 16) := by
  rcases Nat.lt_or_ge i 32 with h | h
  · exact (by decide +kernel : ∀ i, i < 32 → bt 65535 i = decide (i < 16)) i h
  · rw [b_big h, decide_eq_false (by omega)]
theorem b_m1 : ∀ i, i < 32 → bt (-1) i = true := by decide +kernel
theorem b_0 (i : Nat) : bt 0 i = false := BitVec.getLsbD_zero
theorem s_l : ∀ n, n < 32 → ((nI n &&& 31).toBitVec.smod 32).toNat = n := by decide +kernel
theorem s_u : ∀ n, n < 32 → (((nI n).toUInt32 &&& Int32.toUInt32 31).toBitVec % 32).toNat = n := by decide +kernel
theorem b_shl (n : Nat) (hn : n < 32) (x : Int32) {i : Nat} (hi : i < 32) : bt (x <<< (nI n &&& 31)) i = (decide (n ≤ i) && bt x (i - n)) := by
  unfold bt
  rw [Int32.toBitVec_shiftLeft]
  show (x.toBitVec <<< ((nI n &&& 31).toBitVec.smod 32).toNat).getLsbD i = _
  rw [s_l n hn, BitVec.getLsbD_shiftLeft]
  rcases Nat.lt_or_ge i n with h | h
  · simp [h, Nat.not_le.mpr h]
  · simp [hi, h, Nat.not_lt.mpr h]
theorem b_ushr (n : Nat) (hn : n < 32) (x : Int32) (i : Nat) : bt ((x.toUInt32 >>> ((nI n).toUInt32 &&& Int32.toUInt32 31)).toInt32) i = bt x (n + i) := by
  show (x.toUInt32 >>> ((nI n).toUInt32 &&& Int32.toUInt32 31)).toBitVec.getLsbD i = x.toUInt32.toBitVec.getLsbD (n + i)
  rw [UInt32.toBitVec_shiftRight]
  show (x.toUInt32.toBitVec >>> (((nI n).toUInt32 &&& Int32.toUInt32 31).toBitVec % 32).toNat).getLsbD i = _
  rw [s_u n hn, BitVec.getLsbD_ushiftRight]
theorem b_sshr (n : Nat) (hn : n < 32) (x : Int32) {i : Nat} (hi : i < 32) : bt (x >>> (nI n &&& 31)) i = if n + i < 32 then bt x (n + i) else bt x 31 := by
  unfold bt
  rw [Int32.toBitVec_shiftRight]
  show (x.toBitVec.sshiftRight ((nI n &&& 31).toBitVec.smod 32).toNat).getLsbD i = _
  rw [s_l n hn, BitVec.getLsbD_sshiftRight, BitVec.msb_eq_getLsbD_last]
  simp [hi]
theorem b_shl8 (x : Int32) {i : Nat} (hi : i < 32) : bt (x <<< ((8 : Int32) &&& 31)) i = (decide (8 ≤ i) && bt x (i - 8)) := b_shl 8 (by omega) x hi
theorem b_shl16 (x : Int32) {i : Nat} (hi : i < 32) : bt (x <<< ((16 : Int32) &&& 31)) i = (decide (16 ≤ i) && bt x (i - 16)) := b_shl 16 (by omega) x hi
theorem b_shl24 (x : Int32) {i : Nat} (hi : i < 32) : bt (x <<< ((24 : Int32) &&& 31)) i = (decide (24 ≤ i) && bt x (i - 24)) := b_shl 24 (by omega) x hi
theorem b_sshr8 (x : Int32) {i : Nat} (hi : i < 32) : bt (x >>> ((8 : Int32) &&& 31)) i = if 8 + i < 32 then bt x (8 + i) else bt x 31 := b_sshr 8 (by omega) x hi
theorem b_1 (i : Nat) : bt 1 i = decide (i = 0) := by
  rcases Nat.lt_or_ge i 32 with h | h
  · exact (by decide +kernel : ∀ i, i < 32 → bt 1 i = decide (i = 0)) i h
  · rw [b_big h, decide_eq_false (by omega)]
theorem and1 (x : Int32) : x &&& 1 = 1 ↔ bt x 0 = true := by
  constructor
  · intro h
    have h2 : bt (x &&& 1) 0 = bt 1 0 := by rw [h]
    rw [b_and, b_1] at h2
    simpa using h2
  · intro h
    refine b_ext fun i hi => ?_
    rw [b_and, b_1]
    by_cases e : i = 0
    · subst e; simp [h]
    · simp [e]
theorem isB1_iff {b : Int32} {i : Nat} (hi : i < 32) : isB1 b (nI i) ↔ bt b i = true := by
  unfold isB1 bitS
  rw [and1, b_ushr i hi, Nat.add_zero]
theorem bt_sh1 {k i : Nat} (hk : k < 32) (hi : i < 32) : bt ((1 : Int32) <<< (nI k &&& 31)) i = decide (i = k) := by
  rw [b_shl k hk 1 hi, b_1]
  by_cases e : i = k
  · subst e; simp
  · by_cases h : k ≤ i
    · have : ¬ i - k = 0 := by omega
      simp [h, this, e]
    · simp [h, e]
theorem bt_set {b : Int32} {k i : Nat} (hk : k < 32) (hi : i < 32) : bt (b ||| ((1 : Int32) <<< (nI k &&& 31))) i = (bt b i || decide (i = k)) := by rw [b_or, bt_sh1 hk hi]
theorem bt_clr {b : Int32} {k i : Nat} (hk : k < 32) (hi : i < 32) : bt (b &&& (((1 : Int32) <<< (nI k &&& 31)) ^^^ (-1))) i = (bt b i && !decide (i = k)) := by
  rw [b_and, b_xor, bt_sh1 hk hi, b_m1 i hi]
  by_cases e : i = k <;> simp [e]
theorem bset_ne {b : Int32} {q k : Nat} (hq : q < 8) (hk : k < 8) (hne : q ≠ k) (h : isB1 (b ||| ((1 : Int32) <<< (nI k &&& 31))) (nI q)) : isB1 b (nI q) := by
  rw [isB1_iff (by omega), bt_set (by omega) (by omega)] at h
  rw [isB1_iff (by omega)]
  simpa [hne] using h
theorem bclr_ne {b : Int32} {q k : Nat} (hq : q < 8) (hk : k < 8) (h : isB1 (b &&& (((1 : Int32) <<< (nI k &&& 31)) ^^^ (-1))) (nI q)) : isB1 b (nI q) ∧ q ≠ k := by
  rw [isB1_iff (by omega), bt_clr (by omega) (by omega)] at h
  rw [isB1_iff (by omega)]
  simpa using h

theorem appear_ok (hG : Core G) {k : Nat} (hk : k < 8) (hA : AI M) : ∃ v M', Ret G (d + 2) 5 [.ref 383, .int (nI k)] M v M' ∧ (v = none ∧ AI M' ∧ AFr M M') := by
  obtain ⟨n, hn, hl, h3, h4, h5, h6, h7⟩ := id hA
  refine X_start (d := d + 1) (by decide) mX0_appear ?_
  show E _ _ _ (0, [some (.ref 383), some (.int (nI k))], [], M, 0) _
  refine E_aload_n fX0_appear_0 rfl (by decide) ?_
  refine E_getI fX0_appear_1 (k383 hG) (by decide) (by decide) (by decide) ?_
  refine E_iload_n fX0_appear_4 rfl ?_
  refine E_callS (t := []) (isSet_ok (M.1 383 0) (nI k)) fX0_appear_5 (by decide) mX9_isSet ⟨rfl, rfl⟩ rfl rfl (by decide) ?_
  refine E_ifne (tg := 37) fX0_appear_8 (by decide) (fun c_8 => ?_) (fun c_8 => ?_)
  · exact R_vret fX0_appear_37 mX0_appear rfl ⟨none, _, rfl, rfl, hA, AFr.rf⟩
  · refine E_aload_n fX0_appear_11 rfl (by decide) ?_
    refine E_dup fX0_appear_12 rfl ?_
    refine E_getI fX0_appear_13 (k383 hG) (by decide) (by decide) (by decide) ?_
    refine E_iconst (v := 1) fX0_appear_16 (by decide) ?_
    refine E_iload_n fX0_appear_17 rfl ?_
    refine E_ishl fX0_appear_18 ?_
    refine E_ior fX0_appear_19 ?_
    refine E_putI fX0_appear_20 (k383 hG) (by decide) rfl ?_
    refine E_aload_n fX0_appear_23 rfl (by decide) ?_
    refine E_getR (r' := 384) fX0_appear_24 (k383 hG) (by decide) (by decide) (by decide) rfl ?_
    refine E_iload_n fX0_appear_27 rfl ?_
    refine E_iald (n := k) (K := 20) fX0_appear_28 (k384 hG) ⟨by decide, by decide⟩ (by decide) rfl (by show k < 8; omega) ?_
    refine E_ifne (tg := 37) fX0_appear_29 (by decide) (fun c_29 => ?_) (fun c_29 => ?_)
    · exact R_vret fX0_appear_37 mX0_appear rfl ⟨none, _, rfl, rfl, ⟨n, hn, hl, h3, h4, h5, h6, fun q hq hb hs => by
          by_cases e : q = k
          · subst e; exact absurd hs c_29
          · exact h7 q hq (bset_ne hq hk e hb) hs⟩, AFr.rf.pI (by omega)⟩
    · refine E_aload_n fX0_appear_32 rfl (by decide) ?_
      refine E_iload_n fX0_appear_33 rfl ?_
      have e4 : (pI M 383 0 ((M.1 383 0) ||| (1 <<< ((nI k) &&& 31)))).1 383 4 = nI n := hl
      have e1 : (pI M 383 0 ((M.1 383 0) ||| (1 <<< ((nI k) &&& 31)))).1 384 k = 0 := c_29
      refine E_callV (t := []) (enterRow_ok hG hn e4) fX0_appear_34 mX0_enterRow (rc_obj (k383 hG) (by decide) (by decide)) ⟨by decide, rfl⟩ rfl rfl (by decide) ?_
      exact R_vret fX0_appear_37 mX0_appear rfl ⟨none, _, rfl, rfl, ain_ent (M := (pI M 383 0 (M.1 383 0 ||| 1 <<< (nI k &&& 31)))) hn e4 h3 h4 h5 h6 hk e1 (fun q hq hne hb hs => h7 q hq (bset_ne hq hk hne hb) hs), (AFr.rf.pI (by omega)).tr entR_fr⟩
theorem vanish_ok (hG : Core G) {k : Nat} (hk : k < 8) (hA : AI M) : ∃ v M', Ret G (d + 2) 6 [.ref 383, .int (nI k)] M v M' ∧ (v = none ∧ AI M' ∧ AFr M M') := by
  obtain ⟨n, hn, hl, h3, h4, h5, h6, h7⟩ := id hA
  refine X_start (d := d + 1) (by decide) mX0_vanish ?_
  show E _ _ _ (0, [some (.ref 383), some (.int (nI k))], [], M, 0) _
  refine E_aload_n fX0_vanish_0 rfl (by decide) ?_
  refine E_dup fX0_vanish_1 rfl ?_
  refine E_getI fX0_vanish_2 (k383 hG) (by decide) (by decide) (by decide) ?_
  refine E_iconst (v := 1) fX0_vanish_5 (by decide) ?_
  refine E_iload_n fX0_vanish_6 rfl ?_
  refine E_ishl fX0_vanish_7 ?_
  refine E_iconst (v := (-1)) fX0_vanish_8 (by decide) ?_
  refine E_ixor fX0_vanish_9 ?_
  refine E_iand fX0_vanish_10 ?_
  refine E_putI fX0_vanish_11 (k383 hG) (by decide) rfl ?_
  refine E_aload_n fX0_vanish_14 rfl (by decide) ?_
  refine E_getI fX0_vanish_15 (k383 hG) (by decide) (by decide) (by decide) ?_
  refine E_iload_n fX0_vanish_18 rfl ?_
  refine E_callS (t := []) (isSet_ok ((pI M 383 0 ((M.1 383 0) &&& ((1 <<< ((nI k) &&& 31)) ^^^ (-1)))).1 383 1) (nI k)) fX0_vanish_19 (by decide) mX9_isSet ⟨rfl, rfl⟩ rfl rfl (by decide) ?_
  refine E_ifeq (tg := 30) fX0_vanish_22 (by decide) (fun c_22 => ?_) (fun c_22 => ?_)
  · exact R_vret fX0_vanish_30 mX0_vanish rfl ⟨none, _, rfl, rfl, ⟨n, hn, hl, h3, h4, h5, h6, fun q hq hb hs => h7 q hq (bclr_ne hq hk hb).1 hs⟩, AFr.rf.pI (by omega)⟩
  · refine E_aload_n fX0_vanish_25 rfl (by decide) ?_
    refine E_iload_n fX0_vanish_26 rfl ?_
    obtain ⟨v', M', hR, rfl, hLV⟩ := leaveRow_ok (d := d) (M := (pI M 383 0 ((M.1 383 0) &&& ((1 <<< ((nI k) &&& 31)) ^^^ (-1))))) hG hn hk hl h3 h4
    refine E_callV (t := []) hR fX0_vanish_27 mX0_leaveRow (rc_obj (k383 hG) (by decide) (by decide)) ⟨by decide, rfl⟩ rfl rfl (by decide) ?_
    exact R_vret fX0_vanish_30 mX0_vanish rfl ⟨none, _, rfl, rfl, ai_leave hLV h5 hn (fun q hq _ hs => h6 q hq hs) (fun q hq _ hb hs => h7 q hq (bclr_ne hq hk hb).1 hs) (fun hb _ => (bclr_ne hk hk hb).2 rfl), (AFr.rf.pI (by omega)).tr hLV.1⟩
theorem confirm_ok (hG : Core G) {k : Nat} (hk : k < 8) (hA : AI M) : ∃ v M', Ret G (d + 2) 7 [.ref 383, .int (nI k)] M v M' ∧ (v = none ∧ AI M' ∧ AFr M M') := by
  obtain ⟨n, hn, hl, h3, h4, h5, h6, h7⟩ := id hA
  refine X_start (d := d + 1) (by decide) mX0_confirm ?_
  show E _ _ _ (0, [some (.ref 383), some (.int (nI k))], [], M, 0) _
  refine E_aload_n fX0_confirm_0 rfl (by decide) ?_
  refine E_getI fX0_confirm_1 (k383 hG) (by decide) (by decide) (by decide) ?_
  refine E_iload_n fX0_confirm_4 rfl ?_
  refine E_callS (t := []) (isSet_ok (M.1 383 0) (nI k)) fX0_confirm_5 (by decide) mX9_isSet ⟨rfl, rfl⟩ rfl rfl (by decide) ?_
  refine E_ifeq (tg := 26) fX0_confirm_8 (by decide) (fun c_8 => ?_) (fun c_8 => ?_)
  · refine E_aload_n fX0_confirm_26 rfl (by decide) ?_
    refine E_iload_n fX0_confirm_27 rfl ?_
    obtain ⟨v', M', hR, rfl, hLV⟩ := leaveRow_ok (d := d) (M := M) hG hn hk hl h3 h4
    refine E_callV (t := []) hR fX0_confirm_28 mX0_leaveRow (rc_obj (k383 hG) (by decide) (by decide)) ⟨by decide, rfl⟩ rfl rfl (by decide) ?_
    exact R_vret fX0_confirm_31 mX0_confirm rfl ⟨none, _, rfl, rfl, ai_leave hLV h5 hn (fun q hq _ hs => h6 q hq hs) (fun q hq _ hb hs => h7 q hq hb hs) (fun hb _ => bI_0.mp c_8 hb), hLV.1⟩
  · refine E_aload_n fX0_confirm_11 rfl (by decide) ?_
    refine E_dup fX0_confirm_12 rfl ?_
    refine E_getI fX0_confirm_13 (k383 hG) (by decide) (by decide) (by decide) ?_
    refine E_iconst (v := 1) fX0_confirm_16 (by decide) ?_
    refine E_iload_n fX0_confirm_17 rfl ?_
    refine E_ishl fX0_confirm_18 ?_
    refine E_ior fX0_confirm_19 ?_
    refine E_putI fX0_confirm_20 (k383 hG) (by decide) rfl ?_
    refine E_goto (tg := 31) fX0_confirm_23 (by decide) ?_
    exact R_vret fX0_confirm_31 mX0_confirm rfl ⟨none, _, rfl, rfl, ⟨n, hn, hl, h3, h4, h5, h6, h7⟩, AFr.rf.pI (by omega)⟩
theorem putAway_ok (hG : Core G) {k u : Nat} (hk : k < 8) (hu : u < 2 ^ 31) (hA : AI M) : ∃ v M', Ret G (d + 2) 8 [.ref 383, .int (nI k), .int (nI u)] M v M' ∧ (v = none ∧ AI M' ∧ AFr M M') := by
  obtain ⟨n, hn, hl, h3, h4, h5, h6, h7⟩ := id hA
  refine X_start (d := d + 1) (by decide) mX0_putAway ?_
  show E _ _ _ (0, [some (.ref 383), some (.int (nI k)), some (.int (nI u))], [], M, 0) _
  refine E_aload_n fX0_putAway_0 rfl (by decide) ?_
  refine E_getR (r' := 384) fX0_putAway_1 (k383 hG) (by decide) (by decide) (by decide) rfl ?_
  refine E_iload_n fX0_putAway_4 rfl ?_
  refine E_iload_n fX0_putAway_5 rfl ?_
  refine E_iast (n := k) (K := 20) fX0_putAway_6 (k384 hG) ⟨by decide, by decide⟩ (by decide) rfl (by show k < 8; omega) ?_
  have e5 : ∀ q, q < 8 → ∃ s, s < 2 ^ 31 ∧ (pI M 384 k (nI u)).1 384 q = nI s := fun q hq => by
    by_cases e : q = k
    · subst e; exact ⟨u, hu, pI_at⟩
    · rw [pI_ne (Or.inr e)]; exact h5 q hq
  refine E_iload_n fX0_putAway_7 rfl ?_
  refine E_ifle (tg := 19) fX0_putAway_8 (by decide) (fun c_8 => ?_) (fun c_8 => ?_)
  · have u0 : nI u = 0 := Int32.le_antisymm c_8 (nI_pos' hu)
    refine E_aload_n fX0_putAway_19 rfl (by decide) ?_
    refine E_getI fX0_putAway_20 (k383 hG) (by decide) (by decide) (by decide) ?_
    refine E_iload_n fX0_putAway_23 rfl ?_
    refine E_callS (t := []) (isSet_ok ((pI M 384 k (nI u)).1 383 0) (nI k)) fX0_putAway_24 (by decide) mX9_isSet ⟨rfl, rfl⟩ rfl rfl (by decide) ?_
    refine E_ifeq (tg := 35) fX0_putAway_27 (by decide) (fun c_27 => ?_) (fun c_27 => ?_)
    · exact R_vret fX0_putAway_35 mX0_putAway rfl ⟨none, _, rfl, rfl, ⟨n, hn, hl, h3, h4, e5, fun q hq hs => by
          by_cases e : q = k
          · subst e; rw [pI_at] at hs; exact absurd u0 hs
          · rw [pI_ne (Or.inr e)] at hs; exact h6 q hq hs, fun q hq hb hs => by
          by_cases e : q = k
          · subst e; exact absurd hb (bI_0.mp c_27)
          · rw [pI_ne (Or.inr e)] at hs; exact h7 q hq hb hs⟩, AFr.rf.pI (by omega)⟩
    · refine E_aload_n fX0_putAway_30 rfl (by decide) ?_
      refine E_iload_n fX0_putAway_31 rfl ?_
      have e4 : (pI M 384 k (nI u)).1 383 4 = nI n := hl
      refine E_callV (t := []) (enterRow_ok hG hn e4) fX0_putAway_32 mX0_enterRow (rc_obj (k383 hG) (by decide) (by decide)) ⟨by decide, rfl⟩ rfl rfl (by decide) ?_
      exact R_vret fX0_putAway_35 mX0_putAway rfl ⟨none, _, rfl, rfl, ain_ent (M := (pI M 384 k (nI u))) hn e4 h3 h4 e5 (fun q hq hs => by
          by_cases e : q = k
          · subst e; rw [pI_at] at hs; exact absurd u0 hs
          · rw [pI_ne (Or.inr e)] at hs; exact h6 q hq hs) hk (by rw [pI_at]; exact u0) (fun q hq e hb hs => by rw [pI_ne (Or.inr e)] at hs; exact h7 q hq hb hs), (AFr.rf.pI (by omega)).tr entR_fr⟩
  · refine E_aload_n fX0_putAway_11 rfl (by decide) ?_
    refine E_iload_n fX0_putAway_12 rfl ?_
    obtain ⟨v', M', hR, rfl, hLV⟩ := leaveRow_ok (d := d) (M := (pI M 384 k (nI u))) hG hn hk hl h3 h4
    refine E_callV (t := []) hR fX0_putAway_13 mX0_leaveRow (rc_obj (k383 hG) (by decide) (by decide)) ⟨by decide, rfl⟩ rfl rfl (by decide) ?_
    refine E_goto (tg := 35) fX0_putAway_16 (by decide) ?_
    exact R_vret fX0_putAway_35 mX0_putAway rfl ⟨none, _, rfl, rfl, ai_leave hLV e5 hn (fun q hq e hs => by rw [pI_ne (Or.inr e)] at hs; exact h6 q hq hs) (fun q hq e hb hs => by rw [pI_ne (Or.inr e)] at hs; exact h7 q hq hb hs) (fun _ hs => by rw [pI_at] at hs; rw [hs] at c_8; exact absurd c_8 (by decide)), (AFr.rf.pI (by omega)).tr hLV.1⟩
end SP3
