theorem fb_holes : ∀ (m n : Nat) (f : Nat → Nat), (∀ i, i < n → f i < m) → (∀ i j, i < j → j < n → f i ≠ f j) → n ≤ m := by
  intro m
  induction m with
  | zero =>
    intro n f h1 _
    rcases Nat.eq_zero_or_pos n with h | h
    · omega
    · exact absurd (h1 0 h) (Nat.not_lt_zero _)
  | succ m ih =>
    intro n f h1 h2
    by_cases hx : ∃ i, i < n ∧ f i = m
    · obtain ⟨a, ha, hfa⟩ := hx
      have hg := ih (n - 1) (fun i => if i < a then f i else f (i + 1)) (by
        intro i hi
        by_cases q : i < a
        · simp only [if_pos q]
          have b1 := h1 i (by omega)
          have b2 := h2 i a q ha
          omega
        · simp only [if_neg q]
          have b1 := h1 (i + 1) (by omega)
          have b2 := h2 a (i + 1) (by omega) (by omega)
          omega) (by
        intro i j hij hj
        by_cases q : i < a
        · by_cases r : j < a
          · simp only [if_pos q, if_pos r]
            exact h2 i j hij (by omega)
          · simp only [if_pos q, if_neg r]
            exact h2 i (j + 1) (by omega) (by omega)
        · have r : ¬ j < a := by omega
          simp only [if_neg q, if_neg r]
          exact h2 (i + 1) (j + 1) (by omega) (by omega))
      omega
    · have hg := ih n f (fun i hi => by
        have b1 := h1 i hi
        have b2 : f i ≠ m := fun e => hx ⟨i, hi, e⟩
        omega) h2
      omega
/-- two of them in one place -/
theorem fb_twice {m n : Nat} {f : Nat → Nat} (h : ∀ i, i < n → f i < m) (hm : m < n) : ∃ i j, i < j ∧ j < n ∧ f i = f j := by
  refine Classical.byContradiction fun hx => ?_
  have := fb_holes m n f h (fun i j hij hj e => hx ⟨i, j, hij, hj, e⟩)
  omega
/-- as many as places, none twice: each place is taken -/
theorem fb_onto {n : Nat} {f : Nat → Nat} (h : ∀ i, i < n → f i < n) (h2 : ∀ i j, i < j → j < n → f i ≠ f j) {y : Nat} (hy : y < n) : ∃ i, i < n ∧ f i = y := by
  refine Classical.byContradiction fun hx => ?_
  have hne : ∀ i, i < n → f i ≠ y := fun i hi e => hx ⟨i, hi, e⟩
  have := fb_holes (n - 1) n (fun i => if f i < y then f i else f i - 1) (by
    intro i hi
    have b1 := h i hi
    have b2 := hne i hi
    by_cases q : f i < y
    · simp only [if_pos q]; omega
    · simp only [if_neg q]; omega) (by
    intro i j hij hj
    have b1 := hne i (by omega)
    have b2 := hne j hj
    have b3 := h2 i j hij hj
    by_cases q : f i < y
    · by_cases r : f j < y
      · simp only [if_pos q, if_pos r]; exact b3
      · simp only [if_pos q, if_neg r]; omega
    · by_cases r : f j < y
      · simp only [if_neg q, if_pos r]; omega
      · simp only [if_neg q, if_neg r]; omega)
  omega
/-! ===== how many places have a property ===== -/
def fb_ct (p : Nat → Bool) : Nat → Nat
  | 0 => 0
  | n + 1 => fb_ct p n + (if p n then 1 else 0)
theorem fb_ct_succ (p : Nat → Bool) (n : Nat) : fb_ct p (n + 1) = fb_ct p n + (if p n then 1 else 0) := rfl
theorem fb_ct_le (p : Nat → Bool) : ∀ n, fb_ct p n ≤ n
  | 0 => Nat.le_refl _
  | n + 1 => by
    have h := fb_ct_le p n
    rw [fb_ct_succ]
    split <;> omega
theorem fb_ct_step (p : Nat → Bool) (m : Nat) : ∀ n, fb_ct p m ≤ fb_ct p (m + n)
  | 0 => Nat.le_refl _
  | n + 1 => by
    have h := fb_ct_step p m n
    show fb_ct p m ≤ fb_ct p (m + n + 1)
    rw [fb_ct_succ]
    omega
theorem fb_ct_mono (p : Nat → Bool) {m n : Nat} (h : m ≤ n) : fb_ct p m ≤ fb_ct p n := by
  have := fb_ct_step p m (n - m)
  rwa [Nat.add_sub_cancel' h] at this
theorem fb_ct_cong {p q : Nat → Bool} : ∀ {n : Nat}, (∀ k, k < n → p k = q k) → fb_ct p n = fb_ct q n
  | 0, _ => rfl
  | n + 1, h => by
    rw [fb_ct_succ, fb_ct_succ, fb_ct_cong (fun k hk => h k (by omega)), h n (by omega)]
/-! ALARMS: the row, and what stays true of it -/
def inR (M : Mem) (n k : Nat) : Prop := ∃ j, j < n ∧ M.1 385 j = nI k
def AIn (M : Mem) (n : Nat) : Prop := n ≤ 8 ∧ M.1 383 4 = nI n ∧ (∀ j, j < n → ∃ a, a < 8 ∧ M.1 385 j = nI a) ∧ (∀ i j, i < j → j < n → M.1 385 i ≠ M.1 385 j) ∧ (∀ k, k < 8 → ∃ s, s < 2 ^ 31 ∧ M.1 384 k = nI s) ∧ (∀ k, k < 8 → M.1 384 k ≠ 0 → ¬ inR M n k) ∧ (∀ k, k < 8 → isB1 (M.1 383 0) (nI k) → M.1 384 k = 0 → inR M n k)
def AI (M : Mem) : Prop := ∃ n, AIn M n
/-- nothing but alarms is changed -/
def AFr (M M' : Mem) : Prop := (∀ c s, c ≠ 383 → c ≠ 384 → c ≠ 385 → M'.1 c s = M.1 c s) ∧ ∀ c, M'.2 c = M.2 c
theorem AFr.rf {M : Mem} : AFr M M := ⟨fun _ _ _ _ _ => rfl, fun _ => rfl⟩
theorem AFr.tr {M M1 M2 : Mem} (h : AFr M M1) (h2 : AFr M1 M2) : AFr M M2 := ⟨fun c s a b e => (h2.1 c s a b e).trans (h.1 c s a b e), fun c => (h2.2 c).trans (h.2 c)⟩
theorem AFr.pI {M M1 : Mem} (h : AFr M M1) {r k : Nat} {x : Int32} (hr : r = 383 ∨ r = 384 ∨ r = 385) : AFr M (pI M1 r k x) := ⟨fun c s a b e => by
  show (if c = r ∧ s = k then x else M1.1 c s) = _
  rw [if_neg (by rintro ⟨z, -⟩; omega)]
  exact h.1 c s a b e, h.2⟩
theorem pI_at {M : Mem} {r k : Nat} {x : Int32} : (pI M r k x).1 r k = x := if_pos ⟨rfl, rfl⟩
theorem pI_ne {M : Mem} {r k c s : Nat} {x : Int32} (h : c ≠ r ∨ s ≠ k) : (pI M r k x).1 c s = M.1 c s := if_neg (by rintro ⟨z1, z2⟩; rcases h with h | h <;> contradiction)
theorem nI_inj {a b : Nat} (ha : a < 2 ^ 31) (hb : b < 2 ^ 31) (h : nI a = nI b) : a = b := (nI_eq ha hb).mp h
def cnt (f : Nat → Int32) (x : Int32) : Nat → Nat
  | 0 => 0
  | n + 1 => cnt f x n + if f n = x then 1 else 0
theorem cnt_y {f : Nat → Int32} {x : Int32} {n : Nat} (h : f n = x) : cnt f x (n + 1) = cnt f x n + 1 := by simp only [cnt]; rw [if_pos h]
theorem cnt_n {f : Nat → Int32} {x : Int32} {n : Nat} (h : ¬ f n = x) : cnt f x (n + 1) = cnt f x n := by simp only [cnt]; rw [if_neg h]; rfl
theorem cnt_0 {f : Nat → Int32} {x : Int32} : ∀ {n : Nat}, (∀ j, j < n → f j ≠ x) → cnt f x n = 0
  | 0, _ => rfl
  | n + 1, h => by rw [cnt_n (h n (by omega)), cnt_0 (fun j hj => h j (by omega))]
theorem cnt_le {f : Nat → Int32} {x : Int32} : ∀ n : Nat, cnt f x n ≤ n
  | 0 => Nat.le_refl _
  | n + 1 => by
    have := cnt_le (f := f) (x := x) n
    simp only [cnt]
    split <;> omega
theorem cnt_pos {f : Nat → Int32} {x : Int32} : ∀ {n j : Nat}, j < n → f j = x → 0 < cnt f x n
  | 0, j, h, _ => absurd h (Nat.not_lt_zero j)
  | n + 1, j, h, e => by
    by_cases hj : j = n
    · subst hj
      rw [cnt_y e]
      omega
    · have := cnt_pos (n := n) (show j < n by omega) e
      simp only [cnt]
      omega
theorem cnt_1 {f : Nat → Int32} {x : Int32} : ∀ {n : Nat}, (∀ i j, i < j → j < n → f i ≠ f j) → cnt f x n ≤ 1
  | 0, _ => Nat.zero_le _
  | n + 1, h => by
    by_cases hn : f n = x
    · rw [cnt_y hn, cnt_0 (fun j hj e => h j n hj (by omega) (e.trans hn.symm))]
      exact Nat.le_refl _
    · rw [cnt_n hn]
      exact cnt_1 (fun i j a b => h i j a (by omega))
theorem ain_cnt {M : Mem} {n k : Nat} (h : AIn M n) : (cnt (M.1 385) (nI k) n = 1 ∧ inR M n k) ∨ (cnt (M.1 385) (nI k) n = 0 ∧ ¬ inR M n k) := by
  obtain ⟨h1, h2, h3, h4, -⟩ := h
  have h5 := cnt_1 (x := nI k) h4
  by_cases hr : inR M n k
  · obtain ⟨j, hj, e⟩ := hr
    have := cnt_pos hj e
    exact Or.inl ⟨by omega, j, hj, e⟩
  · exact Or.inr ⟨cnt_0 (fun j hj e => hr ⟨j, hj, e⟩), hr⟩
section SP2
variable {G : MG} {d : Nat} {M : Mem}
theorem timesInRow_ok (hG : Core G) {n k : Nat} (hn : n ≤ 8) (hl : M.1 383 4 = nI n) : Ret G (d + 1) 2 [.ref 383, .int (nI k)] M (some (.int (nI (cnt (M.1 385) (nI k) n)))) M := by
  have loop : ∀ m i, i + m = n → E G d 2 (4, [some (.ref 383), some (.int (nI k)), some (.int (nI (cnt (M.1 385) (nI k) i))), some (.int (nI i))], [], M, 0) (fun r => r = (.inl (some (.int (nI (cnt (M.1 385) (nI k) n)))), M, 0)) := by
    intro m
    induction m with
    | zero =>
      intro i hi
      have e : i = n := by omega
      subst e
      refine E_iload_n fX0_timesInRow_4 rfl ?_
      refine E_aload_n fX0_timesInRow_5 rfl (by decide) ?_
      refine E_getI fX0_timesInRow_6 (k383 hG) (by decide) (by decide) (by decide) ?_
      refine E_icge (tg := 31) fX0_timesInRow_9 (by decide) (fun c_9 => ?_) (fun c => absurd (by rw [hl]; exact Int32.le_refl _) c)
      refine E_iload_n fX0_timesInRow_31 rfl ?_
      exact R_iret fX0_timesInRow_32 mX0_timesInRow rfl rfl
    | succ m ih =>
      intro i hi
      have hlt : i < n := by omega
      refine E_iload_n fX0_timesInRow_4 rfl ?_
      refine E_aload_n fX0_timesInRow_5 rfl (by decide) ?_
      refine E_getI fX0_timesInRow_6 (k383 hG) (by decide) (by decide) (by decide) ?_
      refine E_icge (tg := 31) fX0_timesInRow_9 (by decide) (fun c => absurd (hl ▸ c) (nI_ge hlt (by omega))) (fun c_9 => ?_)
      refine E_aload_n fX0_timesInRow_12 rfl (by decide) ?_
      refine E_getR (r' := 385) fX0_timesInRow_13 (k383 hG) (by decide) (by decide) (by decide) rfl ?_
      refine E_iload_n fX0_timesInRow_16 rfl ?_
      refine E_iald (n := i) (K := 20) fX0_timesInRow_17 (k385 hG) ⟨by decide, by decide⟩ (by decide) rfl (by show i < 8; omega) ?_
      refine E_iload_n fX0_timesInRow_18 rfl ?_
      refine E_icne (tg := 25) fX0_timesInRow_19 (by decide) (fun c_19 => ?_) (fun c_19 => ?_)
      · refine E_iinc (v := nI (i + 1)) (L' := [some (.ref 383), some (.int (nI k)), some (.int (nI (cnt (M.1 385) (nI k) i))), some (.int (nI (i + 1)))]) fX0_timesInRow_25 rfl (inc1 _) rfl ?_
        refine E_goto (tg := 4) fX0_timesInRow_28 (by decide) ?_
        have h9 := ih (i + 1) (by omega)
        rw [cnt_n c_19] at h9
        exact h9
      · refine E_iinc (v := nI ((cnt (M.1 385) (nI k) i) + 1)) (L' := [some (.ref 383), some (.int (nI k)), some (.int (nI ((cnt (M.1 385) (nI k) i) + 1))), some (.int (nI i))]) fX0_timesInRow_22 rfl (inc1 _) rfl ?_
        refine E_iinc (v := nI (i + 1)) (L' := [some (.ref 383), some (.int (nI k)), some (.int (nI ((cnt (M.1 385) (nI k) i) + 1))), some (.int (nI (i + 1)))]) fX0_timesInRow_25 rfl (inc1 _) rfl ?_
        refine E_goto (tg := 4) fX0_timesInRow_28 (by decide) ?_
        have h9 := ih (i + 1) (by omega)
        rw [cnt_y c_19] at h9
        exact h9
  refine R_start (by decide) mX0_timesInRow ?_
  show E _ _ _ (0, [some (.ref 383), some (.int (nI k)), none, none], [], M, 0) _
  refine E_iconst (v := 0) fX0_timesInRow_0 (by decide) ?_
  refine E_istore_n (L' := [some (.ref 383), some (.int (nI k)), some (.int 0), none]) fX0_timesInRow_1 rfl (Nat.le_of_ble_eq_true rfl) ?_
  refine E_iconst (v := 0) fX0_timesInRow_2 (by decide) ?_
  refine E_istore_n (L' := [some (.ref 383), some (.int (nI k)), some (.int 0), some (.int 0)]) fX0_timesInRow_3 rfl (Nat.le_of_ble_eq_true rfl) ?_
  exact loop n 0 (by omega)
/-- the alarm k is put at the end of the row, unless it is in it -/
def entR (M : Mem) (n k : Nat) : Mem := if cnt (M.1 385) (nI k) n = 0 ∧ n < 8 then pI (pI M 385 n (nI k)) 383 4 (nI (n + 1)) else M
theorem enterRow_ok (hG : Core G) {n k : Nat} (hn : n ≤ 8) (hl : M.1 383 4 = nI n) : Ret G (d + 1) 3 [.ref 383, .int (nI k)] M none (entR M n k) := by
  have loop : ∀ m i, i + m = n → cnt (M.1 385) (nI k) i = 0 → E G d 3 (2, [some (.ref 383), some (.int (nI k)), some (.int (nI i))], [], M, 0) (fun r => r = (.inl none, entR M n k, 0)) := by
    intro m
    induction m with
    | zero =>
      intro i hi hc
      have e : i = n := by omega
      subst e
      refine E_iload_n fX0_enterRow_2 rfl ?_
      refine E_aload_n fX0_enterRow_3 rfl (by decide) ?_
      refine E_getI fX0_enterRow_4 (k383 hG) (by decide) (by decide) (by decide) ?_
      refine E_icge (tg := 27) fX0_enterRow_7 (by decide) (fun c_7 => ?_) (fun c => absurd (by rw [hl]; exact Int32.le_refl _) c)
      refine E_aload_n fX0_enterRow_27 rfl (by decide) ?_
      refine E_getI fX0_enterRow_28 (k383 hG) (by decide) (by decide) (by decide) ?_
      refine E_bipush (v := 8) fX0_enterRow_31 (by decide) ?_
      refine E_icge (tg := 56) fX0_enterRow_33 (by decide) (fun c_33 => ?_) (fun c_33 => ?_)
      · exact R_vret fX0_enterRow_56 mX0_enterRow rfl (by rw [show entR M i k = M from if_neg (fun z => nI_ge z.2 (by omega) (hl ▸ c_33))])
      · have lt8 : i < 8 := by
          have h8 : nI i < 8 := hl ▸ Int32.not_le.mp c_33
          exact (nI_ltI (a := i) (b := 8) (by omega) (by omega)).mp h8
        refine E_aload_n fX0_enterRow_36 rfl (by decide) ?_
        refine E_getR (r' := 385) fX0_enterRow_37 (k383 hG) (by decide) (by decide) (by decide) rfl ?_
        refine E_aload_n fX0_enterRow_40 rfl (by decide) ?_
        refine E_getI fX0_enterRow_41 (k383 hG) (by decide) (by decide) (by decide) ?_
        refine E_iload_n fX0_enterRow_44 rfl ?_
        refine E_iast (n := i) (K := 20) fX0_enterRow_45 (k385 hG) ⟨by decide, by decide⟩ (by decide) hl (by show i < 8; exact lt8) ?_
        refine E_aload_n fX0_enterRow_46 rfl (by decide) ?_
        refine E_dup fX0_enterRow_47 rfl ?_
        refine E_getI fX0_enterRow_48 (k383 hG) (by decide) (by decide) (by decide) ?_
        refine E_iconst (v := 1) fX0_enterRow_51 (by decide) ?_
        refine E_iadd fX0_enterRow_52 ?_
        refine E_putI fX0_enterRow_53 (k383 hG) (by decide) rfl ?_
        exact R_vret fX0_enterRow_56 mX0_enterRow rfl (by rw [show (pI M 385 i (nI k)).1 383 4 + 1 = nI (i + 1) from (congrArg (fun z => z + 1) hl).trans (nI_1 i), show entR M i k = pI (pI M 385 i (nI k)) 383 4 (nI (i + 1)) from if_pos ⟨hc, lt8⟩])
    | succ m ih =>
      intro i hi hc
      have hlt : i < n := by omega
      refine E_iload_n fX0_enterRow_2 rfl ?_
      refine E_aload_n fX0_enterRow_3 rfl (by decide) ?_
      refine E_getI fX0_enterRow_4 (k383 hG) (by decide) (by decide) (by decide) ?_
      refine E_icge (tg := 27) fX0_enterRow_7 (by decide) (fun c => absurd (hl ▸ c) (nI_ge hlt (by omega))) (fun c_7 => ?_)
      refine E_aload_n fX0_enterRow_10 rfl (by decide) ?_
      refine E_getR (r' := 385) fX0_enterRow_11 (k383 hG) (by decide) (by decide) (by decide) rfl ?_
      refine E_iload_n fX0_enterRow_14 rfl ?_
      refine E_iald (n := i) (K := 20) fX0_enterRow_15 (k385 hG) ⟨by decide, by decide⟩ (by decide) rfl (by show i < 8; omega) ?_
      refine E_iload_n fX0_enterRow_16 rfl ?_
      refine E_icne (tg := 21) fX0_enterRow_17 (by decide) (fun c_17 => ?_) (fun c_17 => ?_)
      · refine E_iinc (v := nI (i + 1)) (L' := [some (.ref 383), some (.int (nI k)), some (.int (nI (i + 1)))]) fX0_enterRow_21 rfl (inc1 _) rfl ?_
        refine E_goto (tg := 2) fX0_enterRow_24 (by decide) ?_
        exact ih (i + 1) (by omega) (by rw [cnt_n c_17]; exact hc)
      · exact R_vret fX0_enterRow_20 mX0_enterRow rfl (by rw [show entR M n k = M from if_neg (fun z => by have := cnt_pos hlt c_17; omega)])
  refine R_start (by decide) mX0_enterRow ?_
  show E _ _ _ (0, [some (.ref 383), some (.int (nI k)), none], [], M, 0) _
  refine E_iconst (v := 0) fX0_enterRow_0 (by decide) ?_
  refine E_istore_n (L' := [some (.ref 383), some (.int (nI k)), some (.int 0)]) fX0_enterRow_1 rfl (Nat.le_of_ble_eq_true rfl) ?_
  exact loop n 0 (by omega) rfl
theorem entR_fr {n k : Nat} : AFr M (entR M n k) := by
  unfold entR
  split
  · exact (AFr.rf.pI (by omega)).pI (by omega)
  · exact AFr.rf
/-- a place for k is free when it isn't in the row -/
theorem ain_free {n k : Nat} (h : AIn M n) (hk : k < 8) (hr : ¬ inR M n k) : n < 8 := by
  obtain ⟨h1, h2, h3, h4, -⟩ := h
  rcases Nat.lt_or_ge n 8 with q | q
  · exact q
  · exfalso
    have e : n = 8 := by omega
    subst e
    have hf : ∃ f : Nat → Nat, ∀ j, j < 8 → f j < 8 ∧ M.1 385 j = nI (f j) := ⟨fun j => if hj : j < 8 then (h3 j hj).choose else 0, fun j hj => by simp only [hj, dif_pos]; exact (h3 j hj).choose_spec⟩
    obtain ⟨f, hf⟩ := hf
    obtain ⟨i, hi, e⟩ := fb_onto (n := 8) (f := f) (fun i hi => (hf i hi).1) (fun i j a b e => h4 i j a b ((hf i (by omega)).2.trans ((congrArg nI e).trans (hf j b).2.symm))) hk
    exact hr ⟨i, hi, (hf i hi).2.trans (congrArg nI e)⟩
/-- behind an entry: k is in the row -/
theorem ain_ent {n k : Nat} (h1 : n ≤ 8) (h2 : M.1 383 4 = nI n) (h3 : ∀ j, j < n → ∃ a, a < 8 ∧ M.1 385 j = nI a) (h4 : ∀ i j, i < j → j < n → M.1 385 i ≠ M.1 385 j) (h5 : ∀ k, k < 8 → ∃ s, s < 2 ^ 31 ∧ M.1 384 k = nI s) (h6 : ∀ q, q < 8 → M.1 384 q ≠ 0 → ¬ inR M n q) (hk : k < 8) (hsh : M.1 384 k = 0) (h7 : ∀ q, q < 8 → q ≠ k → isB1 (M.1 383 0) (nI q) → M.1 384 q = 0 → inR M n q) : AI (entR M n k) := by
  by_cases hc : inR M n k
  · have e : entR M n k = M := if_neg (fun z => by obtain ⟨j, hj, e⟩ := hc; have := cnt_pos hj e; omega)
    rw [e]
    refine ⟨n, h1, h2, h3, h4, h5, h6, fun q hq hb hs => ?_⟩
    by_cases hqk : q = k
    · subst hqk; exact hc
    · exact h7 q hq hqk hb hs
  · have hlt : n < 8 := by
      rcases Nat.lt_or_ge n 8 with q | q
      · exact q
      · exfalso
        have e : n = 8 := by omega
        subst e
        have hf : ∃ f : Nat → Nat, ∀ j, j < 8 → f j < 8 ∧ M.1 385 j = nI (f j) := ⟨fun j => if hj : j < 8 then (h3 j hj).choose else 0, fun j hj => by simp only [hj, dif_pos]; exact (h3 j hj).choose_spec⟩
        obtain ⟨f, hf⟩ := hf
        obtain ⟨i, hi, e⟩ := fb_onto (n := 8) (f := f) (fun i hi => (hf i hi).1) (fun i j a b e => h4 i j a b ((hf i (by omega)).2.trans ((congrArg nI e).trans (hf j b).2.symm))) hk
        exact hc ⟨i, hi, (hf i hi).2.trans (congrArg nI e)⟩
    have c0 : cnt (M.1 385) (nI k) n = 0 := cnt_0 (fun j hj e => hc ⟨j, hj, e⟩)
    have e : entR M n k = pI (pI M 385 n (nI k)) 383 4 (nI (n + 1)) := if_pos ⟨c0, hlt⟩
    rw [e]
    have r1 : ∀ j, j ≠ n → (pI (pI M 385 n (nI k)) 383 4 (nI (n + 1))).1 385 j = M.1 385 j := fun j hj => by rw [pI_ne (Or.inl (by decide)), pI_ne (Or.inr hj)]
    have r2 : (pI (pI M 385 n (nI k)) 383 4 (nI (n + 1))).1 385 n = nI k := by rw [pI_ne (Or.inl (by decide)), pI_at]
    have r3 : ∀ q, (pI (pI M 385 n (nI k)) 383 4 (nI (n + 1))).1 384 q = M.1 384 q := fun q => by rw [pI_ne (Or.inl (by decide)), pI_ne (Or.inl (by decide))]
    have r4 : (pI (pI M 385 n (nI k)) 383 4 (nI (n + 1))).1 383 0 = M.1 383 0 := by rw [pI_ne (Or.inr (by decide)), pI_ne (Or.inl (by decide))]
    refine ⟨n + 1, by omega, pI_at, fun j hj => ?_, fun i j hij hj => ?_, fun q hq => by rw [r3]; exact h5 q hq, fun q hq hs => ?_, fun q hq hb hs => ?_⟩
    · by_cases hjn : j = n
      · subst hjn; exact ⟨k, hk, r2⟩
      · rw [r1 j hjn]; exact h3 j (by omega)
    · rw [r1 i (by omega)]
      by_cases hjn : j = n
      · subst hjn
        rw [r2]
        exact fun e => hc ⟨i, hij, e⟩
      · rw [r1 j hjn]; exact h4 i j hij (by omega)
    · rw [r3] at hs
      rintro ⟨j, hj, e⟩
      by_cases hjn : j = n
      · subst hjn
        rw [r2] at e
        have : k = q := nI_inj (by omega) (by omega) e
        subst this
        exact hs hsh
      · rw [r1 j hjn] at e
        exact h6 q hq hs ⟨j, by omega, e⟩
    · rw [r3] at hs
      rw [r4] at hb
      by_cases hqk : q = k
      · subst hqk; exact ⟨n, by omega, r2⟩
      · obtain ⟨j, hj, e⟩ := h7 q hq hqk hb hs
        exact ⟨j, by omega, by rw [r1 j (by omega)]; exact e⟩
end SP2
