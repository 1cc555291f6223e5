section SP19
variable {G : MG} {d : Nat} {M : Mem}
/-- only the cells from a up to b are changed -/
def Cl (a b : Nat) (M M1 : Mem) : Prop := (∀ c s, ¬ (a ≤ c ∧ c < b) → M1.1 c s = M.1 c s) ∧ ∀ c, M1.2 c = M.2 c
theorem Cl.rf {a b : Nat} {M : Mem} : Cl a b M M := ⟨fun _ _ _ => rfl, fun _ => rfl⟩
theorem Cl.pI {a b : Nat} {M M1 : Mem} (h : Cl a b M M1) {r k : Nat} {x : Int32} (hr : a ≤ r ∧ r < b) : Cl a b M (pI M1 r k x) := ⟨fun c s hc => (pI_ne (by omega)).trans (h.1 c s hc), h.2⟩
theorem Cl.tr {a b : Nat} {M M1 M2 : Mem} (h : Cl a b M M1) {a' b' : Nat} (h2 : Cl a' b' M1 M2) (ha : a ≤ a' ∧ b' ≤ b) : Cl a b M M2 := ⟨fun c s hc => (h2.1 c s (by omega)).trans (h.1 c s hc), fun c => (h2.2 c).trans (h.2 c)⟩
theorem rungCopy_ok (hG : Core G) {i z : Nat} (hI : i < 40) (hz : z < 65536) (hk : M.1 (193 + 3 * i) 1 = nI z) : ∃ v M', Ret G (d + 1) 22 [.ref (5 + 3 * i), .ref (193 + 3 * i)] M v M' ∧ (v = none ∧ Cl (5 + 3 * i) (5 + 3 * i + 3) M M' ∧ ∀ s, s < 5 → M'.1 (5 + 3 * i) s = M.1 (193 + 3 * i) s) := by
  have loop : ∀ m k M1, k + m = 4 → Cl (5 + 3 * i) (5 + 3 * i + 3) M M1 → (∀ s, s < 5 → M1.1 (5 + 3 * i) s = M.1 (193 + 3 * i) s) → E G (d) 22 (42, [some (.ref (5 + 3 * i)), some (.ref (193 + 3 * i)), some (.int (nI k))], [], M1, 0) (fun r => ∃ v M', r = (.inl v, M', 0) ∧ (v = none ∧ Cl (5 + 3 * i) (5 + 3 * i + 3) M M' ∧ ∀ s, s < 5 → M'.1 (5 + 3 * i) s = M.1 (193 + 3 * i) s)) := by
    intro m
    induction m with
    | zero =>
      intro k M1 hi g1 g2
      have e : k = 4 := by omega
      refine E_iload_n fX3_copyFrom_42 rfl ?_
      refine E_iconst (v := 4) fX3_copyFrom_43 (by decide) ?_
      refine E_icge (tg := 77) fX3_copyFrom_44 (by decide) (fun c_44 => ?_) (fun c => absurd (by rw [e]; exact Int32.le_refl _) c)
      exact R_vret fX3_copyFrom_77 mX3_copyFrom rfl ⟨_, _, rfl, rfl, g1, g2⟩
    | succ m ih =>
      intro k M1 hi g1 g2
      have hlt : k < 4 := by omega
      refine E_iload_n fX3_copyFrom_42 rfl ?_
      refine E_iconst (v := 4) fX3_copyFrom_43 (by decide) ?_
      refine E_icge (tg := 77) fX3_copyFrom_44 (by decide) (fun c => absurd c (by rw [show (4 : Int32) = nI 4 from rfl]; exact nI_ge hlt (by decide))) (fun c_44 => ?_)
      refine E_aload_n fX3_copyFrom_47 rfl (by have := (kr0_lt hI); omega) ?_
      refine E_getR (r' := 5 + 3 * i + 1) fX3_copyFrom_48 (kr0 hG hI) (kr0_lt hI) (by decide) (by decide) rfl ?_
      refine E_iload_n fX3_copyFrom_51 rfl ?_
      refine E_aload_n fX3_copyFrom_52 rfl (by have := (kdr0_lt hI); omega) ?_
      refine E_getR (r' := 193 + 3 * i + 1) fX3_copyFrom_53 (kdr0 hG hI) (kdr0_lt hI) (by decide) (by decide) rfl ?_
      refine E_iload_n fX3_copyFrom_56 rfl ?_
      refine E_cald (n := k) (K := 26) fX3_copyFrom_57 (kdr1 hG hI) ⟨by decide, by decide⟩ (kdr1_lt hI) rfl (by show k < 4; omega) ?_
      refine E_cast (n := k) (K := 26) fX3_copyFrom_58 (kr1 hG hI) ⟨by decide, by decide⟩ (kr1_lt hI) rfl (by show k < 4; omega) ?_
      refine E_aload_n fX3_copyFrom_59 rfl (by have := (kr0_lt hI); omega) ?_
      refine E_getR (r' := 5 + 3 * i + 2) fX3_copyFrom_60 (kr0 hG hI) (kr0_lt hI) (by decide) (by decide) rfl ?_
      refine E_iload_n fX3_copyFrom_63 rfl ?_
      refine E_aload_n fX3_copyFrom_64 rfl (by have := (kdr0_lt hI); omega) ?_
      refine E_getR (r' := 193 + 3 * i + 2) fX3_copyFrom_65 (kdr0 hG hI) (kdr0_lt hI) (by decide) (by decide) rfl ?_
      refine E_iload_n fX3_copyFrom_68 rfl ?_
      refine E_iald (n := k) (K := 24) fX3_copyFrom_69 (kdr2 hG hI) ⟨by decide, by decide⟩ (kdr2_lt hI) rfl (by show k < 4; omega) ?_
      refine E_iast (n := k) (K := 24) fX3_copyFrom_70 (kr2 hG hI) ⟨by decide, by decide⟩ (kr2_lt hI) rfl (by show k < 4; omega) ?_
      refine E_iinc (v := nI (k + 1)) (L' := [some (.ref (5 + 3 * i)), some (.ref (193 + 3 * i)), some (.int (nI (k + 1)))]) fX3_copyFrom_71 rfl (inc1 _) rfl ?_
      refine E_goto (tg := 42) fX3_copyFrom_74 (by decide) ?_
      exact ih (k + 1) _ (by omega) ((g1.pI (by omega)).pI (by omega)) (fun s hs => (pI_ne (Or.inl (by omega))).trans ((pI_ne (Or.inl (by omega))).trans (g2 s hs)))
  refine X_start (d := d + 0) (by decide) mX3_copyFrom ?_
  show E _ _ _ (0, [some (.ref (5 + 3 * i)), some (.ref (193 + 3 * i)), none], [], M, 0) _
  refine E_aload_n fX3_copyFrom_0 rfl (by have := (kr0_lt hI); omega) ?_
  refine E_aload_n fX3_copyFrom_1 rfl (by have := (kdr0_lt hI); omega) ?_
  refine E_getI fX3_copyFrom_2 (kdr0 hG hI) (kdr0_lt hI) (by decide) (by decide) ?_
  refine E_putI fX3_copyFrom_5 (kr0 hG hI) (kr0_lt hI) rfl ?_
  refine E_aload_n fX3_copyFrom_8 rfl (by have := (kr0_lt hI); omega) ?_
  refine E_aload_n fX3_copyFrom_9 rfl (by have := (kdr0_lt hI); omega) ?_
  refine E_getI fX3_copyFrom_10 (kdr0 hG hI) (kdr0_lt hI) (by decide) (by decide) ?_
  refine E_putI fX3_copyFrom_13 (kr0 hG hI) (kr0_lt hI) (by rw [pI_ne (Or.inl (by omega)), hk]; exact fit2 hz) ?_
  refine E_aload_n fX3_copyFrom_16 rfl (by have := (kr0_lt hI); omega) ?_
  refine E_aload_n fX3_copyFrom_17 rfl (by have := (kdr0_lt hI); omega) ?_
  refine E_getI fX3_copyFrom_18 (kdr0 hG hI) (kdr0_lt hI) (by decide) (by decide) ?_
  refine E_putI fX3_copyFrom_21 (kr0 hG hI) (kr0_lt hI) rfl ?_
  refine E_aload_n fX3_copyFrom_24 rfl (by have := (kr0_lt hI); omega) ?_
  refine E_aload_n fX3_copyFrom_25 rfl (by have := (kdr0_lt hI); omega) ?_
  refine E_getI fX3_copyFrom_26 (kdr0 hG hI) (kdr0_lt hI) (by decide) (by decide) ?_
  refine E_putI fX3_copyFrom_29 (kr0 hG hI) (kr0_lt hI) rfl ?_
  refine E_aload_n fX3_copyFrom_32 rfl (by have := (kr0_lt hI); omega) ?_
  refine E_aload_n fX3_copyFrom_33 rfl (by have := (kdr0_lt hI); omega) ?_
  refine E_getI fX3_copyFrom_34 (kdr0 hG hI) (kdr0_lt hI) (by decide) (by decide) ?_
  refine E_putI fX3_copyFrom_37 (kr0 hG hI) (kr0_lt hI) rfl ?_
  refine E_iconst (v := 0) fX3_copyFrom_40 (by decide) ?_
  refine E_istore_n (L' := [some (.ref (5 + 3 * i)), some (.ref (193 + 3 * i)), some (.int 0)]) fX3_copyFrom_41 rfl (Nat.le_of_ble_eq_true rfl) ?_
  refine loop 4 0 _ (by omega) (((((Cl.rf.pI (by omega)).pI (by omega)).pI (by omega)).pI (by omega)).pI (by omega)) (fun s hs => ?_)
  rcases (by omega : s = 0 ∨ s = 1 ∨ s = 2 ∨ s = 3 ∨ s = 4) with rfl | rfl | rfl | rfl | rfl
  · rw [pI_ne (Or.inr (by decide)), pI_ne (Or.inr (by decide)), pI_ne (Or.inr (by decide)), pI_ne (Or.inr (by decide)), pI_at]
  · rw [pI_ne (Or.inr (by decide)), pI_ne (Or.inr (by decide)), pI_ne (Or.inr (by decide)), pI_at, pI_ne (Or.inl (by omega))]
  · rw [pI_ne (Or.inr (by decide)), pI_ne (Or.inr (by decide)), pI_at, pI_ne (Or.inl (by omega)), pI_ne (Or.inl (by omega))]
  · rw [pI_ne (Or.inr (by decide)), pI_at, pI_ne (Or.inl (by omega)), pI_ne (Or.inl (by omega)), pI_ne (Or.inl (by omega))]
  · rw [pI_at, pI_ne (Or.inl (by omega)), pI_ne (Or.inl (by omega)), pI_ne (Or.inl (by omega)), pI_ne (Or.inl (by omega))]
theorem stepCopy_ok (hG : Core G) {i : Nat} (hI : i < 12) : ∃ v M', Ret G (d + 1) 33 [.ref (125 + 4 * i), .ref (313 + 4 * i)] M v M' ∧ (v = none ∧ Cl (125 + 4 * i) (125 + 4 * i + 4) M M' ∧ M'.1 (125 + 4 * i) 0 = M.1 (313 + 4 * i) 0) := by
  have loop : ∀ m k M1, k + m = 3 → Cl (125 + 4 * i) (125 + 4 * i + 4) M M1 → (M1.1 (125 + 4 * i) 0 = M.1 (313 + 4 * i) 0) → E G (d) 33 (10, [some (.ref (125 + 4 * i)), some (.ref (313 + 4 * i)), some (.int (nI k))], [], M1, 0) (fun r => ∃ v M', r = (.inl v, M', 0) ∧ (v = none ∧ Cl (125 + 4 * i) (125 + 4 * i + 4) M M' ∧ M'.1 (125 + 4 * i) 0 = M.1 (313 + 4 * i) 0)) := by
    intro m
    induction m with
    | zero =>
      intro k M1 hi g1 g2
      have e : k = 3 := by omega
      refine E_iload_n fX6_copyFrom_10 rfl ?_
      refine E_iconst (v := 3) fX6_copyFrom_11 (by decide) ?_
      refine E_icge (tg := 57) fX6_copyFrom_12 (by decide) (fun c_12 => ?_) (fun c => absurd (by rw [e]; exact Int32.le_refl _) c)
      exact R_vret fX6_copyFrom_57 mX6_copyFrom rfl ⟨_, _, rfl, rfl, g1, g2⟩
    | succ m ih =>
      intro k M1 hi g1 g2
      have hlt : k < 3 := by omega
      refine E_iload_n fX6_copyFrom_10 rfl ?_
      refine E_iconst (v := 3) fX6_copyFrom_11 (by decide) ?_
      refine E_icge (tg := 57) fX6_copyFrom_12 (by decide) (fun c => absurd c (by rw [show (3 : Int32) = nI 3 from rfl]; exact nI_ge hlt (by decide))) (fun c_12 => ?_)
      refine E_aload_n fX6_copyFrom_15 rfl (by have := (ks0_lt hI); omega) ?_
      refine E_getR (r' := 125 + 4 * i + 1) fX6_copyFrom_16 (ks0 hG hI) (ks0_lt hI) (by decide) (by decide) rfl ?_
      refine E_iload_n fX6_copyFrom_19 rfl ?_
      refine E_aload_n fX6_copyFrom_20 rfl (by have := (kds0_lt hI); omega) ?_
      refine E_getR (r' := 313 + 4 * i + 1) fX6_copyFrom_21 (kds0 hG hI) (kds0_lt hI) (by decide) (by decide) rfl ?_
      refine E_iload_n fX6_copyFrom_24 rfl ?_
      refine E_cald (n := k) (K := 27) fX6_copyFrom_25 (kds1 hG hI) ⟨by decide, by decide⟩ (kds1_lt hI) rfl (by show k < 3; omega) ?_
      refine E_cast (n := k) (K := 27) fX6_copyFrom_26 (ks1 hG hI) ⟨by decide, by decide⟩ (ks1_lt hI) rfl (by show k < 3; omega) ?_
      refine E_aload_n fX6_copyFrom_27 rfl (by have := (ks0_lt hI); omega) ?_
      refine E_getR (r' := 125 + 4 * i + 2) fX6_copyFrom_28 (ks0 hG hI) (ks0_lt hI) (by decide) (by decide) rfl ?_
      refine E_iload_n fX6_copyFrom_31 rfl ?_
      refine E_aload_n fX6_copyFrom_32 rfl (by have := (kds0_lt hI); omega) ?_
      refine E_getR (r' := 313 + 4 * i + 2) fX6_copyFrom_33 (kds0 hG hI) (kds0_lt hI) (by decide) (by decide) rfl ?_
      refine E_iload_n fX6_copyFrom_36 rfl ?_
      refine E_iald (n := k) (K := 25) fX6_copyFrom_37 (kds2 hG hI) ⟨by decide, by decide⟩ (kds2_lt hI) rfl (by show k < 3; omega) ?_
      refine E_iast (n := k) (K := 25) fX6_copyFrom_38 (ks2 hG hI) ⟨by decide, by decide⟩ (ks2_lt hI) rfl (by show k < 3; omega) ?_
      refine E_aload_n fX6_copyFrom_39 rfl (by have := (ks0_lt hI); omega) ?_
      refine E_getR (r' := 125 + 4 * i + 3) fX6_copyFrom_40 (ks0 hG hI) (ks0_lt hI) (by decide) (by decide) rfl ?_
      refine E_iload_n fX6_copyFrom_43 rfl ?_
      refine E_aload_n fX6_copyFrom_44 rfl (by have := (kds0_lt hI); omega) ?_
      refine E_getR (r' := 313 + 4 * i + 3) fX6_copyFrom_45 (kds0 hG hI) (kds0_lt hI) (by decide) (by decide) rfl ?_
      refine E_iload_n fX6_copyFrom_48 rfl ?_
      refine E_iald (n := k) (K := 25) fX6_copyFrom_49 (kds3 hG hI) ⟨by decide, by decide⟩ (kds3_lt hI) rfl (by show k < 3; omega) ?_
      refine E_iast (n := k) (K := 25) fX6_copyFrom_50 (ks3 hG hI) ⟨by decide, by decide⟩ (ks3_lt hI) rfl (by show k < 3; omega) ?_
      refine E_iinc (v := nI (k + 1)) (L' := [some (.ref (125 + 4 * i)), some (.ref (313 + 4 * i)), some (.int (nI (k + 1)))]) fX6_copyFrom_51 rfl (inc1 _) rfl ?_
      refine E_goto (tg := 10) fX6_copyFrom_54 (by decide) ?_
      exact ih (k + 1) _ (by omega) (((g1.pI (by omega)).pI (by omega)).pI (by omega)) ((pI_ne (Or.inl (by omega))).trans ((pI_ne (Or.inl (by omega))).trans ((pI_ne (Or.inl (by omega))).trans g2)))
  refine X_start (d := d + 0) (by decide) mX6_copyFrom ?_
  show E _ _ _ (0, [some (.ref (125 + 4 * i)), some (.ref (313 + 4 * i)), none], [], M, 0) _
  refine E_aload_n fX6_copyFrom_0 rfl (by have := (ks0_lt hI); omega) ?_
  refine E_aload_n fX6_copyFrom_1 rfl (by have := (kds0_lt hI); omega) ?_
  refine E_getI fX6_copyFrom_2 (kds0 hG hI) (kds0_lt hI) (by decide) (by decide) ?_
  refine E_putI fX6_copyFrom_5 (ks0 hG hI) (ks0_lt hI) rfl ?_
  refine E_iconst (v := 0) fX6_copyFrom_8 (by decide) ?_
  refine E_istore_n (L' := [some (.ref (125 + 4 * i)), some (.ref (313 + 4 * i)), some (.int 0)]) fX6_copyFrom_9 rfl (Nat.le_of_ble_eq_true rfl) ?_
  exact loop 3 0 _ (by omega) (Cl.rf.pI (by omega)) pI_at
theorem tranCopy_ok (hG : Core G) {i : Nat} (hi : i < 16) (hz : M.1 (361 + i) 3 = 0 ∨ M.1 (361 + i) 3 = 1) : ∃ v M', Ret G (d + 1) 35 [.ref (173 + i), .ref (361 + i)] M v M' ∧ (v = none ∧ Cl (173 + i) (173 + i + 1) M M' ∧ M'.1 (173 + i) 1 = M.1 (361 + i) 1) := by
  refine X_start (d := d + 0) (by decide) mX8_copyFrom ?_
  show E _ _ _ (0, [some (.ref (173 + i)), some (.ref (361 + i))], [], M, 0) _
  refine E_aload_n fX8_copyFrom_0 rfl (by have := (kt0_lt hi); omega) ?_
  refine E_aload_n fX8_copyFrom_1 rfl (by have := (kdt0_lt hi); omega) ?_
  refine E_getI fX8_copyFrom_2 (kdt0 hG hi) (kdt0_lt hi) (by decide) (by decide) ?_
  refine E_putI fX8_copyFrom_5 (kt0 hG hi) (kt0_lt hi) rfl ?_
  refine E_aload_n fX8_copyFrom_8 rfl (by have := (kt0_lt hi); omega) ?_
  refine E_aload_n fX8_copyFrom_9 rfl (by have := (kdt0_lt hi); omega) ?_
  refine E_getI fX8_copyFrom_10 (kdt0 hG hi) (kdt0_lt hi) (by decide) (by decide) ?_
  refine E_putI fX8_copyFrom_13 (kt0 hG hi) (kt0_lt hi) rfl ?_
  refine E_aload_n fX8_copyFrom_16 rfl (by have := (kt0_lt hi); omega) ?_
  refine E_aload_n fX8_copyFrom_17 rfl (by have := (kdt0_lt hi); omega) ?_
  refine E_getI fX8_copyFrom_18 (kdt0 hG hi) (kdt0_lt hi) (by decide) (by decide) ?_
  refine E_putI fX8_copyFrom_21 (kt0 hG hi) (kt0_lt hi) rfl ?_
  refine E_aload_n fX8_copyFrom_24 rfl (by have := (kt0_lt hi); omega) ?_
  refine E_aload_n fX8_copyFrom_25 rfl (by have := (kdt0_lt hi); omega) ?_
  refine E_getI fX8_copyFrom_26 (kdt0 hG hi) (kdt0_lt hi) (by decide) (by decide) ?_
  refine E_putI fX8_copyFrom_29 (kt0 hG hi) (kt0_lt hi) (by rw [pI_ne (Or.inl (by omega)), pI_ne (Or.inl (by omega)), pI_ne (Or.inl (by omega))]; exact fit1 hz) ?_
  exact R_vret fX8_copyFrom_32 mX8_copyFrom rfl ⟨_, _, rfl, rfl, (((Cl.rf.pI (by omega)).pI (by omega)).pI (by omega)).pI (by omega), by rw [pI_ne (Or.inr (by decide)), pI_ne (Or.inr (by decide)), pI_at, pI_ne (Or.inl (by omega))]⟩
theorem RKc.to {M M1 : Mem} {c c1 : Nat} (h : RKc M c) (e : ∀ s, s < 5 → M1.1 c1 s = M.1 c s) : RKc M1 c1 := by
  unfold RKc
  rw [e 1 (by omega), e 2 (by omega), e 3 (by omega), e 4 (by omega)]
  exact h
def PI (M : Mem) (n s t a b c : Nat) (M1 : Mem) : Prop := Cl 1 189 M M1 ∧ (M1.1 1 0 = nI n ∧ M1.1 1 1 = nI s ∧ M1.1 1 2 = nI t) ∧ (∀ j, j < a → RKc M1 (5 + 3 * j)) ∧ (∀ j, j < b → ∃ n, n ≤ 3 ∧ M1.1 (125 + 4 * j) 0 = nI n) ∧ ∀ j, j < c → ∀ k, k < 32 → bt (M1.1 (173 + j) 1) k = true → k < s
theorem PI.up {M M1 M2 : Mem} {n s t a b c a' b' : Nat} (h : PI M n s t a b c M1) (h2 : Cl a' b' M1 M2) (ha : 5 ≤ a' ∧ b' ≤ 189) (x1 : a ≤ 40 ∧ 5 + 3 * a ≤ a' ∨ b' ≤ 5) (x2 : b ≤ 12 ∧ (125 + 4 * b ≤ a' ∨ b = 0 ∨ b' ≤ 125)) (x3 : c ≤ 16 ∧ (173 + c ≤ a' ∨ c = 0 ∨ b' ≤ 173)) : PI M n s t a b c M2 := by
  obtain ⟨p1, ⟨p2, p3, p4⟩, p5, p6, p7⟩ := h
  exact ⟨p1.tr h2 (by omega), ⟨(h2.1 _ _ (by omega)).trans p2, (h2.1 _ _ (by omega)).trans p3, (h2.1 _ _ (by omega)).trans p4⟩, fun j hj => (p5 j hj).cg fun s => h2.1 _ _ (by omega), fun j hj => by rw [h2.1 _ _ (by omega)]; exact p6 j hj, fun j hj => by rw [h2.1 _ _ (by omega)]; exact p7 j hj⟩
theorem pgCopy_ok (hG : Core G) {n s t : Nat} (hD : DJ M n s t) : ∃ v M', Ret G (d + 2) 17 [.ref 1, .ref 189] M v M' ∧ (v = none ∧ Cl 1 189 M M' ∧ RK M' n ∧ CK M' s t) := by
  obtain ⟨h1, h2, h3, h4, h5, h6, h7, h8, h9⟩ := hD
  have loop3 : ∀ m i M1, i + m = t → PI M n s t n s i M1 → E G (d + 1) 17 (88, [some (.ref 1), some (.ref 189), some (.int (nI i))], [], M1, 0) (fun r => ∃ v M', r = (.inl v, M', 0) ∧ (v = none ∧ Cl 1 189 M M' ∧ RK M' n ∧ CK M' s t)) := by
    intro m
    induction m with
    | zero =>
      intro i M1 hi g
      have e : i = t := by omega
      refine E_iload_n fX2_copyFrom_88 rfl ?_
      refine E_aload_n fX2_copyFrom_89 rfl (by decide) ?_
      refine E_getI fX2_copyFrom_90 (k1 hG) (by decide) (by decide) (by decide) ?_
      refine E_icge (tg := 117) fX2_copyFrom_93 (by decide) (fun c_93 => ?_) (fun c => absurd (by rw [g.2.1.2.2, e]; exact Int32.le_refl _) c)
      exact R_vret fX2_copyFrom_117 mX2_copyFrom rfl ⟨_, _, rfl, rfl, g.1, ⟨h1, g.2.1.1, g.2.2.1⟩, h4, g.2.1.2.1, h6, g.2.1.2.2, g.2.2.2.1, e ▸ g.2.2.2.2⟩
    | succ m ih =>
      intro i M1 hi g
      have hlt : i < t := by omega
      have hi_i : i < 16 := by omega
      refine E_iload_n fX2_copyFrom_88 rfl ?_
      refine E_aload_n fX2_copyFrom_89 rfl (by decide) ?_
      refine E_getI fX2_copyFrom_90 (k1 hG) (by decide) (by decide) (by decide) ?_
      refine E_icge (tg := 117) fX2_copyFrom_93 (by decide) (fun c => absurd c (by rw [g.2.1.2.2]; exact nI_ge hlt (by omega))) (fun c_93 => ?_)
      refine E_aload_n fX2_copyFrom_96 rfl (by decide) ?_
      refine E_getR (r' := 4) fX2_copyFrom_97 (k1 hG) (by decide) (by decide) (by decide) rfl ?_
      refine E_iload_n fX2_copyFrom_100 rfl ?_
      refine E_aald (n := i) (r' := 173 + i) (K := 30) fX2_copyFrom_101 (k4 hG) ⟨by decide, by decide⟩ (by decide) rfl (by show i < 16; omega) (by show 4 + (169 + i) = 173 + i; omega) ?_
      refine E_aload_n fX2_copyFrom_102 rfl (by decide) ?_
      refine E_getR (r' := 192) fX2_copyFrom_103 (k189 hG) (by decide) (by decide) (by decide) rfl ?_
      refine E_iload_n fX2_copyFrom_106 rfl ?_
      refine E_aald (n := i) (r' := 361 + i) (K := 30) fX2_copyFrom_107 (k192 hG) ⟨by decide, by decide⟩ (by decide) rfl (by show i < 16; omega) (by show 192 + (169 + i) = 361 + i; omega) ?_
      obtain ⟨v2, M2, hR, rfl, f1, f2⟩ := tranCopy_ok (d := d) (M := M1) hG hi_i (by rw [g.1.1 _ _ (by omega)]; exact (h9 i hlt).2)
      refine E_callV (t := []) hR fX2_copyFrom_108 mX8_copyFrom (rc_obj (kt0 hG hi_i) (kt0_lt hi_i) (by decide)) ⟨by decide, rfl⟩ rfl rfl (Nat.le_of_ble_eq_true rfl) ?_
      refine E_iinc (v := nI (i + 1)) (L' := [some (.ref 1), some (.ref 189), some (.int (nI (i + 1)))]) fX2_copyFrom_111 rfl (inc1 _) rfl ?_
      refine E_goto (tg := 88) fX2_copyFrom_114 (by decide) ?_
      refine ih (i + 1) M2 (by omega) ?_
      obtain ⟨q1, q2, q3, q4, q5⟩ := g.up f1 (by omega) (Or.inl (by omega)) (by omega) (by omega)
      refine ⟨q1, q2, q3, q4, fun j hj k hk hb => ?_⟩
      by_cases z : j = i
      · subst z
        rw [f2, g.1.1 _ _ (by omega)] at hb
        exact (h9 j hlt).1 k hk hb
      · exact q5 j (by omega) k hk hb
  have loop2 : ∀ m i M1, i + m = s → PI M n s t n i 0 M1 → E G (d + 1) 17 (57, [some (.ref 1), some (.ref 189), some (.int (nI i))], [], M1, 0) (fun r => ∃ v M', r = (.inl v, M', 0) ∧ (v = none ∧ Cl 1 189 M M' ∧ RK M' n ∧ CK M' s t)) := by
    intro m
    induction m with
    | zero =>
      intro i M1 hi g
      have e : i = s := by omega
      refine E_iload_n fX2_copyFrom_57 rfl ?_
      refine E_aload_n fX2_copyFrom_58 rfl (by decide) ?_
      refine E_getI fX2_copyFrom_59 (k1 hG) (by decide) (by decide) (by decide) ?_
      refine E_icge (tg := 86) fX2_copyFrom_62 (by decide) (fun c_62 => ?_) (fun c => absurd (by rw [g.2.1.2.1, e]; exact Int32.le_refl _) c)
      refine E_iconst (v := 0) fX2_copyFrom_86 (by decide) ?_
      refine E_istore_n (L' := [some (.ref 1), some (.ref 189), some (.int 0)]) fX2_copyFrom_87 rfl (Nat.le_of_ble_eq_true rfl) ?_
      exact loop3 t 0 M1 (by omega) (e ▸ g)
    | succ m ih =>
      intro i M1 hi g
      have hlt : i < s := by omega
      have hi_i : i < 12 := by omega
      refine E_iload_n fX2_copyFrom_57 rfl ?_
      refine E_aload_n fX2_copyFrom_58 rfl (by decide) ?_
      refine E_getI fX2_copyFrom_59 (k1 hG) (by decide) (by decide) (by decide) ?_
      refine E_icge (tg := 86) fX2_copyFrom_62 (by decide) (fun c => absurd c (by rw [g.2.1.2.1]; exact nI_ge hlt (by omega))) (fun c_62 => ?_)
      refine E_aload_n fX2_copyFrom_65 rfl (by decide) ?_
      refine E_getR (r' := 3) fX2_copyFrom_66 (k1 hG) (by decide) (by decide) (by decide) rfl ?_
      refine E_iload_n fX2_copyFrom_69 rfl ?_
      refine E_aald (n := i) (r' := 125 + 4 * i) (K := 29) fX2_copyFrom_70 (k3 hG) ⟨by decide, by decide⟩ (by decide) rfl (by show i < 12; omega) (by show 3 + (122 + 4 * i) = 125 + 4 * i; omega) ?_
      refine E_aload_n fX2_copyFrom_71 rfl (by decide) ?_
      refine E_getR (r' := 191) fX2_copyFrom_72 (k189 hG) (by decide) (by decide) (by decide) rfl ?_
      refine E_iload_n fX2_copyFrom_75 rfl ?_
      refine E_aald (n := i) (r' := 313 + 4 * i) (K := 29) fX2_copyFrom_76 (k191 hG) ⟨by decide, by decide⟩ (by decide) rfl (by show i < 12; omega) (by show 191 + (122 + 4 * i) = 313 + 4 * i; omega) ?_
      obtain ⟨v2, M2, hR, rfl, f1, f2⟩ := stepCopy_ok (d := d) (M := M1) hG hi_i
      refine E_callV (t := []) hR fX2_copyFrom_77 mX6_copyFrom (rc_obj (ks0 hG hi_i) (ks0_lt hi_i) (by decide)) ⟨by decide, rfl⟩ rfl rfl (Nat.le_of_ble_eq_true rfl) ?_
      refine E_iinc (v := nI (i + 1)) (L' := [some (.ref 1), some (.ref 189), some (.int (nI (i + 1)))]) fX2_copyFrom_80 rfl (inc1 _) rfl ?_
      refine E_goto (tg := 57) fX2_copyFrom_83 (by decide) ?_
      refine ih (i + 1) M2 (by omega) ?_
      obtain ⟨q1, q2, q3, q4, q5⟩ := g.up f1 (by omega) (Or.inl (by omega)) (by omega) (by omega)
      refine ⟨q1, q2, q3, fun j hj => ?_, q5⟩
      by_cases z : j = i
      · subst z
        rw [f2, g.1.1 _ _ (by omega)]
        exact h8 j hlt
      · exact q4 j (by omega)
  have loop1 : ∀ m i M1, i + m = n → PI M n s t i 0 0 M1 → E G (d + 1) 17 (26, [some (.ref 1), some (.ref 189), some (.int (nI i))], [], M1, 0) (fun r => ∃ v M', r = (.inl v, M', 0) ∧ (v = none ∧ Cl 1 189 M M' ∧ RK M' n ∧ CK M' s t)) := by
    intro m
    induction m with
    | zero =>
      intro i M1 hi g
      have e : i = n := by omega
      refine E_iload_n fX2_copyFrom_26 rfl ?_
      refine E_aload_n fX2_copyFrom_27 rfl (by decide) ?_
      refine E_getI fX2_copyFrom_28 (k1 hG) (by decide) (by decide) (by decide) ?_
      refine E_icge (tg := 55) fX2_copyFrom_31 (by decide) (fun c_31 => ?_) (fun c => absurd (by rw [g.2.1.1, e]; exact Int32.le_refl _) c)
      refine E_iconst (v := 0) fX2_copyFrom_55 (by decide) ?_
      refine E_istore_n (L' := [some (.ref 1), some (.ref 189), some (.int 0)]) fX2_copyFrom_56 rfl (Nat.le_of_ble_eq_true rfl) ?_
      exact loop2 s 0 M1 (by omega) (e ▸ g)
    | succ m ih =>
      intro i M1 hi g
      have hlt : i < n := by omega
      have hi_i : i < 40 := by omega
      refine E_iload_n fX2_copyFrom_26 rfl ?_
      refine E_aload_n fX2_copyFrom_27 rfl (by decide) ?_
      refine E_getI fX2_copyFrom_28 (k1 hG) (by decide) (by decide) (by decide) ?_
      refine E_icge (tg := 55) fX2_copyFrom_31 (by decide) (fun c => absurd c (by rw [g.2.1.1]; exact nI_ge hlt (by omega))) (fun c_31 => ?_)
      refine E_aload_n fX2_copyFrom_34 rfl (by decide) ?_
      refine E_getR (r' := 2) fX2_copyFrom_35 (k1 hG) (by decide) (by decide) (by decide) rfl ?_
      refine E_iload_n fX2_copyFrom_38 rfl ?_
      refine E_aald (n := i) (r' := 5 + 3 * i) (K := 28) fX2_copyFrom_39 (k2 hG) ⟨by decide, by decide⟩ (by decide) rfl (by show i < 40; omega) (by show 2 + (3 + 3 * i) = 5 + 3 * i; omega) ?_
      refine E_aload_n fX2_copyFrom_40 rfl (by decide) ?_
      refine E_getR (r' := 190) fX2_copyFrom_41 (k189 hG) (by decide) (by decide) (by decide) rfl ?_
      refine E_iload_n fX2_copyFrom_44 rfl ?_
      refine E_aald (n := i) (r' := 193 + 3 * i) (K := 28) fX2_copyFrom_45 (k190 hG) ⟨by decide, by decide⟩ (by decide) rfl (by show i < 40; omega) (by show 190 + (3 + 3 * i) = 193 + 3 * i; omega) ?_
      obtain ⟨r1, z, hz, r2⟩ := h3 i hlt
      obtain ⟨v2, M2, hR, rfl, f1, f2⟩ := rungCopy_ok (d := d) (M := M1) hG hi_i hz ((g.1.1 _ _ (by omega)).trans r2)
      refine E_callV (t := []) hR fX2_copyFrom_46 mX3_copyFrom (rc_obj (kr0 hG hi_i) (kr0_lt hi_i) (by decide)) ⟨by decide, rfl⟩ rfl rfl (Nat.le_of_ble_eq_true rfl) ?_
      refine E_iinc (v := nI (i + 1)) (L' := [some (.ref 1), some (.ref 189), some (.int (nI (i + 1)))]) fX2_copyFrom_49 rfl (inc1 _) rfl ?_
      refine E_goto (tg := 26) fX2_copyFrom_52 (by decide) ?_
      refine ih (i + 1) M2 (by omega) ?_
      obtain ⟨q1, q2, q3, q4, q5⟩ := g.up f1 (by omega) (Or.inl (by omega)) (by omega) (by omega)
      refine ⟨q1, q2, fun j hj => ?_, q4, q5⟩
      by_cases z : j = i
      · subst z
        exact r1.to fun s hs => (f2 s hs).trans (g.1.1 _ _ (by omega))
      · exact q3 j (by omega)
  refine X_start (d := d + 1) (by decide) mX2_copyFrom ?_
  show E _ _ _ (0, [some (.ref 1), some (.ref 189), none], [], M, 0) _
  refine E_aload_n fX2_copyFrom_0 rfl (by decide) ?_
  refine E_aload_n fX2_copyFrom_1 rfl (by decide) ?_
  refine E_getI fX2_copyFrom_2 (k189 hG) (by decide) (by decide) (by decide) ?_
  refine E_putI fX2_copyFrom_5 (k1 hG) (by decide) rfl ?_
  refine E_aload_n fX2_copyFrom_8 rfl (by decide) ?_
  refine E_aload_n fX2_copyFrom_9 rfl (by decide) ?_
  refine E_getI fX2_copyFrom_10 (k189 hG) (by decide) (by decide) (by decide) ?_
  refine E_putI fX2_copyFrom_13 (k1 hG) (by decide) rfl ?_
  refine E_aload_n fX2_copyFrom_16 rfl (by decide) ?_
  refine E_aload_n fX2_copyFrom_17 rfl (by decide) ?_
  refine E_getI fX2_copyFrom_18 (k189 hG) (by decide) (by decide) (by decide) ?_
  refine E_putI fX2_copyFrom_21 (k1 hG) (by decide) rfl ?_
  refine E_iconst (v := 0) fX2_copyFrom_24 (by decide) ?_
  refine E_istore_n (L' := [some (.ref 1), some (.ref 189), some (.int 0)]) fX2_copyFrom_25 rfl (Nat.le_of_ble_eq_true rfl) ?_
  refine loop1 n 0 _ (by omega) ⟨((Cl.rf.pI (by omega)).pI (by omega)).pI (by omega), ⟨?_, ?_, ?_⟩, fun j hj => absurd hj (Nat.not_lt_zero j), fun j hj => absurd hj (Nat.not_lt_zero j), fun j hj => absurd hj (Nat.not_lt_zero j)⟩
  · rw [pI_ne (Or.inr (by decide)), pI_ne (Or.inr (by decide)), pI_at, h2]
  · rw [pI_ne (Or.inr (by decide)), pI_at, pI_ne (Or.inl (by decide)), h5]
  · rw [pI_at, pI_ne (Or.inl (by decide)), pI_ne (Or.inl (by decide)), h7]
def kwB (c s : Nat) : Bool := c == 381 || (c == 377 && s == 99)
theorem keepSeen_ok (hG : Core G) (h0 : M.1 1 0 = 0) : ∃ v M', Ret G (d + 2) 87 [.ref 0] M v M' ∧ (v = none ∧ Fr kwB M M') := by
  have loop : ∀ m i o2 o3 M1, i + m = 40 → Fr kwB M M1 → E G (d + 1) 87 (2, [some (.ref 0), some (.int (nI i)), o2, o3], [], M1, 0) (fun r => ∃ v M', r = (.inl v, M', 0) ∧ (v = none ∧ Fr kwB M M')) := by
    intro m
    induction m with
    | zero =>
      intro i o2 o3 M1 hi g
      have e : i = 40 := by omega
      refine E_iload_n fX9_keepWhatWasSeen_2 rfl ?_
      refine E_bipush (v := 40) fX9_keepWhatWasSeen_3 (by decide) ?_
      refine E_icge (tg := 125) fX9_keepWhatWasSeen_5 (by decide) (fun c_5 => ?_) (fun c => absurd (by rw [e]; exact Int32.le_refl _) c)
      exact R_vret fX9_keepWhatWasSeen_125 mX9_keepWhatWasSeen rfl ⟨_, _, rfl, rfl, g⟩
    | succ m ih =>
      intro i o2 o3 M1 hi g
      have hlt : i < 40 := by omega
      refine E_iload_n fX9_keepWhatWasSeen_2 rfl ?_
      refine E_bipush (v := 40) fX9_keepWhatWasSeen_3 (by decide) ?_
      refine E_icge (tg := 125) fX9_keepWhatWasSeen_5 (by decide) (fun c => absurd c (by rw [show (40 : Int32) = nI 40 from rfl]; exact nI_ge hlt (by decide))) (fun c_5 => ?_)
      refine E_iconst (v := 0) fX9_keepWhatWasSeen_8 (by decide) ?_
      refine E_istore_n (L' := [some (.ref 0), some (.int (nI i)), some (.int 0), o3]) fX9_keepWhatWasSeen_9 rfl (Nat.le_of_ble_eq_true rfl) ?_
      refine E_iconst (v := 0) fX9_keepWhatWasSeen_10 (by decide) ?_
      refine E_istore_n (L' := [some (.ref 0), some (.int (nI i)), some (.int 0), some (.int 0)]) fX9_keepWhatWasSeen_11 rfl (Nat.le_of_ble_eq_true rfl) ?_
      refine E_iload_n fX9_keepWhatWasSeen_12 rfl ?_
      refine E_aload_n fX9_keepWhatWasSeen_13 rfl (by decide) ?_
      refine E_getR (r' := 1) fX9_keepWhatWasSeen_14 (k0 hG) (by decide) (by decide) (by decide) rfl ?_
      refine E_getI fX9_keepWhatWasSeen_17 (k1 hG) (by decide) (by decide) (by decide) ?_
      refine E_icge (tg := 78) fX9_keepWhatWasSeen_20 (by decide) (fun c_20 => ?_) (fun c => absurd (by rw [g.1 1 0 rfl, h0]; exact nI_pos' (by omega)) c)
      refine E_aload_n fX9_keepWhatWasSeen_78 rfl (by decide) ?_
      refine E_getR (r' := 377) fX9_keepWhatWasSeen_79 (k0 hG) (by decide) (by decide) (by decide) rfl ?_
      refine E_getR (r' := 381) fX9_keepWhatWasSeen_82 (k377 hG) (by decide) (by decide) (by decide) rfl ?_
      refine E_iload_n fX9_keepWhatWasSeen_85 rfl ?_
      refine E_dup2 fX9_keepWhatWasSeen_86 rfl rfl ?_
      refine E_iald (n := i) (K := 22) fX9_keepWhatWasSeen_87 (k381 hG) ⟨by decide, by decide⟩ (by decide) rfl (by show i < 40; omega) ?_
      refine E_iload_n fX9_keepWhatWasSeen_88 rfl ?_
      refine E_iand fX9_keepWhatWasSeen_89 ?_
      refine E_iast (n := i) (K := 22) fX9_keepWhatWasSeen_90 (k381 hG) ⟨by decide, by decide⟩ (by decide) rfl (by show i < 40; omega) ?_
      refine E_aload_n fX9_keepWhatWasSeen_91 rfl (by decide) ?_
      refine E_getR (r' := 377) fX9_keepWhatWasSeen_92 (k0 hG) (by decide) (by decide) (by decide) rfl ?_
      refine E_iload_n fX9_keepWhatWasSeen_95 rfl ?_
      refine E_aload_n fX9_keepWhatWasSeen_96 rfl (by decide) ?_
      refine E_getR (r' := 377) fX9_keepWhatWasSeen_97 (k0 hG) (by decide) (by decide) (by decide) rfl ?_
      refine E_iload_n fX9_keepWhatWasSeen_100 rfl ?_
      obtain ⟨vd, Md, hRd, hMd, zd, rfl, hzd⟩ := didHold_ok (d := d) (M := (pI M1 381 i ((M1.1 381 i) &&& 0))) hG (nI i)
      rw [hMd] at hRd
      refine E_callV (t := [.int (nI i), .ref 377]) hRd fX9_keepWhatWasSeen_101 mX5_didHold (rc_obj (k377 hG) (by decide) (by decide)) ⟨by decide, rfl⟩ rfl rfl (Nat.le_of_ble_eq_true rfl) ?_
      refine E_ifeq (tg := 115) fX9_keepWhatWasSeen_104 (by decide) (fun c_104 => ?_) (fun c_104 => ?_)
      · refine E_iconst (v := 0) fX9_keepWhatWasSeen_115 (by decide) ?_
        obtain ⟨v10, M10, hR1, rfl, w1, rfl⟩ := keepHolding_ok (d := d) (M := (pI M1 381 i ((M1.1 381 i) &&& 0))) hG (nI i) 0
        refine E_callV (t := []) hR1 fX9_keepWhatWasSeen_116 mX5_keepHolding (rc_obj (k377 hG) (by decide) (by decide)) ⟨by decide, rfl⟩ rfl rfl (Nat.le_of_ble_eq_true rfl) ?_
        refine E_iinc (v := nI (i + 1)) (L' := [some (.ref 0), some (.int (nI (i + 1))), some (.int 0), some (.int 0)]) fX9_keepWhatWasSeen_119 rfl (inc1 _) rfl ?_
        refine E_goto (tg := 2) fX9_keepWhatWasSeen_122 (by decide) ?_
        exact ih (i + 1) _ _ _ (by omega) ((g.pI rfl).pL rfl)
      · refine E_iload_n fX9_keepWhatWasSeen_107 rfl ?_
        refine E_ifeq (tg := 115) fX9_keepWhatWasSeen_108 (by decide) (fun c_108 => ?_) (fun c => absurd c (by decide))
        refine E_iconst (v := 0) fX9_keepWhatWasSeen_115 (by decide) ?_
        obtain ⟨v11, M11, hR2, rfl, w2, rfl⟩ := keepHolding_ok (d := d) (M := (pI M1 381 i ((M1.1 381 i) &&& 0))) hG (nI i) 0
        refine E_callV (t := []) hR2 fX9_keepWhatWasSeen_116 mX5_keepHolding (rc_obj (k377 hG) (by decide) (by decide)) ⟨by decide, rfl⟩ rfl rfl (Nat.le_of_ble_eq_true rfl) ?_
        refine E_iinc (v := nI (i + 1)) (L' := [some (.ref 0), some (.int (nI (i + 1))), some (.int 0), some (.int 0)]) fX9_keepWhatWasSeen_119 rfl (inc1 _) rfl ?_
        refine E_goto (tg := 2) fX9_keepWhatWasSeen_122 (by decide) ?_
        exact ih (i + 1) _ _ _ (by omega) ((g.pI rfl).pL rfl)
  refine X_start (d := d + 1) (by decide) mX9_keepWhatWasSeen ?_
  show E _ _ _ (0, [some (.ref 0), none, none, none], [], M, 0) _
  refine E_iconst (v := 0) fX9_keepWhatWasSeen_0 (by decide) ?_
  refine E_istore_n (L' := [some (.ref 0), some (.int 0), none, none]) fX9_keepWhatWasSeen_1 rfl (Nat.le_of_ble_eq_true rfl) ?_
  exact loop 40 0 _ _ M (by omega) Fr.rf
theorem stepMask_ok (hG : Core G) : Ret G (d + 1) 21 [.ref 189] M (some (.int ((1 <<< (M.1 189 1 &&& 31)) - 1))) M := by
  refine R_start (d := d + 0) (by decide) mX2_stepMask ?_
  show E _ _ _ (0, [some (.ref 189)], [], M, 0) _
  refine E_iconst (v := 1) fX2_stepMask_0 (by decide) ?_
  refine E_aload_n fX2_stepMask_1 rfl (by decide) ?_
  refine E_getI fX2_stepMask_2 (k189 hG) (by decide) (by decide) (by decide) ?_
  refine E_ishl fX2_stepMask_5 ?_
  refine E_iconst (v := 1) fX2_stepMask_6 (by decide) ?_
  refine E_isub fX2_stepMask_7 ?_
  exact R_iret fX2_stepMask_8 mX2_stepMask rfl rfl
theorem stepMask1_ok (hG : Core G) : Ret G (d + 1) 21 [.ref 1] M (some (.int ((1 <<< (M.1 1 1 &&& 31)) - 1))) M := by
  refine R_start (d := d + 0) (by decide) mX2_stepMask ?_
  show E _ _ _ (0, [some (.ref 1)], [], M, 0) _
  refine E_iconst (v := 1) fX2_stepMask_0 (by decide) ?_
  refine E_aload_n fX2_stepMask_1 rfl (by decide) ?_
  refine E_getI fX2_stepMask_2 (k1 hG) (by decide) (by decide) (by decide) ?_
  refine E_ishl fX2_stepMask_5 ?_
  refine E_iconst (v := 1) fX2_stepMask_6 (by decide) ?_
  refine E_isub fX2_stepMask_7 ?_
  exact R_iret fX2_stepMask_8 mX2_stepMask rfl rfl
theorem smask : ∀ s, s < 13 → ∀ k, k < 32 → bt (((1 : Int32) <<< (nI s &&& 31)) - 1) k = decide (k < s) := by decide +kernel
theorem b_not {x : Int32} {k : Nat} (hk : k < 32) : bt (x ^^^ (-1)) k = !bt x k := by rw [b_xor, b_m1 k hk, Bool.xor_true]
theorem allowed_k {s k : Nat} (hs : s ≤ 12) (hk : k < 32) : bt ((((1 : Int32) <<< (nI s &&& 31)) - 1) ||| 1) k = true ↔ k < s ∨ k = 0 := by
  rw [b_or, smask s (by omega) k hk, b_1, Bool.or_eq_true, decide_eq_true_eq, decide_eq_true_eq]
theorem ak_of {M : Mem} {s : Nat} (hs : s ≤ 12) (h : M.1 377 1 &&& (((((1 : Int32) <<< (nI s &&& 31)) - 1) ||| 1) ^^^ (-1)) = 0) : AK M s := by
  intro k hk hb
  by_cases z : bt ((((1 : Int32) <<< (nI s &&& 31)) - 1) ||| 1) k = true
  · exact (allowed_k hs hk).mp z
  · have := b_0 k
    rw [← h, b_and, b_not hk, hb, Bool.eq_false_iff.mpr z] at this
    cases this
theorem ak_to {M : Mem} {s : Nat} (hs : s ≤ 12) (h : AK M s) : M.1 377 1 &&& (((((1 : Int32) <<< (nI s &&& 31)) - 1) ||| 1) ^^^ (-1)) = 0 := by
  refine b_ext fun k hk => ?_
  rw [b_and, b_not hk, b_0]
  by_cases hb : bt (M.1 377 1) k = true
  · rw [(allowed_k hs hk).mpr (h k hk hb), hb]; rfl
  · rw [Bool.eq_false_iff.mpr hb]; rfl
end SP19
