section SP45
variable {xs : Nat → Int32} {Lx : Nat} {K : KT} {M1 M2 : Mem}
def numS (M : Mem) : Nat → Int64
  | 0 => 0
  | k + 1 => 31 * numS M k + Int32.toInt64 (M.1 378 k) + 7 * Int32.toInt64 (M.1 379 k)
theorem numS_cg {M M' : Mem} : ∀ n : Nat, (∀ k, k < n → M'.1 378 k = M.1 378 k ∧ M'.1 379 k = M.1 379 k) → numS M' n = numS M n
  | 0, _ => rfl
  | n + 1, h => by
    obtain ⟨h1, h2⟩ := h n (Nat.lt_succ_self n)
    show 31 * numS M' n + Int32.toInt64 (M'.1 378 n) + 7 * Int32.toInt64 (M'.1 379 n) = 31 * numS M n + Int32.toInt64 (M.1 378 n) + 7 * Int32.toInt64 (M.1 379 n)
    rw [numS_cg n (fun k hk => h k (Nat.lt_succ_of_lt hk)), h1, h2]
def cz (M : Mem) : Nat → Int32
  | 0 => 0
  | k + 1 => cz M k + (if bI (isB1 (M.1 405 1) (nI k)) = 0 then 1 else 0)
theorem cz_n {M : Mem} (h : M.1 405 1 = 0) : ∀ k, k ≤ 8 → cz M k = nI k
  | 0, _ => rfl
  | k + 1, hk => by
    have h2 : bI (isB1 (M.1 405 1) (nI k)) = 0 := bI_f (by rw [h, isB1_iff (by omega), b_0]; decide)
    show cz M k + (if bI (isB1 (M.1 405 1) (nI k)) = 0 then 1 else 0) = nI (k + 1)
    rw [if_pos h2, cz_n h k (by omega)]
    exact nI_1 k
theorem g734 (hK : LK xs Lx 20000 K) {q : Nat} {o4 o7 : Option Value} {num dn now : Int64} {many D : Int32} (hq : q ≤ 20000) (he : M2.1 1 0 = M1.1 1 0) (hD : D = 0 ∨ (D = 1 ∧ M2.1 0 12 = 1 ∧ many = 8 ∧ now = num ∧ M2.2 0 = dn)) : K 734 [some (.ref 1000), some (.ref 0), some (.ref 410), some (.int 1), o4, some (.long num), none, o7, some (.long dn), none, some (.int many), some (.int D), some (.long now), none, some (.int 8), none] [] M1 M2 q := by
  rcases hD with rfl | ⟨rfl, h12, rfl, rfl, rfl⟩
  · refine V_iload_n hK dL_law_734 rfl ?_
    refine V_ifeq hK (tg := 779) dL_law_735 (by decide) (fun c => absurd c (by decide)) (fun c_735 => ?_)
    refine V_iload hK dL_law_738 rfl ?_
    refine V_ifeq hK (tg := 775) dL_law_740 (by decide) (fun c_740 => ?_) (fun c => absurd c (by decide))
    refine V_iconst hK (v := 1) dL_law_775 (by decide) ?_
    refine V_goto hK (tg := 780) dL_law_776 (by decide) ?_
    refine V_istore_n hK (L' := [some (.ref 1000), some (.ref 0), some (.ref 410), some (.int 1), o4, some (.long num), none, o7, some (.long dn), none, some (.int many), some (.int 0), some (.long now), none, some (.int 8), none]) dL_law_780 rfl (Nat.le_of_ble_eq_true rfl) ?_
    exact g781 hK (by omega) he
  · refine V_iload_n hK dL_law_734 rfl ?_
    refine V_ifeq hK (tg := 779) dL_law_735 (by decide) (fun c => absurd c (by decide)) (fun c_735 => ?_)
    refine V_iload hK dL_law_738 rfl ?_
    refine V_ifeq hK (tg := 775) dL_law_740 (by decide) (fun c => absurd c (by decide)) (fun c_740 => ?_)
    refine V_aload_n hK dL_law_743 rfl (by decide) ?_
    have hst744 : M2.1 0 12 = 0 ∨ M2.1 0 12 = 1 := Or.inr h12
    refine V_v2 hK (t := []) (isStopped_ok (d := 0) allG.core hst744).c dL_law_744 lz_642 (Nat.le_of_ble_eq_true rfl) mX9_isStopped ⟨rfl, rfl⟩ rfl (by decide) rfl rfl (Nat.le_of_ble_eq_true rfl) (by omega) ?_
    refine V_ifeq hK (tg := 779) dL_law_747 (by decide) (fun c => absurd (h12.symm.trans c) (by decide)) (fun c_747 => ?_)
    refine V_iload hK dL_law_750 rfl ?_
    refine V_bipush hK (v := 8) dL_law_752 (by decide) ?_
    refine V_icne hK (tg := 779) dL_law_754 (by decide) (fun c => absurd c (by decide)) (fun c_754 => ?_)
    refine V_lload hK dL_law_757 rfl ?_
    refine V_lload hK dL_law_759 rfl ?_
    refine V_lcmp hK dL_law_761 ?_
    refine V_ifne hK (tg := 779) dL_law_762 (by decide) (fun c => absurd (lg_self _) c) (fun c_762 => ?_)
    refine V_aload_n hK dL_law_765 rfl (by decide) ?_
    refine V_v2 hK (t := []) (done_ok (d := 0) allG.core).c dL_law_766 lz_654 (Nat.le_of_ble_eq_true rfl) mX9_done ⟨rfl, rfl⟩ rfl (by decide) rfl rfl (Nat.le_of_ble_eq_true rfl) (by omega) ?_
    refine V_lload hK dL_law_769 rfl ?_
    refine V_lcmp hK dL_law_771 ?_
    refine V_ifne hK (tg := 779) dL_law_772 (by decide) (fun c => absurd (lg_self _) c) (fun c_772 => ?_)
    refine V_iconst hK (v := 1) dL_law_775 (by decide) ?_
    refine V_goto hK (tg := 780) dL_law_776 (by decide) ?_
    refine V_istore_n hK (L' := [some (.ref 1000), some (.ref 0), some (.ref 410), some (.int 1), o4, some (.long now), none, o7, some (.long (M2.2 0)), none, some (.int 8), some (.int 1), some (.long now), none, some (.int 8), none]) dL_law_780 rfl (Nat.le_of_ble_eq_true rfl) ?_
    exact g781 hK (by omega) he
theorem g689 (hK : LK xs Lx 20000 K) {o4 o7 : Option Value} {num dn : Int64} {many D : Int32} (he : M2.1 1 0 = M1.1 1 0) (hD : D = 0 ∨ (D = 1 ∧ M2.1 0 12 = 1 ∧ many = 8 ∧ numS M2 8 = num ∧ M2.2 0 = dn)) : ∀ (m i q : Nat), i + m = 8 → q ≤ 20000 → K 689 [some (.ref 1000), some (.ref 0), some (.ref 410), some (.int 1), o4, some (.long num), none, o7, some (.long dn), none, some (.int many), some (.int D), some (.long (numS M2 i)), none, some (.int (nI i)), none] [] M1 M2 q := by
  intro m
  induction m with
  | zero =>
    intro i q hi hq
    have e : i = 8 := by omega
    refine V_iload hK dL_law_689 rfl ?_
    refine V_bipush hK (v := 8) dL_law_691 (by decide) ?_
    refine V_icge hK (tg := 734) dL_law_693 (by decide) (fun c_693 => ?_) (fun c => absurd (by rw [e]; exact Int32.le_refl _) c)
    subst e
    exact g734 hK hq he hD
  | succ m ih =>
    intro i q hi hq
    have hlt : i < 8 := by omega
    refine V_iload hK dL_law_689 rfl ?_
    refine V_bipush hK (v := 8) dL_law_691 (by decide) ?_
    refine V_icge hK (tg := 734) dL_law_693 (by decide) (fun c => absurd c (by rw [show (8 : Int32) = nI 8 from rfl]; exact nI_ge hlt (by omega))) (fun c_693 => ?_)
    refine V_ldc2 hK (v := 31) dL_law_696 lz_1080 ?_
    refine V_lload hK dL_law_699 rfl ?_
    refine V_lmul hK dL_law_701 ?_
    refine V_aload_n hK dL_law_702 rfl (by decide) ?_
    refine V_bipush hK (v := 18) dL_law_703 (by decide) ?_
    refine V_iload hK dL_law_705 rfl ?_
    refine V_s2 hK (t := [.long (31 * (numS M2 i))]) (ask18 (d := 0) allG.core (k := i) (by omega)) dL_law_707 lz_1037 (Or.inl (Nat.le_of_ble_eq_true rfl)) mL_ask ⟨rfl, rfl⟩ rfl (by decide) rfl rfl (Nat.le_of_ble_eq_true rfl) (by omega) ?_
    refine V_i2l hK dL_law_710 ?_
    refine V_ladd hK dL_law_711 ?_
    refine V_ldc2 hK (v := 7) dL_law_712 lz_1081 ?_
    refine V_aload_n hK dL_law_715 rfl (by decide) ?_
    refine V_bipush hK (v := 19) dL_law_716 (by decide) ?_
    refine V_iload hK dL_law_718 rfl ?_
    refine V_s2 hK (t := [.long 7, .long ((31 * (numS M2 i)) + (Int32.toInt64 (M2.1 378 i)))]) (ask19 (d := 0) allG.core (k := i) (by omega)) dL_law_720 lz_1037 (Or.inl (Nat.le_of_ble_eq_true rfl)) mL_ask ⟨rfl, rfl⟩ rfl (by decide) rfl rfl (Nat.le_of_ble_eq_true rfl) (by omega) ?_
    refine V_i2l hK dL_law_723 ?_
    refine V_lmul hK dL_law_724 ?_
    refine V_ladd hK dL_law_725 ?_
    refine V_lstore hK (L' := [some (.ref 1000), some (.ref 0), some (.ref 410), some (.int 1), o4, some (.long num), none, o7, some (.long dn), none, some (.int many), some (.int D), some (.long (numS M2 (i + 1))), none, some (.int (nI i)), none]) dL_law_726 rfl (Nat.le_of_ble_eq_true rfl) ?_
    refine V_iinc hK (v := nI (i + 1)) (L' := [some (.ref 1000), some (.ref 0), some (.ref 410), some (.int 1), o4, some (.long num), none, o7, some (.long dn), none, some (.int many), some (.int D), some (.long (numS M2 (i + 1))), none, some (.int (nI (i + 1))), none]) dL_law_728 rfl (inc1 _) rfl ?_
    refine V_goto hK (tg := 689) dL_law_731 (by decide) ?_
    exact ih (i + 1) _ (by omega) (by omega)
theorem g646 (hK : LK xs Lx 20000 K) {o4 o7 : Option Value} {num dn : Int64} {D : Int32} (he : M2.1 1 0 = M1.1 1 0) (hD : D = 0 ∨ (D = 1 ∧ M2.1 0 12 = 1 ∧ M2.1 405 1 = 0 ∧ numS M2 8 = num ∧ M2.2 0 = dn)) : ∀ (m i q : Nat) (z : Int32), i + m = 8 → q ≤ 20000 → z = cz M2 i → K 646 [some (.ref 1000), some (.ref 0), some (.ref 410), some (.int 1), o4, some (.long num), none, o7, some (.long dn), none, some (.int z), some (.int D), some (.int (nI i)), none, none, none] [] M1 M2 q := by
  intro m
  induction m with
  | zero =>
    intro i q z hi hq hz
    have e : i = 8 := by omega
    subst e
    have hD2 : D = 0 ∨ (D = 1 ∧ M2.1 0 12 = 1 ∧ z = 8 ∧ numS M2 8 = num ∧ M2.2 0 = dn) := hD.imp id (fun ⟨a, b, c, d⟩ => ⟨a, b, by rw [hz, cz_n c 8 (Nat.le_refl _)]; rfl, d⟩)
    refine V_iload hK dL_law_646 rfl ?_
    refine V_bipush hK (v := 8) dL_law_648 (by decide) ?_
    refine V_icge hK (tg := 683) dL_law_650 (by decide) (fun c_650 => ?_) (fun c => absurd (Int32.le_refl _) c)
    refine V_lconst hK (v := 0) dL_law_683 (by decide) ?_
    refine V_lstore hK (L' := [some (.ref 1000), some (.ref 0), some (.ref 410), some (.int 1), o4, some (.long num), none, o7, some (.long dn), none, some (.int z), some (.int D), some (.long 0), none, none, none]) dL_law_684 rfl (Nat.le_of_ble_eq_true rfl) ?_
    refine V_iconst hK (v := 0) dL_law_686 (by decide) ?_
    refine V_istore hK (L' := [some (.ref 1000), some (.ref 0), some (.ref 410), some (.int 1), o4, some (.long num), none, o7, some (.long dn), none, some (.int z), some (.int D), some (.long 0), none, some (.int 0), none]) dL_law_687 rfl (Nat.le_of_ble_eq_true rfl) ?_
    exact g689 hK he hD2 8 0 _ rfl (by omega)
  | succ m ih =>
    intro i q z hi hq hz
    have hlt : i < 8 := by omega
    refine V_iload hK dL_law_646 rfl ?_
    refine V_bipush hK (v := 8) dL_law_648 (by decide) ?_
    refine V_icge hK (tg := 683) dL_law_650 (by decide) (fun c => absurd c (by rw [show (8 : Int32) = nI 8 from rfl]; exact nI_ge hlt (by omega))) (fun c_650 => ?_)
    refine V_iload hK dL_law_653 rfl ?_
    refine V_aload_n hK dL_law_655 rfl (by decide) ?_
    refine V_bipush hK (v := 17) dL_law_656 (by decide) ?_
    refine V_iload hK dL_law_658 rfl ?_
    refine V_s2 hK (t := [.int z]) (ask17 (d := 0) allG.core (k := i) (by omega)) dL_law_660 lz_1037 (Or.inl (Nat.le_of_ble_eq_true rfl)) mL_ask ⟨rfl, rfl⟩ rfl (by decide) rfl rfl (Nat.le_of_ble_eq_true rfl) (by omega) ?_
    refine V_ifne hK (tg := 670) dL_law_663 (by decide) (fun c_663 => ?_) (fun c_663 => ?_)
    · refine V_iconst hK (v := 0) dL_law_670 (by decide) ?_
      refine V_s1 hK (t := [.int z]) (told01 (d := 0) (M := M1) (x := 0) (by decide)).c dL_law_671 lz_666 (Or.inl (Nat.le_of_ble_eq_true rfl)) mL_told ⟨rfl, rfl⟩ rfl (by decide) rfl rfl (Nat.le_of_ble_eq_true rfl) (by omega) ?_
      refine V_iadd hK dL_law_674 ?_
      refine V_istore hK (L' := [some (.ref 1000), some (.ref 0), some (.ref 410), some (.int 1), o4, some (.long num), none, o7, some (.long dn), none, some (.int (z + 0)), some (.int D), some (.int (nI i)), none, none, none]) dL_law_675 rfl (Nat.le_of_ble_eq_true rfl) ?_
      refine V_iinc hK (v := nI (i + 1)) (L' := [some (.ref 1000), some (.ref 0), some (.ref 410), some (.int 1), o4, some (.long num), none, o7, some (.long dn), none, some (.int (z + 0)), some (.int D), some (.int (nI (i + 1))), none, none, none]) dL_law_677 rfl (inc1 _) rfl ?_
      refine V_goto hK (tg := 646) dL_law_680 (by decide) ?_
      refine ih (i + 1) _ _ (by omega) (by omega) ?_
      rw [hz]
      show cz M2 i + 0 = cz M2 i + (if bI (isB1 (M2.1 405 1) (nI i)) = 0 then 1 else 0)
      rw [if_neg c_663]
    · refine V_iconst hK (v := 1) dL_law_666 (by decide) ?_
      refine V_goto hK (tg := 671) dL_law_667 (by decide) ?_
      refine V_s1 hK (t := [.int z]) (told01 (d := 0) (M := M1) (x := 1) (by decide)).c dL_law_671 lz_666 (Or.inl (Nat.le_of_ble_eq_true rfl)) mL_told ⟨rfl, rfl⟩ rfl (by decide) rfl rfl (Nat.le_of_ble_eq_true rfl) (by omega) ?_
      refine V_iadd hK dL_law_674 ?_
      refine V_istore hK (L' := [some (.ref 1000), some (.ref 0), some (.ref 410), some (.int 1), o4, some (.long num), none, o7, some (.long dn), none, some (.int (z + 1)), some (.int D), some (.int (nI i)), none, none, none]) dL_law_675 rfl (Nat.le_of_ble_eq_true rfl) ?_
      refine V_iinc hK (v := nI (i + 1)) (L' := [some (.ref 1000), some (.ref 0), some (.ref 410), some (.int 1), o4, some (.long num), none, o7, some (.long dn), none, some (.int (z + 1)), some (.int D), some (.int (nI (i + 1))), none, none, none]) dL_law_677 rfl (inc1 _) rfl ?_
      refine V_goto hK (tg := 646) dL_law_680 (by decide) ?_
      refine ih (i + 1) _ _ (by omega) (by omega) ?_
      rw [hz]
      show cz M2 i + 1 = cz M2 i + (if bI (isB1 (M2.1 405 1) (nI i)) = 0 then 1 else 0)
      rw [if_pos c_663]
theorem add_inj {a x y : Int32} (h : a + x = a + y) : x = y := (Int32.add_right_inj a).mp h
theorem n3 : ∀ j, j ≤ 3 → nI j = 3 → j = 3 := by decide
theorem g585 (hK : LK xs Lx 20000 K) {o4 : Option Value} {n s t nw : Nat} (hW : WS M2 n s t nw) (b1 : M2.1 395 1 = 1) (b3 : M2.1 395 3 = 0) (b4 : M2.1 395 4 = 0) (p0 : M2.1 408 0 = 1) (p1 : M2.1 409 0 = 0) (hn : nw + 3 ≤ 99999) (he : M2.1 1 0 = M1.1 1 0) {q : Nat} (hq : q ≤ 20000) : K 585 [some (.ref 1000), some (.ref 0), some (.ref 410), some (.int 1), o4, some (.long (numS M2 8)), none, some (.int 8), none, none, none, none, none, none, none, none] [] M1 M2 q := by
  obtain ⟨x10, hR10⟩ := deed10_ok (d := 0) (M := M2) (G := (kdAll, xs, Lx)) allG.core
  have hWD := hW.wd b1 b3 b4 p0 p1
  obtain ⟨v3, M3, hR3, ⟨x3, rfl⟩, j, hj, e1, e2, e3, -⟩ := pass3_ok (d := 0) (G := (kdAll, xs, Lx)) allG hWD hW.2.2.2.2.2.1 hW.2.2.2.2.2.2.2.2.1 hn
  have e1 : M3.1 408 3 = M2.1 408 3 + nI j := e1
  have e2 : M3.1 1 0 = M1.1 1 0 := Eq.trans e2 he
  by_cases h3 : j = 3
  · subst h3
    obtain ⟨f1, f2, f3⟩ := e3 rfl
    refine V_aload_n hK dL_law_585 rfl (by decide) ?_
    refine V_bipush hK (v := 25) dL_law_586 (by decide) ?_
    refine V_iconst hK (v := 0) dL_law_588 (by decide) ?_
    refine V_s2 hK (t := []) (ask25 (d := 0) allG.core) dL_law_589 lz_1037 (Or.inl (Nat.le_of_ble_eq_true rfl)) mL_ask ⟨rfl, rfl⟩ rfl (by decide) rfl rfl (Nat.le_of_ble_eq_true rfl) (by omega) ?_
    refine V_istore hK (L' := [some (.ref 1000), some (.ref 0), some (.ref 410), some (.int 1), o4, some (.long (numS M2 8)), none, some (.int (M2.1 408 3)), none, none, none, none, none, none, none, none]) dL_law_592 rfl (Nat.le_of_ble_eq_true rfl) ?_
    refine V_aload_n hK dL_law_594 rfl (by decide) ?_
    refine V_v2 hK (t := []) (done_ok (d := 0) allG.core).c dL_law_595 lz_654 (Nat.le_of_ble_eq_true rfl) mX9_done ⟨rfl, rfl⟩ rfl (by decide) rfl rfl (Nat.le_of_ble_eq_true rfl) (by omega) ?_
    refine V_lstore hK (L' := [some (.ref 1000), some (.ref 0), some (.ref 410), some (.int 1), o4, some (.long (numS M2 8)), none, some (.int (M2.1 408 3)), some (.long (M2.2 0)), none, none, none, none, none, none, none]) dL_law_598 rfl (Nat.le_of_ble_eq_true rfl) ?_
    refine V_iconst hK (v := 0) dL_law_600 (by decide) ?_
    refine V_istore hK (L' := [some (.ref 1000), some (.ref 0), some (.ref 410), some (.int 1), o4, some (.long (numS M2 8)), none, some (.int (M2.1 408 3)), some (.long (M2.2 0)), none, some (.int 0), none, none, none, none, none]) dL_law_601 rfl (Nat.le_of_ble_eq_true rfl) ?_
    refine V_aload_n hK dL_law_603 rfl (by decide) ?_
    refine V_bipush hK (v := 10) dL_law_604 (by decide) ?_
    refine V_iconst hK (v := 0) dL_law_606 (by decide) ?_
    refine V_iconst hK (v := 1) dL_law_607 (by decide) ?_
    refine V_iconst hK (v := 0) dL_law_608 (by decide) ?_
    refine V_iconst hK (v := 0) dL_law_609 (by decide) ?_
    refine V_iconst hK (v := 0) dL_law_610 (by decide) ?_
    refine V_iconst hK (v := 0) dL_law_611 (by decide) ?_
    refine V_s2 hK (t := []) hR10 dL_law_612 lz_669 (Or.inr rfl) mdD ⟨rfl, rfl⟩ rfl (by decide) rfl rfl (Nat.le_of_ble_eq_true rfl) (by omega) ?_
    refine V_pop hK dL_law_615 rfl ?_
    refine V_aload_n hK dL_law_616 rfl (by decide) ?_
    refine V_iconst hK (v := 3) dL_law_617 (by decide) ?_
    refine V_v2 hK (t := []) hR3.c dL_law_618 lz_365 (Nat.le_of_ble_eq_true rfl) mX9_pass ⟨rfl, rfl⟩ rfl (by decide) rfl rfl (Nat.le_of_ble_eq_true rfl) (by omega) ?_
    refine V_pop hK dL_law_621 rfl ?_
    refine V_aload_n hK dL_law_622 rfl (by decide) ?_
    refine V_bipush hK (v := 25) dL_law_623 (by decide) ?_
    refine V_iconst hK (v := 0) dL_law_625 (by decide) ?_
    refine V_s2 hK (t := []) (ask25 (d := 0) allG.core) dL_law_626 lz_1037 (Or.inl (Nat.le_of_ble_eq_true rfl)) mL_ask ⟨rfl, rfl⟩ rfl (by decide) rfl rfl (Nat.le_of_ble_eq_true rfl) (by omega) ?_
    refine V_iload hK dL_law_629 rfl ?_
    refine V_iconst hK (v := 3) dL_law_631 (by decide) ?_
    refine V_iadd hK dL_law_632 ?_
    refine V_icne hK (tg := 640) dL_law_633 (by decide) (fun c => absurd e1 c) (fun c_633 => ?_)
    refine V_iconst hK (v := 1) dL_law_636 (by decide) ?_
    refine V_goto hK (tg := 641) dL_law_637 (by decide) ?_
    refine V_istore hK (L' := [some (.ref 1000), some (.ref 0), some (.ref 410), some (.int 1), o4, some (.long (numS M2 8)), none, some (.int (M2.1 408 3)), some (.long (M2.2 0)), none, some (.int 0), some (.int 1), none, none, none, none]) dL_law_641 rfl (Nat.le_of_ble_eq_true rfl) ?_
    refine V_iconst hK (v := 0) dL_law_643 (by decide) ?_
    refine V_istore hK (L' := [some (.ref 1000), some (.ref 0), some (.ref 410), some (.int 1), o4, some (.long (numS M2 8)), none, some (.int (M2.1 408 3)), some (.long (M2.2 0)), none, some (.int 0), some (.int 1), some (.int 0), none, none, none]) dL_law_644 rfl (Nat.le_of_ble_eq_true rfl) ?_
    exact g646 hK e2 (Or.inr ⟨rfl, f1, f2, numS_cg 8 f3.1, f3.2⟩) 8 0 _ _ rfl (by omega) rfl
  · have hne : ¬ M3.1 408 3 = M2.1 408 3 + 3 := fun z => h3 (n3 j hj (add_inj (e1.symm.trans z)))
    refine V_aload_n hK dL_law_585 rfl (by decide) ?_
    refine V_bipush hK (v := 25) dL_law_586 (by decide) ?_
    refine V_iconst hK (v := 0) dL_law_588 (by decide) ?_
    refine V_s2 hK (t := []) (ask25 (d := 0) allG.core) dL_law_589 lz_1037 (Or.inl (Nat.le_of_ble_eq_true rfl)) mL_ask ⟨rfl, rfl⟩ rfl (by decide) rfl rfl (Nat.le_of_ble_eq_true rfl) (by omega) ?_
    refine V_istore hK (L' := [some (.ref 1000), some (.ref 0), some (.ref 410), some (.int 1), o4, some (.long (numS M2 8)), none, some (.int (M2.1 408 3)), none, none, none, none, none, none, none, none]) dL_law_592 rfl (Nat.le_of_ble_eq_true rfl) ?_
    refine V_aload_n hK dL_law_594 rfl (by decide) ?_
    refine V_v2 hK (t := []) (done_ok (d := 0) allG.core).c dL_law_595 lz_654 (Nat.le_of_ble_eq_true rfl) mX9_done ⟨rfl, rfl⟩ rfl (by decide) rfl rfl (Nat.le_of_ble_eq_true rfl) (by omega) ?_
    refine V_lstore hK (L' := [some (.ref 1000), some (.ref 0), some (.ref 410), some (.int 1), o4, some (.long (numS M2 8)), none, some (.int (M2.1 408 3)), some (.long (M2.2 0)), none, none, none, none, none, none, none]) dL_law_598 rfl (Nat.le_of_ble_eq_true rfl) ?_
    refine V_iconst hK (v := 0) dL_law_600 (by decide) ?_
    refine V_istore hK (L' := [some (.ref 1000), some (.ref 0), some (.ref 410), some (.int 1), o4, some (.long (numS M2 8)), none, some (.int (M2.1 408 3)), some (.long (M2.2 0)), none, some (.int 0), none, none, none, none, none]) dL_law_601 rfl (Nat.le_of_ble_eq_true rfl) ?_
    refine V_aload_n hK dL_law_603 rfl (by decide) ?_
    refine V_bipush hK (v := 10) dL_law_604 (by decide) ?_
    refine V_iconst hK (v := 0) dL_law_606 (by decide) ?_
    refine V_iconst hK (v := 1) dL_law_607 (by decide) ?_
    refine V_iconst hK (v := 0) dL_law_608 (by decide) ?_
    refine V_iconst hK (v := 0) dL_law_609 (by decide) ?_
    refine V_iconst hK (v := 0) dL_law_610 (by decide) ?_
    refine V_iconst hK (v := 0) dL_law_611 (by decide) ?_
    refine V_s2 hK (t := []) hR10 dL_law_612 lz_669 (Or.inr rfl) mdD ⟨rfl, rfl⟩ rfl (by decide) rfl rfl (Nat.le_of_ble_eq_true rfl) (by omega) ?_
    refine V_pop hK dL_law_615 rfl ?_
    refine V_aload_n hK dL_law_616 rfl (by decide) ?_
    refine V_iconst hK (v := 3) dL_law_617 (by decide) ?_
    refine V_v2 hK (t := []) hR3.c dL_law_618 lz_365 (Nat.le_of_ble_eq_true rfl) mX9_pass ⟨rfl, rfl⟩ rfl (by decide) rfl rfl (Nat.le_of_ble_eq_true rfl) (by omega) ?_
    refine V_pop hK dL_law_621 rfl ?_
    refine V_aload_n hK dL_law_622 rfl (by decide) ?_
    refine V_bipush hK (v := 25) dL_law_623 (by decide) ?_
    refine V_iconst hK (v := 0) dL_law_625 (by decide) ?_
    refine V_s2 hK (t := []) (ask25 (d := 0) allG.core) dL_law_626 lz_1037 (Or.inl (Nat.le_of_ble_eq_true rfl)) mL_ask ⟨rfl, rfl⟩ rfl (by decide) rfl rfl (Nat.le_of_ble_eq_true rfl) (by omega) ?_
    refine V_iload hK dL_law_629 rfl ?_
    refine V_iconst hK (v := 3) dL_law_631 (by decide) ?_
    refine V_iadd hK dL_law_632 ?_
    refine V_icne hK (tg := 640) dL_law_633 (by decide) (fun c_633 => ?_) (fun c => absurd c hne)
    refine V_iconst hK (v := 0) dL_law_640 (by decide) ?_
    refine V_istore hK (L' := [some (.ref 1000), some (.ref 0), some (.ref 410), some (.int 1), o4, some (.long (numS M2 8)), none, some (.int (M2.1 408 3)), some (.long (M2.2 0)), none, some (.int 0), some (.int 0), none, none, none, none]) dL_law_641 rfl (Nat.le_of_ble_eq_true rfl) ?_
    refine V_iconst hK (v := 0) dL_law_643 (by decide) ?_
    refine V_istore hK (L' := [some (.ref 1000), some (.ref 0), some (.ref 410), some (.int 1), o4, some (.long (numS M2 8)), none, some (.int (M2.1 408 3)), some (.long (M2.2 0)), none, some (.int 0), some (.int 0), some (.int 0), none, none, none]) dL_law_644 rfl (Nat.le_of_ble_eq_true rfl) ?_
    exact g646 hK e2 (Or.inl rfl) 8 0 _ _ rfl (by omega) rfl
theorem g540 (hK : LK xs Lx 20000 K) {k4 : Int32} {n s t nw : Nat} (hW : WS M2 n s t nw) (b1 : M2.1 395 1 = 1) (b3 : M2.1 395 3 = 0) (b4 : M2.1 395 4 = 0) (p0 : M2.1 408 0 = 1) (p1 : M2.1 409 0 = 0) (hn : nw + 3 ≤ 99999) (he : M2.1 1 0 = M1.1 1 0) : ∀ (m i q : Nat), i + m = 8 → q ≤ 20000 → K 540 [some (.ref 1000), some (.ref 0), some (.ref 410), some (.int 1), some (.int k4), some (.long (numS M2 i)), none, some (.int (nI i)), none, none, none, none, none, none, none, none] [] M1 M2 q := by
  intro m
  induction m with
  | zero =>
    intro i q hi hq
    have e : i = 8 := by omega
    refine V_iload hK dL_law_540 rfl ?_
    refine V_bipush hK (v := 8) dL_law_542 (by decide) ?_
    refine V_icge hK (tg := 585) dL_law_544 (by decide) (fun c_544 => ?_) (fun c => absurd (by rw [e]; exact Int32.le_refl _) c)
    subst e
    exact g585 hK hW b1 b3 b4 p0 p1 hn he hq
  | succ m ih =>
    intro i q hi hq
    have hlt : i < 8 := by omega
    refine V_iload hK dL_law_540 rfl ?_
    refine V_bipush hK (v := 8) dL_law_542 (by decide) ?_
    refine V_icge hK (tg := 585) dL_law_544 (by decide) (fun c => absurd c (by rw [show (8 : Int32) = nI 8 from rfl]; exact nI_ge hlt (by omega))) (fun c_544 => ?_)
    refine V_ldc2 hK (v := 31) dL_law_547 lz_1080 ?_
    refine V_lload hK dL_law_550 rfl ?_
    refine V_lmul hK dL_law_552 ?_
    refine V_aload_n hK dL_law_553 rfl (by decide) ?_
    refine V_bipush hK (v := 18) dL_law_554 (by decide) ?_
    refine V_iload hK dL_law_556 rfl ?_
    refine V_s2 hK (t := [.long (31 * (numS M2 i))]) (ask18 (d := 0) allG.core (k := i) (by omega)) dL_law_558 lz_1037 (Or.inl (Nat.le_of_ble_eq_true rfl)) mL_ask ⟨rfl, rfl⟩ rfl (by decide) rfl rfl (Nat.le_of_ble_eq_true rfl) (by omega) ?_
    refine V_i2l hK dL_law_561 ?_
    refine V_ladd hK dL_law_562 ?_
    refine V_ldc2 hK (v := 7) dL_law_563 lz_1081 ?_
    refine V_aload_n hK dL_law_566 rfl (by decide) ?_
    refine V_bipush hK (v := 19) dL_law_567 (by decide) ?_
    refine V_iload hK dL_law_569 rfl ?_
    refine V_s2 hK (t := [.long 7, .long ((31 * (numS M2 i)) + (Int32.toInt64 (M2.1 378 i)))]) (ask19 (d := 0) allG.core (k := i) (by omega)) dL_law_571 lz_1037 (Or.inl (Nat.le_of_ble_eq_true rfl)) mL_ask ⟨rfl, rfl⟩ rfl (by decide) rfl rfl (Nat.le_of_ble_eq_true rfl) (by omega) ?_
    refine V_i2l hK dL_law_574 ?_
    refine V_lmul hK dL_law_575 ?_
    refine V_ladd hK dL_law_576 ?_
    refine V_lstore hK (L' := [some (.ref 1000), some (.ref 0), some (.ref 410), some (.int 1), some (.int k4), some (.long (numS M2 (i + 1))), none, some (.int (nI i)), none, none, none, none, none, none, none, none]) dL_law_577 rfl (Nat.le_of_ble_eq_true rfl) ?_
    refine V_iinc hK (v := nI (i + 1)) (L' := [some (.ref 1000), some (.ref 0), some (.ref 410), some (.int 1), some (.int k4), some (.long (numS M2 (i + 1))), none, some (.int (nI (i + 1))), none, none, none, none, none, none, none, none]) dL_law_579 rfl (inc1 _) rfl ?_
    refine V_goto hK (tg := 540) dL_law_582 (by decide) ?_
    exact ih (i + 1) _ (by omega) (by omega)
theorem g473 (hK : LK xs Lx 20000 K) {o5 : Option Value} {k4 : Int32} {Mc U1 U2 : Mem} {n s t nw : Nat} (hW : WS Mc n s t nw) (a1 : U1.1 395 1 = 0) (a3 : U1.1 395 3 = 0) (b1 : U2.1 395 1 = 1) (b3 : U2.1 395 3 = 0) (b4 : U2.1 395 4 = 0) (hn : nw + 3 ≤ 99999) {q : Nat} (hq : q ≤ 20000) : K 473 [some (.ref 1000), some (.ref 0), some (.ref 410), some (.int 1), some (.int k4), o5, none, none, none, none, none, none, none, none, none, none] [] (mx Mc U1) (mx Mc U2) q := by
  have a1 : (mx Mc U1).1 395 1 = 0 := a1
  have a3 : (mx Mc U1).1 395 3 = 0 := a3
  have b1 : (mx Mc U2).1 395 1 = 1 := b1
  have hR1 := come_yes (d := 0) (G := (kdAll, xs, Lx)) allG a1 a3
  have hR2 := come_no3 (d := 0) (G := (kdAll, xs, Lx)) (M := pI (mx Mc U1) 395 3 1) allG a1 rfl
  have hR3 := come_no1 (d := 0) (G := (kdAll, xs, Lx)) allG b1
  obtain ⟨x5, hR5⟩ := deed8_ok (d := 0) (G := (kdAll, xs, Lx)) (M := mx Mc U2) allG.core (t := 0) (by decide) 1 (by decide)
  obtain ⟨x6, hR6⟩ := deed8_ok (d := 0) (G := (kdAll, xs, Lx)) (M := pI (mx Mc U2) (408 + 0) 0 1) allG.core (t := 1) (by decide) 0 (by decide)
  have hWm : WS (mx Mc U2) n s t nw := hW.kw (fun c s _ h => mx_out h)
  have hW2 := (hWm.per (k := 0) (by decide) (p := 1)).per (k := 1) (by decide) (p := 0)
  refine V_aload_n hK dL_law_473 rfl (by decide) ?_
  refine V_v1 hK (t := []) hR1.c dL_law_474 lz_610 (Nat.le_of_ble_eq_true rfl) mX9_come ⟨rfl, rfl⟩ rfl (by decide) rfl rfl (Nat.le_of_ble_eq_true rfl) (by omega) ?_
  refine V_istore hK (L' := [some (.ref 1000), some (.ref 0), some (.ref 410), some (.int 1), some (.int 1), o5, none, none, none, none, none, none, none, none, none, none]) dL_law_477 rfl (Nat.le_of_ble_eq_true rfl) ?_
  refine V_iload_n hK dL_law_479 rfl ?_
  refine V_ifeq hK (tg := 506) dL_law_480 (by decide) (fun c => absurd c (by decide)) (fun c_480 => ?_)
  refine V_iload hK dL_law_483 rfl ?_
  refine V_ifeq hK (tg := 506) dL_law_485 (by decide) (fun c => absurd c (by decide)) (fun c_485 => ?_)
  refine V_aload_n hK dL_law_488 rfl (by decide) ?_
  refine V_v1 hK (t := []) hR2.c dL_law_489 lz_610 (Nat.le_of_ble_eq_true rfl) mX9_come ⟨rfl, rfl⟩ rfl (by decide) rfl rfl (Nat.le_of_ble_eq_true rfl) (by omega) ?_
  refine V_ifne hK (tg := 506) dL_law_492 (by decide) (fun c => absurd c (by decide)) (fun c_492 => ?_)
  refine V_aload_n hK dL_law_495 rfl (by decide) ?_
  refine V_v2 hK (t := []) hR3.c dL_law_496 lz_610 (Nat.le_of_ble_eq_true rfl) mX9_come ⟨rfl, rfl⟩ rfl (by decide) rfl rfl (Nat.le_of_ble_eq_true rfl) (by omega) ?_
  refine V_ifne hK (tg := 506) dL_law_499 (by decide) (fun c => absurd c (by decide)) (fun c_499 => ?_)
  refine V_iconst hK (v := 1) dL_law_502 (by decide) ?_
  refine V_goto hK (tg := 507) dL_law_503 (by decide) ?_
  refine V_istore_n hK (L' := [some (.ref 1000), some (.ref 0), some (.ref 410), some (.int 1), some (.int 1), o5, none, none, none, none, none, none, none, none, none, none]) dL_law_507 rfl (Nat.le_of_ble_eq_true rfl) ?_
  refine V_aload_n hK dL_law_508 rfl (by decide) ?_
  refine V_bipush hK (v := 8) dL_law_509 (by decide) ?_
  refine V_iconst hK (v := 0) dL_law_511 (by decide) ?_
  refine V_iconst hK (v := 1) dL_law_512 (by decide) ?_
  refine V_iconst hK (v := 0) dL_law_513 (by decide) ?_
  refine V_iconst hK (v := 0) dL_law_514 (by decide) ?_
  refine V_iconst hK (v := 0) dL_law_515 (by decide) ?_
  refine V_iconst hK (v := 0) dL_law_516 (by decide) ?_
  refine V_s2 hK (t := []) hR5 dL_law_517 lz_669 (Or.inr rfl) mdD ⟨rfl, rfl⟩ rfl (by decide) rfl rfl (Nat.le_of_ble_eq_true rfl) (by omega) ?_
  refine V_pop hK dL_law_520 rfl ?_
  refine V_aload_n hK dL_law_521 rfl (by decide) ?_
  refine V_bipush hK (v := 8) dL_law_522 (by decide) ?_
  refine V_iconst hK (v := 1) dL_law_524 (by decide) ?_
  refine V_iconst hK (v := 0) dL_law_525 (by decide) ?_
  refine V_iconst hK (v := 0) dL_law_526 (by decide) ?_
  refine V_iconst hK (v := 0) dL_law_527 (by decide) ?_
  refine V_iconst hK (v := 0) dL_law_528 (by decide) ?_
  refine V_iconst hK (v := 0) dL_law_529 (by decide) ?_
  refine V_s2 hK (t := []) hR6 dL_law_530 lz_669 (Or.inr rfl) mdD ⟨rfl, rfl⟩ rfl (by decide) rfl rfl (Nat.le_of_ble_eq_true rfl) (by omega) ?_
  refine V_pop hK dL_law_533 rfl ?_
  refine V_lconst hK (v := 0) dL_law_534 (by decide) ?_
  refine V_lstore hK (L' := [some (.ref 1000), some (.ref 0), some (.ref 410), some (.int 1), some (.int 1), some (.long 0), none, none, none, none, none, none, none, none, none, none]) dL_law_535 rfl (Nat.le_of_ble_eq_true rfl) ?_
  refine V_iconst hK (v := 0) dL_law_537 (by decide) ?_
  refine V_istore hK (L' := [some (.ref 1000), some (.ref 0), some (.ref 410), some (.int 1), some (.int 1), some (.long 0), none, some (.int 0), none, none, none, none, none, none, none, none]) dL_law_538 rfl (Nat.le_of_ble_eq_true rfl) ?_
  exact g540 (M1 := pI (mx Mc U1) 395 3 1) hK hW2 b1 b3 b4 rfl rfl hn rfl 8 0 _ rfl (by omega)
end SP45
