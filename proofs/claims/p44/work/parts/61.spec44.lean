section SP44
theorem lz_365 : Cond.methodLink "RungmasterLaw" 67 ⟨"Rungmaster", "pass", "(I)I"⟩ ∈ Wg := wg 365 (by decide +kernel) (by decide +kernel)
theorem lz_606 : Cond.methodLink "RungmasterLaw" 203 ⟨"Rungmaster", "fail", "()Z"⟩ ∈ Wg := wg 606 (by decide +kernel) (by decide +kernel)
theorem lz_610 : Cond.methodLink "RungmasterLaw" 206 ⟨"Rungmaster", "come", "()Z"⟩ ∈ Wg := wg 610 (by decide +kernel) (by decide +kernel)
theorem lz_614 : Cond.methodLink "RungmasterLaw" 209 ⟨"Rungmaster", "reset", "()I"⟩ ∈ Wg := wg 614 (by decide +kernel) (by decide +kernel)
theorem lz_634 : Cond.methodLink "RungmasterLaw" 162 ⟨"Rungmaster", "alarms", "()I"⟩ ∈ Wg := wg 634 (by decide +kernel) (by decide +kernel)
theorem lz_638 : Cond.methodLink "RungmasterLaw" 153 ⟨"Rungmaster", "time", "()I"⟩ ∈ Wg := wg 638 (by decide +kernel) (by decide +kernel)
theorem lz_642 : Cond.methodLink "RungmasterLaw" 173 ⟨"Rungmaster", "isStopped", "()Z"⟩ ∈ Wg := wg 642 (by decide +kernel) (by decide +kernel)
theorem lz_646 : Cond.methodLink "RungmasterLaw" 200 ⟨"Rungmaster", "isInStep", "()Z"⟩ ∈ Wg := wg 646 (by decide +kernel) (by decide +kernel)
theorem lz_650 : Cond.methodLink "RungmasterLaw" 212 ⟨"Rungmaster", "rungs", "()I"⟩ ∈ Wg := wg 650 (by decide +kernel) (by decide +kernel)
theorem lz_654 : Cond.methodLink "RungmasterLaw" 167 ⟨"Rungmaster", "done", "()J"⟩ ∈ Wg := wg 654 (by decide +kernel) (by decide +kernel)
theorem lz_658 : Cond.methodLink "RungmasterLaw" 131 ⟨"RungmasterLaw", "pick", "([III)I"⟩ ∈ Wg := wg 658 (by decide +kernel) (by decide +kernel)
theorem lz_666 : Cond.methodLink "RungmasterLaw" 43 ⟨"RungmasterLaw", "told", "(Z)I"⟩ ∈ Wg := wg 666 (by decide +kernel) (by decide +kernel)
theorem lz_669 : Cond.methodLink "RungmasterLaw" 125 ⟨"RungmasterLaw", "deed", "(LRungmaster;IIIIIII)I"⟩ ∈ Wg := wg 669 (by decide +kernel) (by decide +kernel)
theorem lz_1037 : Cond.methodLink "RungmasterLaw" 158 ⟨"RungmasterLaw", "ask", "(LRungmaster;II)I"⟩ ∈ Wg := wg 1037 (by decide +kernel) (by decide +kernel)
theorem lz_1040 : Cond.methodLink "RungmasterLaw" 185 ⟨"RungmasterLaw", "build", "(LRungmaster;[II)V"⟩ ∈ Wg := wg 1040 (by decide +kernel) (by decide +kernel)
theorem lz_1077 : Cond.methodLink "RungmasterLaw" 192 ⟨"RungmasterLaw", "all", "(LRungmaster;)J"⟩ ∈ Wg := wg 1077 (by decide +kernel) (by decide +kernel)
theorem lz_1080 : Cond.constantLong "RungmasterLaw" 156 (31 : Int64) ∈ Wg := wg 1080 (by decide +kernel) (by decide +kernel)
theorem lz_1081 : Cond.constantLong "RungmasterLaw" 165 (7 : Int64) ∈ Wg := wg 1081 (by decide +kernel) (by decide +kernel)
theorem lz_1083 : Cond.methodLink "RungmasterLaw" 196 ⟨"RungmasterLaw", "isWhole", "(LRungmaster;)Z"⟩ ∈ Wg := wg 1083 (by decide +kernel) (by decide +kernel)
theorem lz_1094 : Cond.methodLink "RungmasterLaw" 189 ⟨"RungmasterLaw", "happens", "(LRungmaster;[II)V"⟩ ∈ Wg := wg 1094 (by decide +kernel) (by decide +kernel)
variable {xs : Nat → Int32} {Lx : Nat} {K : KT} {M1 M2 : Mem}
theorem allG : All (kdAll, xs, Lx) := fun _ _ => rfl
theorem lg_self (x : Int64) : lg_cmp x x = 0 := (lg_cmp_eq x x).mpr rfl
theorem ltr0 {M : Mem} {k : Nat} (h1 : M.1 384 k = 0) (h2 : M.1 383 0 = 0) (hk : k < 8) : ltr M 0 k = 110 := by
  unfold ltr
  rw [if_neg (by rw [h1]; decide), if_neg (by rw [h2, isB1_iff (by omega), b_0]; decide), if_neg (by show ¬ 0 < cnt _ _ 0; exact Nat.lt_irrefl 0)]
theorem g923 (hK : LK xs Lx 20000 K) {q : Nat} {o4 o5 o6 o7 o8 o9 o10 o11 o12 o13 o14 o15 : Option Value} (hq : q ≤ 20000) (he : M2.1 1 0 = M1.1 1 0) : K 923 [some (.ref 1000), some (.ref 0), some (.ref 410), some (.int 1), o4, o5, o6, o7, o8, o9, o10, o11, o12, o13, o14, o15] [] M1 M2 q := by
  refine V_iload_n hK dL_law_923 rfl ?_
  refine V_ifeq hK (tg := 942) dL_law_924 (by decide) (fun c => absurd c (by decide)) (fun c_924 => ?_)
  refine V_aload_n hK dL_law_927 rfl (by decide) ?_
  refine V_v2 hK (t := []) (rungs_ok (d := 0) allG.core).c dL_law_928 lz_650 (Nat.le_of_ble_eq_true rfl) mX9_rungs ⟨rfl, rfl⟩ rfl (by decide) rfl rfl (Nat.le_of_ble_eq_true rfl) (by omega) ?_
  refine V_aload_n hK dL_law_931 rfl (by decide) ?_
  refine V_v1 hK (t := [.int (M2.1 1 0)]) (rungs_ok (d := 0) allG.core).c dL_law_932 lz_650 (Nat.le_of_ble_eq_true rfl) mX9_rungs ⟨rfl, rfl⟩ rfl (by decide) rfl rfl (Nat.le_of_ble_eq_true rfl) (by omega) ?_
  refine V_icne hK (tg := 942) dL_law_935 (by decide) (fun c => absurd he c) (fun c_935 => ?_)
  refine V_iconst hK (v := 1) dL_law_938 (by decide) ?_
  refine V_goto hK (tg := 943) dL_law_939 (by decide) ?_
  exact V_ret hK dL_law_943 (by omega)
theorem g865 (hK : LK xs Lx 20000 K) {o4 o5 o6 o7 o8 o9 o10 o11 o12 : Option Value} {t : Int32} (h1 : ∀ k, k < 8 → M2.1 378 k = 0 ∧ M2.1 379 k = 0) (h2 : ∀ k, k < 8 → ltr M2 0 k = 110) (hl0 : M2.1 383 4 = nI 0) (he : M2.1 1 0 = M1.1 1 0) : ∀ (m i q : Nat), i + m = 8 → q ≤ 20000 → K 865 [some (.ref 1000), some (.ref 0), some (.ref 410), some (.int 1), o4, o5, o6, o7, o8, o9, o10, o11, o12, none, some (.int t), some (.int (nI i))] [] M1 M2 q := by
  intro m
  induction m with
  | zero =>
    intro i q hi hq
    have e : i = 8 := by omega
    refine V_iload hK dL_law_865 rfl ?_
    refine V_bipush hK (v := 8) dL_law_867 (by decide) ?_
    refine V_icge hK (tg := 923) dL_law_869 (by decide) (fun c_869 => ?_) (fun c => absurd (by rw [e]; exact Int32.le_refl _) c)
    exact g923 hK hq he
  | succ m ih =>
    intro i q hi hq
    have hlt : i < 8 := by omega
    refine V_iload hK dL_law_865 rfl ?_
    refine V_bipush hK (v := 8) dL_law_867 (by decide) ?_
    refine V_icge hK (tg := 923) dL_law_869 (by decide) (fun c => absurd c (by rw [show (8 : Int32) = nI 8 from rfl]; exact nI_ge hlt (by omega))) (fun c_869 => ?_)
    refine V_iload_n hK dL_law_872 rfl ?_
    refine V_ifeq hK (tg := 923) dL_law_873 (by decide) (fun c => absurd c (by decide)) (fun c_873 => ?_)
    refine V_aload_n hK dL_law_876 rfl (by decide) ?_
    refine V_bipush hK (v := 18) dL_law_877 (by decide) ?_
    refine V_iload hK dL_law_879 rfl ?_
    refine V_s2 hK (t := []) (ask18 (d := 0) allG.core (k := i) (by omega)) dL_law_881 lz_1037 (Or.inl (Nat.le_of_ble_eq_true rfl)) mL_ask ⟨rfl, rfl⟩ rfl (by decide) rfl rfl (Nat.le_of_ble_eq_true rfl) (by omega) ?_
    refine V_ifne hK (tg := 915) dL_law_884 (by decide) (fun c => absurd (h1 i hlt).1 c) (fun c_884 => ?_)
    refine V_aload_n hK dL_law_887 rfl (by decide) ?_
    refine V_bipush hK (v := 19) dL_law_888 (by decide) ?_
    refine V_iload hK dL_law_890 rfl ?_
    refine V_s2 hK (t := []) (ask19 (d := 0) allG.core (k := i) (by omega)) dL_law_892 lz_1037 (Or.inl (Nat.le_of_ble_eq_true rfl)) mL_ask ⟨rfl, rfl⟩ rfl (by decide) rfl rfl (Nat.le_of_ble_eq_true rfl) (by omega) ?_
    refine V_ifne hK (tg := 915) dL_law_895 (by decide) (fun c => absurd (h1 i hlt).2 c) (fun c_895 => ?_)
    refine V_aload_n hK dL_law_898 rfl (by decide) ?_
    refine V_bipush hK (v := 22) dL_law_899 (by decide) ?_
    refine V_iload hK dL_law_901 rfl ?_
    refine V_s2 hK (t := []) (ask22 (d := 0) allG.core (n := 0) (k := i) (by omega) (by decide) hl0) dL_law_903 lz_1037 (Or.inl (Nat.le_of_ble_eq_true rfl)) mL_ask ⟨rfl, rfl⟩ rfl (by decide) rfl rfl (Nat.le_of_ble_eq_true rfl) (by omega) ?_
    refine V_bipush hK (v := 110) dL_law_906 (by decide) ?_
    refine V_icne hK (tg := 915) dL_law_908 (by decide) (fun c => absurd (h2 i hlt) c) (fun c_908 => ?_)
    refine V_iconst hK (v := 1) dL_law_911 (by decide) ?_
    refine V_goto hK (tg := 916) dL_law_912 (by decide) ?_
    refine V_istore_n hK (L' := [some (.ref 1000), some (.ref 0), some (.ref 410), some (.int 1), o4, o5, o6, o7, o8, o9, o10, o11, o12, none, some (.int t), some (.int (nI i))]) dL_law_916 rfl (Nat.le_of_ble_eq_true rfl) ?_
    refine V_iinc hK (v := nI (i + 1)) (L' := [some (.ref 1000), some (.ref 0), some (.ref 410), some (.int 1), o4, o5, o6, o7, o8, o9, o10, o11, o12, none, some (.int t), some (.int (nI (i + 1)))]) dL_law_917 rfl (inc1 _) rfl ?_
    refine V_goto hK (tg := 865) dL_law_920 (by decide) ?_
    exact ih (i + 1) _ (by omega) (by omega)
theorem g781 (hK : LK xs Lx 20000 K) {q : Nat} {o4 o5 o6 o7 o8 o9 o10 o11 o12 : Option Value} (hq : q ≤ 20000) (he : M2.1 1 0 = M1.1 1 0) {o14 : Option Value} : K 781 [some (.ref 1000), some (.ref 0), some (.ref 410), some (.int 1), o4, o5, o6, o7, o8, o9, o10, o11, o12, none, o14, none] [] M1 M2 q := by
  obtain ⟨vr, M3, hR, rfl, ⟨z1, z2, z3, z4, z5, z6⟩, h12, h1, h2, h7, hkp⟩ := reset_ok (d := 0) (G := (kdAll, xs, Lx)) (M := M2) allG
  obtain ⟨vf, M4, hRf, rfl, f12, f405, fkp⟩ := fail_no (d := 0) (G := (kdAll, xs, Lx)) (M := M3) allG h1 h2
  have hst801 : M3.1 0 12 = 0 ∨ M3.1 0 12 = 1 := Or.inl h12
  have hst850 : M4.1 0 12 = 0 ∨ M4.1 0 12 = 1 := Or.inr f12
  have his808 : M3.1 395 1 = 0 ∨ M3.1 395 1 = 1 := Or.inr h1
  have hb0 : isB1 (M3.1 377 1) (nI 0) := by rw [z1]; decide
  have h20 : bI (isB1 (M3.1 377 1) (nI 0)) = 1 := bI_t hb0
  have k4 : ∀ c s, 0 < c → c < 395 → M4.1 c s = M3.1 c s := fun c s a b => fkp c s (by omega) (by omega) (by omega) (Or.inl (by omega))
  refine V_aload_n hK dL_law_781 rfl (by decide) ?_
  refine V_v2 hK (t := []) hR.c dL_law_782 lz_614 (Nat.le_of_ble_eq_true rfl) mX9_reset ⟨rfl, rfl⟩ rfl (by decide) rfl rfl (Nat.le_of_ble_eq_true rfl) (by omega) ?_
  refine V_istore hK (L' := [some (.ref 1000), some (.ref 0), some (.ref 410), some (.int 1), o4, o5, o6, o7, o8, o9, o10, o11, o12, none, some (.int (M2.1 0 7)), none]) dL_law_785 rfl (Nat.le_of_ble_eq_true rfl) ?_
  refine V_iload_n hK dL_law_787 rfl ?_
  refine V_ifeq hK (tg := 860) dL_law_788 (by decide) (fun c => absurd c (by decide)) (fun c_788 => ?_)
  refine V_iload hK dL_law_791 rfl ?_
  refine V_aload_n hK dL_law_793 rfl (by decide) ?_
  refine V_v2 hK (t := [.int (M2.1 0 7)]) (time_ok (d := 0) allG.core).c dL_law_794 lz_638 (Nat.le_of_ble_eq_true rfl) mX9_time ⟨rfl, rfl⟩ rfl (by decide) rfl rfl (Nat.le_of_ble_eq_true rfl) (by omega) ?_
  refine V_icne hK (tg := 860) dL_law_797 (by decide) (fun c => absurd h7.symm c) (fun c_797 => ?_)
  refine V_aload_n hK dL_law_800 rfl (by decide) ?_
  refine V_v2 hK (t := []) (isStopped_ok (d := 0) allG.core hst801).c dL_law_801 lz_642 (Nat.le_of_ble_eq_true rfl) mX9_isStopped ⟨rfl, rfl⟩ rfl (by decide) rfl rfl (Nat.le_of_ble_eq_true rfl) (by omega) ?_
  refine V_ifne hK (tg := 860) dL_law_804 (by decide) (fun c => absurd h12 c) (fun c_804 => ?_)
  refine V_aload_n hK dL_law_807 rfl (by decide) ?_
  refine V_v2 hK (t := []) (isInStep_ok (d := 0) allG his808).c dL_law_808 lz_646 (Nat.le_of_ble_eq_true rfl) mX9_isInStep ⟨rfl, rfl⟩ rfl (by decide) rfl rfl (Nat.le_of_ble_eq_true rfl) (by omega) ?_
  refine V_ifeq hK (tg := 860) dL_law_811 (by decide) (fun c => absurd (h1.symm.trans c) (by decide)) (fun c_811 => ?_)
  refine V_aload_n hK dL_law_814 rfl (by decide) ?_
  refine V_v2 hK (t := []) (alarms_ok (d := 0) allG.core).c dL_law_815 lz_634 (Nat.le_of_ble_eq_true rfl) mX9_alarms ⟨rfl, rfl⟩ rfl (by decide) rfl rfl (Nat.le_of_ble_eq_true rfl) (by omega) ?_
  refine V_ifne hK (tg := 860) dL_law_818 (by decide) (fun c => absurd z5 c) (fun c_818 => ?_)
  refine V_aload_n hK dL_law_821 rfl (by decide) ?_
  refine V_bipush hK (v := 20) dL_law_822 (by decide) ?_
  refine V_iconst hK (v := 0) dL_law_824 (by decide) ?_
  refine V_s2 hK (t := []) (ask20 (d := 0) allG.core (k := 0) (by decide)) dL_law_825 lz_1037 (Or.inl (Nat.le_of_ble_eq_true rfl)) mL_ask ⟨rfl, rfl⟩ rfl (by decide) rfl rfl (Nat.le_of_ble_eq_true rfl) (by omega) ?_
  refine V_iconst hK (v := 1) dL_law_828 (by decide) ?_
  refine V_icne hK (tg := 860) dL_law_829 (by decide) (fun c => absurd h20 c) (fun c_829 => ?_)
  refine V_aload_n hK dL_law_832 rfl (by decide) ?_
  refine V_bipush hK (v := 21) dL_law_833 (by decide) ?_
  refine V_iconst hK (v := 0) dL_law_835 (by decide) ?_
  refine V_s2 hK (t := []) (ask21y (d := 0) allG.core (k := 0) (by decide) hb0) dL_law_836 lz_1037 (Or.inl (Nat.le_of_ble_eq_true rfl)) mL_ask ⟨rfl, rfl⟩ rfl (by decide) rfl rfl (Nat.le_of_ble_eq_true rfl) (by omega) ?_
  refine V_ifne hK (tg := 860) dL_law_839 (by decide) (fun c => absurd (z3 0 (by decide)) c) (fun c_839 => ?_)
  refine V_aload_n hK dL_law_842 rfl (by decide) ?_
  refine V_v2 hK (t := []) hRf.c dL_law_843 lz_606 (Nat.le_of_ble_eq_true rfl) mX9_fail ⟨rfl, rfl⟩ rfl (by decide) rfl rfl (Nat.le_of_ble_eq_true rfl) (by omega) ?_
  refine V_ifne hK (tg := 860) dL_law_846 (by decide) (fun c => absurd c (by decide)) (fun c_846 => ?_)
  refine V_aload_n hK dL_law_849 rfl (by decide) ?_
  refine V_v2 hK (t := []) (isStopped_ok (d := 0) allG.core hst850).c dL_law_850 lz_642 (Nat.le_of_ble_eq_true rfl) mX9_isStopped ⟨rfl, rfl⟩ rfl (by decide) rfl rfl (Nat.le_of_ble_eq_true rfl) (by omega) ?_
  refine V_ifeq hK (tg := 860) dL_law_853 (by decide) (fun c => absurd (f12.symm.trans c) (by decide)) (fun c_853 => ?_)
  refine V_iconst hK (v := 1) dL_law_856 (by decide) ?_
  refine V_goto hK (tg := 861) dL_law_857 (by decide) ?_
  refine V_istore_n hK (L' := [some (.ref 1000), some (.ref 0), some (.ref 410), some (.int 1), o4, o5, o6, o7, o8, o9, o10, o11, o12, none, some (.int (M2.1 0 7)), none]) dL_law_861 rfl (Nat.le_of_ble_eq_true rfl) ?_
  refine V_iconst hK (v := 0) dL_law_862 (by decide) ?_
  refine V_istore hK (L' := [some (.ref 1000), some (.ref 0), some (.ref 410), some (.int 1), o4, o5, o6, o7, o8, o9, o10, o11, o12, none, some (.int (M2.1 0 7)), some (.int 0)]) dL_law_863 rfl (Nat.le_of_ble_eq_true rfl) ?_
  have e4 : ∀ k, k < 8 → M4.1 378 k = 0 ∧ M4.1 379 k = 0 := fun k hk => ⟨(k4 378 k (by decide) (by decide)).trans (z2 k hk).1, (k4 379 k (by decide) (by decide)).trans (z2 k hk).2⟩
  have e5 : ∀ k, k < 8 → ltr M4 0 k = 110 := fun k hk => ltr0 ((k4 384 k (by decide) (by decide)).trans (z6 k hk)) ((k4 383 0 (by decide) (by decide)).trans z4) hk
  exact g865 hK e4 e5 ((k4 383 4 (by decide) (by decide)).trans z5) ((k4 1 0 (by decide) (by decide)).trans ((hkp 1 0 (by decide) (by decide)).trans he)) 8 0 _ rfl (by omega)
end SP44
