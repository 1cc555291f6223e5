section SP41
variable {s : State} {b Lx : Nat} {xs : Nat → Int32}
abbrev pre1 : Cond := Jvm.Cond.and given_1 narrow_1
def tm5 (i : Nat) : Term := if i = 0 then .string "Rungmaster" 60 else if i = 1 then .string "Rungmaster" 113 else if i = 2 then .string "Rungmaster" 141 else if i = 3 then .string "RungmasterLaw" 142 else .string "RungmasterLaw" 147
theorem p_ex : ∀ i, i < 5 → Cond.exactly (tm5 i) "java/lang/String" ∈ flatC pre1 := by decide +kernel
theorem p_co : ∀ i, i < 5 → Cond.eq (.field (tm5 i) "java/lang/String" "coder" "B") (.int 0) ∈ flatC pre1 := by decide +kernel
theorem p_ar : ∀ i, i < 5 → Cond.arrayOf (.field (tm5 i) "java/lang/String" "value" "[B") .byte ∈ flatC pre1 := by decide +kernel
theorem p_le : ∀ i, i < 5 → Cond.eq (.length (.field (tm5 i) "java/lang/String" "value" "[B")) (.int (Int32.ofNat (strLen.getD i 0))) ∈ flatC pre1 := by decide +kernel
theorem p_el : ∀ i, i < 5 → ∀ j, j < strLen.getD i 0 → Cond.eq (.elem (.field (tm5 i) "java/lang/String" "value" "[B") (.int (Int32.ofNat j))) (.int ((strByt.getD i []).getD j 0)) ∈ flatC pre1 := by decide +kernel
theorem p_ne : ∀ i, i < 5 → ∀ j, j < 5 → i ≠ j → Cond.not (Cond.eq (tm5 i) (tm5 j)) ∈ flatC pre1 ∨ Cond.not (Cond.eq (tm5 j) (tm5 i)) ∈ flatC pre1 := by decide +kernel
theorem p_q0 : Cond.eq (.string "Rungmaster" 60) (.string "RungmasterLaw" 135) ∈ flatC pre1 := by decide +kernel
theorem p_q1 : Cond.eq (.string "Rungmaster" 113) (.string "RungmasterLaw" 149) ∈ flatC pre1 := by decide +kernel
theorem p_q2 : Cond.eq (.string "Rungmaster" 141) (.string "RungmasterLaw" 151) ∈ flatC pre1 := by decide +kernel
theorem p_nc : ∀ x, x < 5 → ∀ j, j < x → Cond.not (.castable (xname x) (xname j)) ∈ flatC pre1 := by decide +kernel
theorem p_sb : Cond.eq (.static "java/lang/String" "COMPACT_STRINGS" "Z") (.int 1) ∈ flatC pre1 := by decide +kernel
theorem p_si : Cond.isRef (.static "jdk/internal/util/Preconditions" "SIOOBE_FORMATTER" "Ljava/util/function/BiFunction;") ∈ flatC pre1 := by decide +kernel
theorem p_us : Cond.isRef (.static Bundle.tN "UNASSIGNED_STACK" Bundle.steD) ∈ flatC pre1 := by decide +kernel
theorem p_ss : Cond.isRef (.static Bundle.tN "SUPPRESSED_SENTINEL" Bundle.listD) ∈ flatC pre1 := by decide +kernel
theorem tb (i : Nat) {w : Cond} (h : lw_tbl[i]? = some w) : w ∈ lw_tbl := List.mem_of_getElem? h
theorem eq_ref {args : Array Value} {t u : Term} {a : Nat} (h : (Cond.eq t u).before args s = true) (ht : t.eval args s none [] s = some (.ref a)) : u.eval args s none [] s = some (.ref a) := by
  cases hv : u.eval args s none [] s with
  | none => simp [Cond.before, Cond.holds, Cond.value, hv, ht] at h
  | some w =>
    simp only [Cond.before, Cond.holds, Cond.value, hv, ht] at h
    cases w <;> simp_all
theorem env_start (hX : va_X b Lx xs s s.heap) (hbl : b < s.heap.size) (hts : ∀ w ∈ lw_tbl, w.before #[Value.ref b] s = true) (hgv : pre1.before #[Value.ref b] s = true) : ∃ (adK adV : Nat → Nat) (w9 : Value), w9.category = 1 ∧ EnvP s.heap.size b Lx xs adK adV w9 s := by
  have hA : ∀ a : Nat, a < s.heap.size → ¬ (fun q : Nat => s.heap.size ≤ q) a := fun a h h2 => by have h3 : s.heap.size ≤ a := h2; omega
  have hq := flat_of_before _ hgv
  obtain ⟨adK, adV, hS, had⟩ := vk_Sof (args := #[Value.ref b]) (s := s) (N := 5) (tm := tm5) (len := strLen) (byt := strByt) (A := fun q => s.heap.size ≤ q) (by decide) (fun i hi => hq _ (p_ex i hi)) (fun i hi => hq _ (p_co i hi)) (fun i hi => hq _ (p_ar i hi)) (fun i hi => hq _ (p_le i hi)) (fun i hi j hj => hq _ (p_el i hi j hj)) (fun i j hi hj hne => (p_ne i hi j hj hne).imp (hq _) (hq _)) hA
  have hz := hq _ p_si
  obtain ⟨w9, hv9, hc9⟩ : ∃ w9, (Term.static "jdk/internal/util/Preconditions" "SIOOBE_FORMATTER" "Ljava/util/function/BiFunction;").eval #[Value.ref b] s none [] s = some w9 ∧ w9.category = 1 := by
    cases hv : (Term.static "jdk/internal/util/Preconditions" "SIOOBE_FORMATTER" "Ljava/util/function/BiFunction;").eval #[Value.ref b] s none [] s with
    | none => simp [Cond.before, Cond.holds, Cond.value, hv] at hz
    | some w =>
      simp only [Cond.before, Cond.holds, Cond.value, hv] at hz
      cases w with
      | null => exact ⟨_, rfl, rfl⟩
      | ref t => exact ⟨_, rfl, rfl⟩
      | _ => simp at hz
  have hstr : ∀ r ∈ strRefs, vk_R r.1 r.2.1 (stx r.2.2) (adK r.2.2) s := by
    refine List.forall_mem_cons.mpr ⟨vk_R.of (hts _ (tb 719 (by decide +kernel))) (had 0 (by decide)), List.forall_mem_cons.mpr ⟨vk_R.of (hts _ (tb 839 (by decide +kernel))) (had 1 (by decide)), List.forall_mem_cons.mpr ⟨vk_R.of (hts _ (tb 855 (by decide +kernel))) (had 2 (by decide)), List.forall_mem_cons.mpr ⟨vk_R.of (hts _ (tb 1051 (by decide +kernel))) (eq_ref (hq _ p_q0) (had 0 (by decide))), List.forall_mem_cons.mpr ⟨vk_R.of (hts _ (tb 1072 (by decide +kernel))) (had 3 (by decide)), List.forall_mem_cons.mpr ⟨vk_R.of (hts _ (tb 1074 (by decide +kernel))) (had 4 (by decide)), List.forall_mem_cons.mpr ⟨vk_R.of (hts _ (tb 1075 (by decide +kernel))) (eq_ref (hq _ p_q1) (had 1 (by decide))), List.forall_mem_cons.mpr ⟨vk_R.of (hts _ (tb 1076 (by decide +kernel))) (eq_ref (hq _ p_q2) (had 2 (by decide))), fun _ h => absurd h List.not_mem_nil⟩⟩⟩⟩⟩⟩⟩⟩
  refine ⟨adK, adV, w9, hc9, hX, hbl, Nat.le_refl _, hS, hstr, va_Zof (hts _ (tb 733 (by decide +kernel))) (hts _ (tb 29 (by decide +kernel))) (va_eqi (hq _ p_sb)) hA, va_Zof (hts _ (tb 774 (by decide +kernel))) (hts _ (tb 31 (by decide +kernel))) hv9 hA, vx_Zqof (hts _ (tb 402 (by decide +kernel))) (hts _ (tb 35 (by decide +kernel))) (hq _ p_us) hA, vx_Zqof (hts _ (tb 404 (by decide +kernel))) (hts _ (tb 35 (by decide +kernel))) (hq _ p_ss) hA, fun w hw hB => va_Nw.of (by cases w <;> first | rfl | exact nomatch hB) (hts w hw), fun x j hx hj => va_Nc.of (hq _ (p_nc x hx j hj))⟩
theorem k_inst : ∀ c, c < 10 → Cond.instantiable (Cn c) (nF c) ∈ lw_tbl := by
  exact lt10 (tb 177 (by decide +kernel)) (tb 271 (by decide +kernel)) (tb 54 (by decide +kernel)) (tb 65 (by decide +kernel)) (tb 242 (by decide +kernel)) (tb 171 (by decide +kernel)) (tb 101 (by decide +kernel)) (tb 302 (by decide +kernel)) (tb 123 (by decide +kernel)) (tb 46 (by decide +kernel))
theorem arr_obj {C : String} {args : Array Value} (h : (Cond.arrayOver (.object C)).before args s = true) : ∃ cA, ArrOfT s cA (.object C) ∧ va_RA s cA (.object C) := by
  obtain ⟨comp, c, k, h1, -, h3, h4, h5⟩ := Cond.arrayOver_spec (first := s) (o := none) (idx := []) h
  exact ⟨c, fun n z => ⟨fun k h => (by cases h), k, h3, comp, h4⟩, k, comp, h3, h4, h1, h5⟩
theorem arr_int {args : Array Value} (h : (Cond.arrayClass .int).before args s = true) : ∃ cA, ArrOfT s cA .int ∧ va_RA s cA .int := by
  obtain ⟨c, k, comp, h1, h2, h3⟩ := Cond.arrayClass_spec (first := s) (o := none) (idx := []) h
  exact ⟨c, fun n z => ⟨fun k h => (by cases h), k, h2, comp, h3⟩, h1⟩
theorem arr_char {args : Array Value} (h : (Cond.arrayClass .char).before args s = true) : ∃ cA, ArrOfT s cA .char ∧ va_RA s cA .char := by
  obtain ⟨c, k, comp, h1, h2, h3⟩ := Cond.arrayClass_spec (first := s) (o := none) (idx := []) h
  exact ⟨c, fun n z => ⟨fun k h => (by cases h), k, h2, comp, h3⟩, h1⟩
theorem known_start (hts : ∀ w ∈ lw_tbl, w.before #[Value.ref b] s = true) : ∃ (cA dC : Nat → ClassId) (dI : Nat → Nat → Nat), va_K (dC, dI) clss (tysl cA) s ∧ ∀ k, 28 ≤ k → k ≤ 31 → va_AO (Cn (rowC k)) s := by
  have h0 : ∀ c : Nat, ∃ q : ClassId × (Nat → Nat), c < 10 → u_Kn s (Cn c) (Tn c) (nF c) q.1 q.2 := by
    intro c
    by_cases hc : c < 10
    · obtain ⟨cC, iS, h⟩ := u_known (C := Cn c) (T := Tn c) (N := nF c) (n := nF c) hts (fun w hw => (List.mem_filter.mp (cl_ws c hc w hw)).1) (hts _ (k_inst c hc))
      exact ⟨(cC, iS), fun _ => h⟩
    · exact ⟨(0, fun _ => 0), fun h => absurd h hc⟩
  obtain ⟨f, hf⟩ := Classical.axiomOfChoice h0
  obtain ⟨c0, a0⟩ := arr_int (hts _ (tb 100 (by decide +kernel)))
  obtain ⟨c1, a1⟩ := arr_char (hts _ (tb 99 (by decide +kernel)))
  obtain ⟨c2, a2⟩ := arr_obj (hts _ kb_60)
  obtain ⟨c3, a3⟩ := arr_obj (hts _ kb_62)
  obtain ⟨c4, a4⟩ := arr_obj (hts _ kb_64)
  obtain ⟨c5, a5⟩ := arr_obj (hts _ kb_301)
  refine ⟨fun k => if k = 0 then c0 else if k = 1 then c1 else if k = 2 then c2 else if k = 3 then c3 else if k = 4 then c4 else c5, fun c => (f c).1, fun c => (f c).2, ⟨fun c q hq => ?_, fun k q hq => ?_⟩, fun k h1 h2 => ?_⟩
  · have hc : c < 10 := (List.getElem?_eq_some_iff.mp hq).1
    have h1 := hf c hc
    rw [cl_get c hc] at hq
    cases hq
    exact h1
  · have hk : k < 6 := (List.getElem?_eq_some_iff.mp hq).1
    rcases (by omega : k = 0 ∨ k = 1 ∨ k = 2 ∨ k = 3 ∨ k = 4 ∨ k = 5) with rfl | rfl | rfl | rfl | rfl | rfl
    · cases hq; exact a0
    · cases hq; exact a1
    · cases hq; exact a2
    · cases hq; exact a3
    · cases hq; exact a4
    · cases hq; exact a5
  · rcases (by omega : k = 28 ∨ k = 29 ∨ k = 30 ∨ k = 31) with rfl | rfl | rfl | rfl
    · exact va_AO.of (hts _ kb_60)
    · exact va_AO.of (hts _ kb_62)
    · exact va_AO.of (hts _ kb_64)
    · exact va_AO.of (hts _ kb_301)
end SP41
