/-! THE SMALL MACHINE HELD AGAINST THE JVM'S: cells -/
section SND3
variable {p : Program} {l : Launch} {e : Env} {R : Room} {s : State} {m : MethodId} {args : Array Value} {below : List Frame} {meth : Method} {c : Code} {H : Heap} {locs : List Loc} {cells slots : Nat} {Q : State → Prop} {cc : ByteArray} {pc : Nat} {ls : Array Slot} {β : Nat}
variable {cA dC : Nat → ClassId} {dI : Nat → Nat → Nat} {sz0 bS Lx : Nat} {xs : Nat → Int32} {adK adV : Nat → Nat} {w9 : Value} {own : String}
theorem rho_C (h9 : w9.category = 1) : rhoC (rho bS adK adV w9) := by
  refine ⟨fun a => ?_, fun a h1 h2 => ?_⟩
  · unfold rho
    repeat' split
    all_goals first | rfl | exact h9
  · unfold rho
    by_cases h3 : a = 1000
    · exact ⟨_, if_pos h3⟩
    · rw [if_neg h3]
      by_cases h4 : a < 3000
      · exact ⟨_, if_pos h4⟩
      · rw [if_neg h4]
        exact ⟨_, if_pos h2⟩
theorem rho_S : rho bS adK adV w9 1000 = .ref bS := if_pos rfl
theorem rho_K {r : Nat} (h1 : 2000 ≤ r) (h2 : r < 2005) : rho bS adK adV w9 r = .ref (adK (r - 2000)) := by
  unfold rho
  rw [if_neg (show ¬ r = 1000 by omega), if_pos (show r < 3000 by omega)]
theorem rho_V {r : Nat} (h1 : 3000 ≤ r) (h2 : r < 3005) : rho bS adK adV w9 r = .ref (adV (r - 3000)) := by
  unfold rho
  rw [if_neg (show ¬ r = 1000 by omega), if_neg (show ¬ r < 3000 by omega), if_pos (show r < 4000 by omega)]
theorem rho_9 : rho bS adK adV w9 9999 = w9 := by
  unfold rho
  rw [if_neg (by decide), if_neg (by decide), if_neg (by decide)]
theorem kv (r : Nat) (h : 2000 ≤ r) : r + 1000 - 3000 = r - 2000 := by omega
theorem kv2 (r : Nat) (h : 2000 ≤ r) (h2 : r < 2005) : 3000 ≤ r + 1000 ∧ r + 1000 < 3005 := by omega
theorem kv3 {r k j : Nat} (h : r < 410) (h1 : 28 ≤ k) (h2 : k ≤ 31) (h3 : j < aLen k) (hq : aOff k j < 500) : r + aOff k j < 1000 := by omega
theorem vin_of {j : Int32} {n : Nat} (h : 0 ≤ j ∧ j.toNatClampNeg < n) : vp_in j n := by
  intro q
  rcases q with q | q
  · exact Int32.not_lt.mpr h.1 q
  · omega
theorem nlt_of {j : Int32} (h : 0 ≤ j) : ¬ j < 0 := Int32.not_lt.mpr h
theorem fitF_ok {t : Nat} (ht : t < 3) {x : Int32} (h : fitF t x = true) : narrow (tyOf t) (.int x) = .int x ∧ fits (tyOf t) (.int x) = true := by
  rcases (by omega : t = 0 ∨ t = 1 ∨ t = 2) with rfl | rfl | rfl
  · exact ⟨rfl, rfl⟩
  · have h1 : x = 0 ∨ x = 1 := by simpa [fitF] using h
    rcases h1 with rfl | rfl <;> exact ⟨rfl, rfl⟩
  · have h1 : 0 ≤ x ∧ x ≤ 65535 := by simpa [fitF] using h
    obtain ⟨q, hq, rfl⟩ := nI_of2 (M := 65535) (n := 65535) (by decide) (nlt_of h1.1) h1.2
    exact pk_charN (by omega)
theorem aOff_lt : ∀ k, 28 ≤ k → k ≤ 31 → ∀ j, j < aLen k → aOff k j < 500 := by
  intro k h1 h2 j hj
  rcases (by omega : k = 28 ∨ k = 29 ∨ k = 30 ∨ k = 31) with rfl | rfl | rfl | rfl <;> simp [aLen] at hj <;> simp [aOff] <;> omega
theorem opH_ok (hx : p.tables.exec = Jvm.exec) (hb : c.code = cc) (hml : c.maxLocals = ls.size) (h9 : w9.category = 1) (hown : s.vm.findClass own = some m.cls) (hts : ∀ w ∈ Wg, w.before args s = true) (hE : EnvP sz0 bS Lx xs adK adV w9 s) (hβ : sz0 ≤ β)
    (hK : va_K (dC, dI) clss (tysl cA) s) {M M' : Mem} (hP : va_P (dC, dI) clss (wblk cA β (rho bS adK adV w9) M) H) (hS : va_S (Aset β s.heap.size) s.heap H locs) (hRf : 1 ≤ R.frames) (hRl : 40 ≤ R.locals) (hRc : cells ≤ R.cells ∧ slots ≤ R.slots)
    {i : Instr} {a b : Nat} {st st' : List Value} (ho : opH (kdAll, xs, Lx) i a b M st = some (M', st')) (hd : decode cc pc = .ok (i, ilen i)) (hv : ValidI own cc pc i a b)
    (k : ∀ (H' : Heap) (locs' : List Loc), va_P (dC, dI) clss (wblk cA β (rho bS adK adV w9) M') H' → va_S (Aset β s.heap.size) s.heap H' locs' → W p l e R s m args below meth c H' locs' cells slots Q (F0 m (pc + ilen i) ls (st'.map (gv β (rho bS adK adV w9))))) :
    W p l e R s m args below meth c H locs cells slots Q (F0 m pc ls (st.map (gv β (rho bS adK adV w9)))) := by
  have hρ : rhoC (rho bS adK adV w9) := rho_C h9
  obtain ⟨hX, hbz, hsz, hSt, hRef, hZc, hZs, hZu, hZn, hB, -⟩ := hE
  have hAA : ∀ q, Aset β s.heap.size q → sz0 ≤ q := fun q h => by rcases h with h | h <;> omega
  have hD : va_D (Aset β s.heap.size) (wblk cA β (rho bS adK adV w9) M) := wblk_D
  have hSt1 := vk_S.narrow hSt hAA
  have hcat : ∀ t : List Value, ((t.map (gv β (rho bS adK adV w9))).map fun v => v.category).sum = (t.map fun v => v.category).sum := by
    intro t
    rw [List.map_map]
    congr 1
    exact List.map_congr_left fun v _ => gv_cat hρ v
  cases i
  case getfield ix =>
    simp only [opH] at ho
    split at ho
    · next r t =>
      by_cases ha : a = 200
      · rw [if_pos ha] at ho
        split at ho
        · next hr =>
          obtain ⟨hr1, hr2⟩ := hr
          have hv2 : (b = 0 ∧ Cond.fieldLink own ix "java/lang/String" "coder" "B" ∈ Wg) ∨ (b = 1 ∧ Cond.fieldLink own ix "java/lang/String" "value" "[B" ∈ Wg) := by
            rcases hv with ⟨-, h⟩ | ⟨h, -⟩
            · exact h
            · omega
          obtain ⟨q1, q2, q3, q4⟩ := hSt1.1 (r - 2000) (by omega)
          rw [List.map_cons, gv_hi (by omega), rho_K hr1 hr2]
          rcases hv2 with ⟨hb0, hw⟩ | ⟨hb0, hw⟩
          · rw [if_pos hb0] at ho
            cases ho
            exact vk_getf hx hb q2 hS hown (hts _ hw) (fun _ h => h) hd (k H locs hP hS)
          · rw [if_neg (by omega)] at ho
            cases ho
            refine vk_getf hx hb q3 hS hown (hts _ hw) (fun _ h => h) hd ?_
            have k1 := k H locs hP hS
            rw [List.map_cons, gv_hi (Nat.le_trans (by decide) (kv2 r hr1 hr2).1), rho_V (kv2 r hr1 hr2).1 (kv2 r hr1 hr2).2, kv r hr1] at k1
            exact k1
        · cases ho
      · rw [if_neg ha] at ho
        split at ho
        · next hr =>
          obtain ⟨hr1, hr2⟩ := hr
          dsimp only at hr1
          cases ho
          have hv2 : a < 10 ∧ b < nF a ∧ Cond.fieldLink own ix (Tn a b).1 (Tn a b).2.1 (Tn a b).2.2.1 ∈ Wg := by
            rcases hv with ⟨h, -⟩ | h
            · exact absurd h ha
            · exact h
          obtain ⟨h10, hbn, hw⟩ := hv2
          rw [List.map_cons, gv_lo (by omega)]
          exact va_get (D := (dC, dI)) (ci := a) (v := gv β (rho bS adK adV w9) (fval M r a b)) hx hb hts (cl_ws a h10) hown hK hP r (by rw [wblk_get hr2, hr1, ent_obj h10]) (cl_get a h10) b hbn (hts _ hw) (fun _ h => h) (by rw [List.getElem?_map, List.getElem?_range hbn]; rfl) hd (k H locs hP hS)
        · cases ho
    · cases ho
  case putfield ix =>
    obtain ⟨h10, hbn, hw⟩ := hv
    simp only [opH] at ho
    split at ho
    · next x r t =>
      split at ho
      · next hr =>
        obtain ⟨⟨hr1, hr2⟩, hr3⟩ := hr
        dsimp only at hr1
        cases ho
        have h4 : fTy a b < 3 := by
          by_cases z : fTy a b < 3
          · exact z
          · have := hr3
            unfold fitF at this
            rw [if_neg (by omega), if_neg (by omega), if_neg (by omega)] at this
            cases this
        obtain ⟨f1, f2, f3⟩ := (cl_kind a h10 b hbn).resolve_left (by omega)
        obtain ⟨g1, g2⟩ := fitF_ok h4 hr3
        rw [List.map_cons, List.map_cons, gv_lo (by omega)]
        refine va_put (D := (dC, dI)) (ci := a) (v := .int x) (ty := tyOf (fTy a b)) hx hb hts (cl_ws a h10) (tyn a) (cl_ty a h10) (cl_nm a h10) hown hK hP hD hS r (by rw [wblk_get hr2, hr1, ent_obj h10]) (cl_get a h10) b hbn (hts _ hw) (fun _ h => h) f1 (by rw [cl_ty a h10 b hbn, f2]) g1 g2 (by simpa using hbn) hd (fun H1 locs1 hP1 hD1 hS1 => ?_)
        rw [wblk_set (M' := pI M r b x) hr2 (by rw [hr1]; exact ent_pI h10 hbn h4) pI_off] at hP1
        exact k H1 locs1 hP1 hS1
      · cases ho
    · next x r t =>
      split at ho
      · next hr =>
        obtain ⟨⟨hr1, hr2⟩, hr3⟩ := hr
        dsimp only at hr1
        cases ho
        obtain ⟨f1, f2, f3⟩ := (cl_kind a h10 b hbn).resolve_left (by omega)
        rw [List.map_cons, List.map_cons, gv_lo (by omega)]
        refine va_put (D := (dC, dI)) (ci := a) (v := .long x) (ty := .long) hx hb hts (cl_ws a h10) (tyn a) (cl_ty a h10) (cl_nm a h10) hown hK hP hD hS r (by rw [wblk_get hr2, hr1, ent_obj h10]) (cl_get a h10) b hbn (hts _ hw) (fun _ h => h) f1 (by rw [cl_ty a h10 b hbn, f2, hr3]; rfl) rfl rfl (by simpa using hbn) hd (fun H1 locs1 hP1 hD1 hS1 => ?_)
        rw [wblk_set (M' := pL M r x) hr2 (by rw [hr1]; exact ent_pL h10 hbn hr3 (cl_long a h10 b hbn hr3)) pL_off] at hP1
        exact k H1 locs1 hP1 hS1
      · cases ho
    · cases ho
  case aaload =>
    simp only [opH] at ho
    split at ho
    · next j r t =>
      split at ho
      · next hr =>
        obtain ⟨⟨r1, r2, r3⟩, r4⟩ := hr
        dsimp only at r1 r2 r4
        cases ho
        rw [List.map_cons, List.map_cons, gv_lo (by omega)]
        have hty : ∃ C : String, (tysl cA)[kdAll r - 26]? = some (cA (kdAll r - 26), .object C) := by
          rcases (by omega : kdAll r = 28 ∨ kdAll r = 29 ∨ kdAll r = 30 ∨ kdAll r = 31) with h | h | h | h <;> rw [h] <;> exact ⟨_, rfl⟩
        obtain ⟨C, hC⟩ := hty
        refine va_aldq (D := (dC, dI)) hx hb hK hP r (kdAll r - 26) (by rw [wblk_get r3, ent_row r1 r2]) hC (vin_of r4) hd ?_
        have k1 := k H locs hP hS
        rw [List.map_cons, gv_lo (kv3 r3 r1 r2 r4.2 (aOff_lt _ r1 r2 _ r4.2))] at k1
        exact k1
      · cases ho
    · cases ho
  case iaload =>
    simp only [opH] at ho
    split at ho
    · next j r t =>
      by_cases hs1 : okS r
      · rw [if_pos hs1] at ho
        split at ho
        · next hr =>
          cases ho
          have hs2 : gv β (rho bS adK adV w9) (.ref r) = .ref bS := by rw [show r = 1000 from hs1, gv_hi (Nat.le_refl _), rho_S]
          rw [List.map_cons, List.map_cons, hs2]
          exact va_sld hx hb hX (by omega) (fun q => by have := hAA _ q; omega) hS (vin_of hr) hd (k H locs hP hS)
        · cases ho
      · rw [if_neg hs1] at ho
        split at ho
        · next hr =>
          obtain ⟨⟨r1, r2, r3⟩, r4⟩ := hr
          dsimp only at r1 r2 r4
          cases ho
          rw [List.map_cons, List.map_cons, gv_lo (by omega)]
          exact va_iald (D := (dC, dI)) hx hb hK hP r 0 (by rw [wblk_get r3, ent_int r1 r2]) rfl (vin_of r4) hd (k H locs hP hS)
        · cases ho
    · cases ho
  case caload =>
    simp only [opH] at ho
    split at ho
    · next j r t =>
      split at ho
      · next hr =>
        obtain ⟨⟨r1, r2, r3⟩, r4⟩ := hr
        dsimp only at r1 r2 r4
        cases ho
        rw [List.map_cons, List.map_cons, gv_lo (by omega)]
        exact va_cald (D := (dC, dI)) hx hb hK hP r 1 (by rw [wblk_get r3, ent_chr r1 r2]) rfl (vin_of r4) hd (k H locs hP hS)
      · cases ho
    · cases ho
  case baload =>
    simp only [opH] at ho
    split at ho
    · next j r t =>
      split at ho
      · next hr =>
        obtain ⟨⟨r1, r2⟩, r4⟩ := hr
        cases ho
        obtain ⟨q1, q2, q3, q4⟩ := hSt1.1 (r - 3000) (by omega)
        rw [List.map_cons, List.map_cons, gv_hi (by omega), rho_V r1 r2]
        exact va_tb (v := .int (strI (r - 3000) j.toNatClampNeg)) hx hb q4 hS (by rw [str_len _ (by omega)]; exact vin_of r4) (congrArg Value.int (str_byt _ (by omega) _ r4.2)) hd (k H locs hP hS)
      · cases ho
    · cases ho
  case iastore =>
    simp only [opH] at ho
    split at ho
    · next x j r t =>
      split at ho
      · next hr =>
        obtain ⟨⟨r1, r2, r3⟩, r4⟩ := hr
        dsimp only at r1 r2 r4
        cases ho
        rw [List.map_cons, List.map_cons, List.map_cons, gv_lo (by omega)]
        refine va_iast (D := (dC, dI)) hx hb hK hP hD hS r 0 (by rw [wblk_get r3, ent_int r1 r2]) rfl (vin_of r4) hd (fun H1 locs1 hP1 hD1 hS1 => ?_)
        rw [wblk_set (M' := pI M r j.toNatClampNeg x) r3 (by rw [ent_int r1 r2, pI_row]) pI_off] at hP1
        exact k H1 locs1 hP1 hS1
      · cases ho
    · cases ho
  case castore =>
    simp only [opH] at ho
    split at ho
    · next x j r t =>
      split at ho
      · next hr =>
        obtain ⟨⟨r1, r2, r3⟩, r4⟩ := hr
        dsimp only at r1 r2 r4
        cases ho
        rw [List.map_cons, List.map_cons, List.map_cons, gv_lo (by omega)]
        refine va_cast (D := (dC, dI)) hx hb hK hP hD hS r 1 (by rw [wblk_get r3, ent_chr r1 r2]) rfl (vin_of r4) hd (fun H1 locs1 hP1 hD1 hS1 => ?_)
        rw [wblk_set (M' := pI M r j.toNatClampNeg (vp_nar .char x)) r3 (by rw [ent_chr r1 r2, pI_row]) pI_off] at hP1
        exact k H1 locs1 hP1 hS1
      · cases ho
    · cases ho
  case arraylength =>
    simp only [opH] at ho
    split at ho
    · next r t =>
      by_cases hs1 : okS r
      · rw [if_pos hs1] at ho
        cases ho
        have hs2 : gv β (rho bS adK adV w9) (.ref r) = .ref bS := by rw [show r = 1000 from hs1, gv_hi (Nat.le_refl _), rho_S]
        rw [List.map_cons, hs2]
        exact va_slen hx hb hX (by omega) (fun q => by have := hAA _ q; omega) hS hd (k H locs hP hS)
      · rw [if_neg hs1] at ho
        split at ho
        · next hr =>
          obtain ⟨hr1, hr2⟩ := hr
          cases ho
          obtain ⟨q1, q2, q3, q4⟩ := hSt1.1 (r - 3000) (by omega)
          rw [List.map_cons, gv_hi (by omega), rho_V hr1 hr2]
          exact va_tlen hx hb q4 hS (by rw [str_len _ (by omega)]; rfl) hd (k H locs hP hS)
        · cases ho
    · cases ho
  case ldc ix =>
    simp only [opH] at ho
    by_cases ha : a = 1
    · rw [if_pos ha] at ho
      cases ho
      have hw : Cond.constant own ix (Int32.ofNat b) ∈ Wg := by
        rcases hv with ⟨-, h⟩ | ⟨h, -⟩
        · exact h
        · omega
      exact W.ldc hx hb hown (hts _ hw) rfl hd (k H locs hP hS)
    · rw [if_neg ha] at ho
      split at ho
      · next hb5 =>
        cases ho
        have hw : (own, ix, b) ∈ strRefs := by
          rcases hv with ⟨h, -⟩ | ⟨-, -, h⟩
          · exact absurd h ha
          · exact h
        refine va_ldcS hx hb hown (hRef _ hw) hd ?_
        have k1 := k H locs hP hS
        rw [List.map_cons, gv_hi (by omega), rho_K (by omega) (by omega), show 2000 + b - 2000 = b by omega] at k1
        exact k1
      · cases ho
  case ldc2_w ix =>
    simp only [opH] at ho
    have hw : Cond.constantLong own ix (if a = 1 then -1 else Int64.ofNat b) ∈ Wg := hv
    by_cases ha : a = 1
    · rw [if_pos ha] at ho hw
      cases ho
      exact W.ldc2 hx hb hown (hts _ hw) rfl hd (k H locs hP hS)
    · rw [if_neg ha] at ho hw
      cases ho
      exact W.ldc2 hx hb hown (hts _ hw) rfl hd (k H locs hP hS)
  case getstatic ix =>
    simp only [opH] at ho
    by_cases ha : a = 1
    · rw [if_pos ha] at ho
      cases ho
      have hw : Cond.fieldLink own ix "java/lang/String" "COMPACT_STRINGS" "Z" ∈ Wg := by
        rcases hv with ⟨-, h⟩ | ⟨h, -⟩
        · exact h
        · omega
      exact va_gets hx hb (va_Z.narrow hZc hAA) hS hown (hts _ hw) (fun _ h => h) hd (k H locs hP hS)
    · rw [if_neg ha] at ho
      cases ho
      have hw : Cond.fieldLink own ix "jdk/internal/util/Preconditions" "SIOOBE_FORMATTER" "Ljava/util/function/BiFunction;" ∈ Wg := by
        rcases hv with ⟨h, -⟩ | ⟨-, h⟩
        · exact absurd h ha
        · exact h
      refine va_gets hx hb (va_Z.narrow hZs hAA) hS hown (hts _ hw) (fun _ h => h) hd ?_
      have k1 := k H locs hP hS
      rw [List.map_cons, gv_hi (by omega), rho_9] at k1
      exact k1
  case invokestatic ix =>
    simp only [opH] at ho
    by_cases hb3 : b = 3
    · rw [if_pos hb3] at ho
      have hw : Cond.methodLink own ix Lib.Math.min.name ∈ Wg := by
        rcases hv with ⟨h, -⟩ | ⟨h, -⟩ | ⟨-, h⟩ | ⟨h, -⟩ | ⟨h, -⟩ | ⟨h, -⟩ <;> first | exact h | omega
      split at ho
      · next y x t =>
        split at ho
        · next hc8 =>
          cases ho
          exact va_mmin hx hb hml hown (hts _ hw) (hts _ w_min_s) (hts _ w_math_i) (hts _ w_min_c) hRf (by rw [hcat]; omega) hRc.1 hRc.2 hd (k H locs hP hS)
        · cases ho
      · cases ho
    · rw [if_neg hb3] at ho
      by_cases hb5 : b = 5
      · rw [if_pos hb5] at ho
        have hw : Cond.methodLink own ix Lib.Math.max.name ∈ Wg := by
          rcases hv with ⟨h, -⟩ | ⟨h, -⟩ | ⟨h, -⟩ | ⟨-, h⟩ | ⟨h, -⟩ | ⟨h, -⟩ <;> first | exact h | omega
        split at ho
        · next y x t =>
          split at ho
          · next hc8 =>
            cases ho
            exact va_mmax hx hb hml hown (hts _ hw) (hts _ w_max_s) (hts _ w_math_i) (hts _ w_max_c) hRf (by rw [hcat]; omega) hRc.1 hRc.2 hd (k H locs hP hS)
          · cases ho
        · cases ho
      · rw [if_neg hb5] at ho
        by_cases hb4 : b = 4
        · rw [if_pos hb4] at ho
          have hw : Cond.methodLink own ix arraycopyName ∈ Wg := by
            rcases hv with ⟨h, -⟩ | ⟨h, -⟩ | ⟨h, -⟩ | ⟨h, -⟩ | ⟨-, h⟩ | ⟨h, -⟩ <;> first | exact h | omega
          split at ho
          · next n dp rd sp rs t =>
            split at ho
            · next hr =>
              obtain ⟨⟨a1, a2, a3⟩, ⟨b1, b2, b3⟩, ⟨c1, c2, c3⟩, d1, d2, hc8⟩ := hr
              dsimp only at a1 a2 b1 b2 d1 d2
              cases ho
              rw [List.map_cons, List.map_cons, List.map_cons, List.map_cons, List.map_cons, gv_lo (Nat.lt_trans b3 (by decide)), gv_lo (Nat.lt_trans a3 (by decide))]
              refine va_copyi (D := (dC, dI)) (ty := .int) hx hb hml hown (hts _ hw) (hts _ w_cpy_n) (hts _ w_cpy_s) (hts _ w_cpy_i) hK hP hD hS rs rd 0 0 (by rw [wblk_get a3, ent_int a1 a2]) (by rw [wblk_get b3, ent_int b1 b2]) rfl rfl rfl (nlt_of c1) (nlt_of c2) (nlt_of c3) d1 d2 (fun _ _ => rfl) hRf (by rw [hcat]; exact Nat.le_trans (Nat.add_le_add hc8 (show nativeFrameWords "java/lang/System" "arraycopy" 5 + 11 ≤ 32 by decide)) hRl) hd (fun H1 locs1 hP1 hD1 hS1 => ?_)
              rw [wblk_set (M' := pA M rd (va_cpy (M.1 rs) (M.1 rd) sp.toNatClampNeg dp.toNatClampNeg n.toNatClampNeg)) b3 (by rw [ent_int b1 b2, ← pA_row]) pA_off] at hP1
              exact k H1 locs1 hP1 hS1
            · cases ho
          · cases ho
        · rw [if_neg hb4] at ho
          cases ho
  all_goals (exact nomatch ho)
end SND3
