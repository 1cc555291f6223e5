theorem w_dpl : Cond.methodLink "RungmasterLaw" 111 (ML.getD kP mlD).1 ∈ Wg := wg 709 (by decide +kernel) (by decide +kernel)
theorem w_dl0 : Cond.classLink "RungmasterLaw" 115 "java/lang/IndexOutOfBoundsException" ∈ Wg := wg 672 (by decide +kernel) (by decide +kernel)
theorem w_dc0 : Cond.castable "java/lang/IndexOutOfBoundsException" "java/lang/IndexOutOfBoundsException" ∈ lw_tbl := List.mem_of_getElem? (i := 1012) (by decide +kernel)
theorem w_dl1 : Cond.classLink "RungmasterLaw" 117 "java/lang/IllegalArgumentException" ∈ Wg := wg 705 (by decide +kernel) (by decide +kernel)
theorem w_dc1 : Cond.castable "java/lang/IllegalArgumentException" "java/lang/IllegalArgumentException" ∈ lw_tbl := List.mem_of_getElem? (i := 377) (by decide +kernel)
theorem w_dl2 : Cond.classLink "RungmasterLaw" 119 "java/lang/UnsupportedOperationException" ∈ Wg := wg 706 (by decide +kernel) (by decide +kernel)
theorem w_dc2 : Cond.castable "java/lang/UnsupportedOperationException" "java/lang/UnsupportedOperationException" ∈ lw_tbl := List.mem_of_getElem? (i := 878) (by decide +kernel)
theorem w_dl3 : Cond.classLink "RungmasterLaw" 121 "java/util/NoSuchElementException" ∈ Wg := wg 707 (by decide +kernel) (by decide +kernel)
theorem w_dc3 : Cond.castable "java/util/NoSuchElementException" "java/util/NoSuchElementException" ∈ lw_tbl := List.mem_of_getElem? (i := 826) (by decide +kernel)
theorem w_dl4 : Cond.classLink "RungmasterLaw" 123 "java/lang/IllegalStateException" ∈ Wg := wg 708 (by decide +kernel) (by decide +kernel)
theorem w_dc4 : Cond.castable "java/lang/IllegalStateException" "java/lang/IllegalStateException" ∈ lw_tbl := List.mem_of_getElem? (i := 445) (by decide +kernel)
section SND6
variable {cA dC : Nat → ClassId} {dI : Nat → Nat → Nat} {sz0 bS Lx : Nat} {xs : Nat → Int32} {adK adV : Nat → Nat} {w9 : Value} {l : Launch}
theorem meth_ok (hfl : l.stackTraces = false) (h9 : w9.category = 1) {d k : Nat} (hk : k < nM)
    (IH : ∀ (k' : Nat) (As : List Value) (M : Mem) (r : Res), k' < nM → RunG (kdAll, xs, Lx) mdT cdT kD kP d k' As M r → ArgsOk (xs := xs) (Lx := Lx) (mdT k') As → MetK cA dC dI sz0 bS Lx xs adK adV w9 l d (ynT k') (wsE (ML.getD k' mlD)) As M r)
    (IHD : ∀ (As : List Value) (M : Mem) (r : Res), RunG (kdAll, xs, Lx) mdT cdT kD kP d 200 As M r → ArgsOk (xs := xs) (Lx := Lx) (mdT 200) As → MetK cA dC dI sz0 bS Lx xs adK adV w9 l d yL_deed wsD As M r)
    {As : List Value} {M : Mem} {r : Res} {f : Nat} (h : Exec (kdAll, xs, Lx) mdT cdT (RunG (kdAll, xs, Lx) mdT cdT kD kP d) k f (0, entL As (mdT k).2.2.1, [], M, 0) r) (hA : ArgsOk (xs := xs) (Lx := Lx) (mdT k) As) : MetK cA dC dI sz0 bS Lx xs adK adV w9 l (d + 1) (ynT k) (wsE (ML.getD k mlD)) As M r := by
  intro β sz
  obtain ⟨⟨pn1, pn2, pn3⟩, hpar, hini, hcode, hrcv, hmx, hm20, hrows⟩ := ml_ok hk
  have hmd := mdT_lt hk
  refine vx_ofW (cc := bnT k) (maxL := (ML.getD k mlD).2.2.1.2.2.1) (ret := retOf (ML.getD k mlD).2.2.1.2.1) pn1 rfl ?_
  intro p e s m args below meth c s₁ B hml htab hv
  obtain ⟨rfl, hsz, hP, hK, hE, hβ, hβ2⟩ := hv
  have hts : ∀ w ∈ wsE (ML.getD k mlD), w.before ((As.map (gv β (rho bS adK adV w9))).toArray) s = true := atoms_spec (ws := wsE (ML.getD k mlD)) B.pre
  subst hsz
  have hρ : rhoC (rho bS adK adV w9) := rho_C h9
  have hc1 : ∀ w ∈ As.map (gv β (rho bS adK adV w9)), w.category = 1 := fun w hw => by
    obtain ⟨v, hv, rfl⟩ := List.mem_map.mp hw
    rw [gv_cat hρ]
    exact hA.1 v hv
  have hlen : As.length ≤ (mdT k).2.2.1 := by
    rw [hmd]
    rcases hA.2 with ⟨h1, h2⟩ | ⟨h1, rr, As', h2, h3, -⟩
    · rw [hmd] at h1 h2
      rw [if_pos h1] at hmx
      omega
    · rw [hmd] at h1 h3
      rw [if_neg h1] at hmx
      rw [h2, List.length_cons]
      omega
  rw [lg_entry_eq]
  have hl := lv_entry (As.map (gv β (rho bS adK adV w9))) (n := (mdT k).2.2.1) (by rw [lg_len _ hc1, List.length_map]; exact hlen)
  have hLR : LR (gv β (rho bS adK adV w9)) ((lg_sl (As.map (gv β (rho bS adK adV w9))) ++ List.replicate ((mdT k).2.2.1 - (lg_sl (As.map (gv β (rho bS adK adV w9)))).length) Slot.unset).toArray) (mdT k).2.2.1 (entL As (mdT k).2.2.1) := by
    refine ⟨lv_mono hl fun q hq => ?_, by simp [entL]; omega⟩
    obtain ⟨i, w⟩ := q
    obtain ⟨v, h1, rfl⟩ := prs_mem.mp hq
    have h2 : As[i]? = some v := by
      unfold entL at h1
      by_cases hi : i < As.length
      · rw [List.getElem?_append_left (by simpa using hi), List.getElem?_map] at h1
        rw [Option.map_eq_some_iff] at h1
        obtain ⟨u, h3, h4⟩ := h1
        cases h4
        exact h3
      · rw [List.getElem?_append_right (by simpa using hi)] at h1
        have := List.eq_of_mem_replicate (List.mem_of_getElem? h1)
        cases this
    have h3 := lv_args_mem (As.map (gv β (rho bS adK adV w9))) 0 i (gv β (rho bS adK adV w9) v) hc1 (by rw [List.getElem?_map, h2]; rfl)
    rwa [Nat.zero_add] at h3
  rw [← show (mdT k).2.2.1 = (ML.getD k mlD).2.2.1.2.2.1 by rw [hmd]]
  exact body_ok hfl h9 hk IH IHD B.exec B.bytes (by rw [hml, hmd]) (by rw [B.returns, hmd]) B.notSynchronized htab (findClass_of_methodNamed B.named) (fun w hw => hts w (List.mem_cons_of_mem _ hw)) hE hK hβ hβ2 f (0, entL As (mdT k).2.2.1, [], M, 0) r h s.heap [] _ hLR hP va_S.rf
theorem deed_ok (h9 : w9.category = 1) {d : Nat}
    (IH : ∀ (k' : Nat) (As : List Value) (M : Mem) (r : Res), k' < nM → RunG (kdAll, xs, Lx) mdT cdT kD kP d k' As M r → ArgsOk (xs := xs) (Lx := Lx) (mdT k') As → MetK cA dC dI sz0 bS Lx xs adK adV w9 l d (ynT k') (wsE (ML.getD k' mlD)) As M r)
    {As : List Value} {M : Mem} {r : Res} (h : RunG (kdAll, xs, Lx) mdT cdT kD kP (d + 1) kD As M r) : MetK cA dC dI sz0 bS Lx xs adK adV w9 l (d + 1) yL_deed wsD As M r := by
  intro β sz
  simp only [RunG, if_pos rfl] at h
  obtain ⟨⟨a, x1, x2, x3, x4, x5, x6, x7, ha, rfl⟩, r1, hc1, hr1⟩ := h
  have e2 : r.2 = r1.2 := by rcases hr1 with ⟨x, -, e⟩ | ⟨x, -, -, e⟩ <;> rw [e]
  have hAs : [Value.ref a, .int x1, .int x2, .int x3, .int x4, .int x5, .int x6, .int x7].map (gv β (rho bS adK adV w9)) = [.ref (β + a), .int x1, .int x2, .int x3, .int x4, .int x5, .int x6, .int x7] := by
    rw [List.map_cons, gv_lo (by omega)]
    rfl
  have hkP : kP < nM := Nat.le_of_ble_eq_true rfl
  have hao : ArgsOk (xs := xs) (Lx := Lx) (mdT kP) [Value.ref a, .int x1, .int x2, .int x3, .int x4, .int x5, .int x6, .int x7] := ⟨fun v hv => by
    simp only [List.mem_cons, List.not_mem_nil, or_false] at hv
    rcases hv with rfl | rfl | rfl | rfl | rfl | rfl | rfl | rfl <;> rfl, Or.inl ⟨rfl, rfl⟩⟩
  obtain ⟨⟨-, yn2, yn3⟩, ypar, yini, ycode, yrcv, ymx, ym20, -⟩ := ml_ok hkP
  have ystat : Cond.static (ML.getD kP mlD).1 ∈ Wg := by
    rcases yrcv with ⟨-, z⟩ | ⟨z, -⟩
    · exact z
    · exact absurd z (by decide)
  refine vx_ofWH (cc := cL_deed) (maxL := 9) (ret := some .int) (hh := hhD) (by decide) rfl ?_
  intro p e s m args below meth c s₁ B hml hv
  obtain ⟨rfl, hsz, hP, hK, hE, hβ, hβ2⟩ := hv
  have hts : ∀ w ∈ wsD, w.before (([Value.ref a, .int x1, .int x2, .int x3, .int x4, .int x5, .int x6, .int x7].map (gv β (rho bS adK adV w9))).toArray) s = true := atoms_spec (ws := wsD) B.pre
  have htb : c.exceptionTable.toList = tableOf hhD := vx_table (x := yL_deed) B (hts _ List.mem_cons_self)
  subst hsz
  have hx := B.exec
  have hb := B.bytes
  have hr := B.returns
  have hlocks := B.notSynchronized
  have hown : s.vm.findClass "RungmasterLaw" = some m.cls := findClass_of_methodNamed B.named
  have hS : va_S (Aset β s.heap.size) s.heap s.heap [] := va_S.rf
  have hp0 := pres_ok (β' := β) (As := [Value.ref a, .int x1, .int x2, .int x3, .int x4, .int x5, .int x6, .int x7]) (M := M) hE hK hP (Nat.le_refl _) (fun _ _ => rfl) hβ hβ2
  rw [hAs] at hts hp0 ⊢
  rw [lg_entry_eq]
  have hl := lv_entry ([.ref (β + a), .int x1, .int x2, .int x3, .int x4, .int x5, .int x6, .int x7]) (n := 9) (Nat.le_of_ble_eq_true rfl)
  generalize (lg_sl ([.ref (β + a), .int x1, .int x2, .int x3, .int x4, .int x5, .int x6, .int x7]) ++ List.replicate (9 - (lg_sl ([.ref (β + a), .int x1, .int x2, .int x3, .int x4, .int x5, .int x6, .int x7])).length) Slot.unset).toArray = ls at hl ⊢
  have hl : lv_has ls 9 [(0, .ref (β + a)), (1, .int x1), (2, .int x2), (3, .int x3), (4, .int x4), (5, .int x5), (6, .int x6), (7, .int x7)] := hl
  refine lv_aload_n hx hb dL_deed_0 rfl (lv_at hl 0 rfl) ?_
  refine lv_iload_n hx hb dL_deed_1 rfl (lv_at hl 1 rfl) ?_
  refine lv_iload_n hx hb dL_deed_2 rfl (lv_at hl 2 rfl) ?_
  refine lv_iload_n hx hb dL_deed_3 rfl (lv_at hl 3 rfl) ?_
  refine lv_iload hx hb dL_deed_4 (lv_at hl 4 rfl) ?_
  refine lv_iload hx hb dL_deed_6 (lv_at hl 5 rfl) ?_
  refine lv_iload hx hb dL_deed_8 (lv_at hl 6 rfl) ?_
  refine lv_iload hx hb dL_deed_10 (lv_at hl 7 rfl) ?_
  have hin : ∀ w ∈ wsE (ML.getD kP mlD), w ∈ Wg := fun w hw => (List.mem_cons.mp hw).elim (fun h => h ▸ ycode) id
  have htsg : ∀ w ∈ Wg, w.before ([.ref (β + a), .int x1, .int x2, .int x3, .int x4, .int x5, .int x6, .int x7] : List Value).toArray s = true := fun w hw => hts w (List.mem_cons_of_mem _ hw)
  refine call_ok (β' := β) (mc := r1.2.2) (ms := 6 * r1.2.2) (a := ([.ref (β + a), .int x1, .int x2, .int x3, .int x4, .int x5, .int x6, .int x7] : List Value).toArray) (vx_runS (As := [.ref (β + a), .int x1, .int x2, .int x3, .int x4, .int x5, .int x6, .int x7]) (rest := []) (n := 8) (nL := c.maxLocals) (Ts := Wg) (own := "RungmasterLaw") ⟨hx, hb, rfl, hown, htsg⟩ (IH kP _ M r1 hkP hc1 hao β s.heap.size) ⟨callB_of _ htsg (wg_good (fun _ h => h) hin) rfl rfl rfl (htsg _ yini) (htsg _ w_dpl) ⟨yn2, yn3, ypar⟩ ⟨by rw [e2]; exact Nat.le_refl _, by rw [e2]; show 8 + (_ + 11) + (200 + 40 * d) ≤ 200 + 40 * (d + 1); omega⟩, htsg _ ystat⟩ ⟨pcw_blind, hp0⟩ rfl rfl (by rw [hl.1, hml]) rfl (Nat.le_of_ble_eq_true rfl) dL_deed_12 ⟨by rw [e2]; show 0 + r1.2.2 ≤ r1.2.2; omega, by rw [e2]; show 0 + 6 * r1.2.2 ≤ 6 * r1.2.2; omega⟩) (fun _ h => h) hS (fun x H1 locs1 ce q9 e1 hP1 hz1 hk1 hS1 hce hcv hcl => ?_) (fun v H1 locs1 e1 hP1 hz1 hk1 hS1 => ?_)
  · rcases hr1 with ⟨y, e3, -⟩ | ⟨y, hy, e3, rfl⟩
    · rw [e1] at e3; cases e3
    rw [e1] at e3
    cases e3
    have hB := hE.2.2.2.2.2.2.2.2.2.1
    have hNc := hE.2.2.2.2.2.2.2.2.2.2
    rcases (by omega : x = 0 ∨ x = 1 ∨ x = 2 ∨ x = 3 ∨ x = 4) with rfl | rfl | rfl | rfl | rfl
    · refine vx_catch (E := xname 0) (name := "java/lang/IndexOutOfBoundsException") hown [] ⟨0, 15, 16, 115⟩ [⟨0, 15, 22, 117⟩, ⟨0, 15, 28, 119⟩, ⟨0, 15, 34, 121⟩, ⟨0, 15, 40, 123⟩] htb (fun z hz => absurd hz List.not_mem_nil) rfl (by decide) (htsg _ w_dl0) (va_Nw.use rfl (hB _ w_dc0 rfl)) hce hcv hcl ?_
      refine lv_astore hx hb dL_deed_16 hl (by decide) rfl (fun ls hl => ?_)
      refine lv_sipush (v := xcode 0) hx hb dL_deed_18 (by decide) ?_
      refine W.widen (k := r1.2.2) (n := 6 * r1.2.2) (by omega) (by omega) ?_
      exact vx_ret (W.iret (v := xcode 0) hx hb hr (fun t ht hW => ⟨⟨some (.int (xcode 0)), rfl, rfl, by rw [ht]; exact hP1⟩, hS1.F ht⟩) hS1.2.2 dL_deed_21 hlocks)
    · refine vx_catch (E := xname 1) (name := "java/lang/IllegalArgumentException") hown [⟨0, 15, 16, 115⟩] ⟨0, 15, 22, 117⟩ [⟨0, 15, 28, 119⟩, ⟨0, 15, 34, 121⟩, ⟨0, 15, 40, 123⟩] htb (List.forall_mem_cons.mpr ⟨Or.inr ⟨by decide, _, htsg _ w_dl0, hNc 1 0 (by decide) (by decide)⟩, fun _ h => absurd h List.not_mem_nil⟩) rfl (by decide) (htsg _ w_dl1) (va_Nw.use rfl (hB _ w_dc1 rfl)) hce hcv hcl ?_
      refine lv_astore hx hb dL_deed_22 hl (by decide) rfl (fun ls hl => ?_)
      refine lv_sipush (v := xcode 1) hx hb dL_deed_24 (by decide) ?_
      refine W.widen (k := r1.2.2) (n := 6 * r1.2.2) (by omega) (by omega) ?_
      exact vx_ret (W.iret (v := xcode 1) hx hb hr (fun t ht hW => ⟨⟨some (.int (xcode 1)), rfl, rfl, by rw [ht]; exact hP1⟩, hS1.F ht⟩) hS1.2.2 dL_deed_27 hlocks)
    · refine vx_catch (E := xname 2) (name := "java/lang/UnsupportedOperationException") hown [⟨0, 15, 16, 115⟩, ⟨0, 15, 22, 117⟩] ⟨0, 15, 28, 119⟩ [⟨0, 15, 34, 121⟩, ⟨0, 15, 40, 123⟩] htb (List.forall_mem_cons.mpr ⟨Or.inr ⟨by decide, _, htsg _ w_dl0, hNc 2 0 (by decide) (by decide)⟩, List.forall_mem_cons.mpr ⟨Or.inr ⟨by decide, _, htsg _ w_dl1, hNc 2 1 (by decide) (by decide)⟩, fun _ h => absurd h List.not_mem_nil⟩⟩) rfl (by decide) (htsg _ w_dl2) (va_Nw.use rfl (hB _ w_dc2 rfl)) hce hcv hcl ?_
      refine lv_astore hx hb dL_deed_28 hl (by decide) rfl (fun ls hl => ?_)
      refine lv_sipush (v := xcode 2) hx hb dL_deed_30 (by decide) ?_
      refine W.widen (k := r1.2.2) (n := 6 * r1.2.2) (by omega) (by omega) ?_
      exact vx_ret (W.iret (v := xcode 2) hx hb hr (fun t ht hW => ⟨⟨some (.int (xcode 2)), rfl, rfl, by rw [ht]; exact hP1⟩, hS1.F ht⟩) hS1.2.2 dL_deed_33 hlocks)
    · refine vx_catch (E := xname 3) (name := "java/util/NoSuchElementException") hown [⟨0, 15, 16, 115⟩, ⟨0, 15, 22, 117⟩, ⟨0, 15, 28, 119⟩] ⟨0, 15, 34, 121⟩ [⟨0, 15, 40, 123⟩] htb (List.forall_mem_cons.mpr ⟨Or.inr ⟨by decide, _, htsg _ w_dl0, hNc 3 0 (by decide) (by decide)⟩, List.forall_mem_cons.mpr ⟨Or.inr ⟨by decide, _, htsg _ w_dl1, hNc 3 1 (by decide) (by decide)⟩, List.forall_mem_cons.mpr ⟨Or.inr ⟨by decide, _, htsg _ w_dl2, hNc 3 2 (by decide) (by decide)⟩, fun _ h => absurd h List.not_mem_nil⟩⟩⟩) rfl (by decide) (htsg _ w_dl3) (va_Nw.use rfl (hB _ w_dc3 rfl)) hce hcv hcl ?_
      refine lv_astore hx hb dL_deed_34 hl (by decide) rfl (fun ls hl => ?_)
      refine lv_sipush (v := xcode 3) hx hb dL_deed_36 (by decide) ?_
      refine W.widen (k := r1.2.2) (n := 6 * r1.2.2) (by omega) (by omega) ?_
      exact vx_ret (W.iret (v := xcode 3) hx hb hr (fun t ht hW => ⟨⟨some (.int (xcode 3)), rfl, rfl, by rw [ht]; exact hP1⟩, hS1.F ht⟩) hS1.2.2 dL_deed_39 hlocks)
    · refine vx_catch (E := xname 4) (name := "java/lang/IllegalStateException") hown [⟨0, 15, 16, 115⟩, ⟨0, 15, 22, 117⟩, ⟨0, 15, 28, 119⟩, ⟨0, 15, 34, 121⟩] ⟨0, 15, 40, 123⟩ [] htb (List.forall_mem_cons.mpr ⟨Or.inr ⟨by decide, _, htsg _ w_dl0, hNc 4 0 (by decide) (by decide)⟩, List.forall_mem_cons.mpr ⟨Or.inr ⟨by decide, _, htsg _ w_dl1, hNc 4 1 (by decide) (by decide)⟩, List.forall_mem_cons.mpr ⟨Or.inr ⟨by decide, _, htsg _ w_dl2, hNc 4 2 (by decide) (by decide)⟩, List.forall_mem_cons.mpr ⟨Or.inr ⟨by decide, _, htsg _ w_dl3, hNc 4 3 (by decide) (by decide)⟩, fun _ h => absurd h List.not_mem_nil⟩⟩⟩⟩) rfl (by decide) (htsg _ w_dl4) (va_Nw.use rfl (hB _ w_dc4 rfl)) hce hcv hcl ?_
      refine lv_astore hx hb dL_deed_40 hl (by decide) rfl (fun ls hl => ?_)
      refine lv_sipush (v := xcode 4) hx hb dL_deed_42 (by decide) ?_
      refine W.widen (k := r1.2.2) (n := 6 * r1.2.2) (by omega) (by omega) ?_
      exact vx_ret (W.iret (v := xcode 4) hx hb hr (fun t ht hW => ⟨⟨some (.int (xcode 4)), rfl, rfl, by rw [ht]; exact hP1⟩, hS1.F ht⟩) hS1.2.2 dL_deed_45 hlocks)
  · rcases hr1 with ⟨y, e3, rfl⟩ | ⟨y, hy, e3, -⟩
    · rw [e1] at e3
      cases e3
      refine W.widen (k := r1.2.2) (n := 6 * r1.2.2) (by omega) (by omega) ?_
      exact vx_ret (W.iret (v := y) hx hb hr (fun t ht hW => ⟨⟨some (.int y), rfl, rfl, by rw [ht]; exact hP1⟩, hS1.F ht⟩) hS1.2.2 dL_deed_15 hlocks)
    · rw [e1] at e3; cases e3
/-- THE SMALL MACHINE IS THE JVM'S: what it runs, the JVM runs -/
theorem sound (hfl : l.stackTraces = false) (h9 : w9.category = 1) : ∀ d : Nat, (∀ (k : Nat) (As : List Value) (M : Mem) (r : Res), k < nM → RunG (kdAll, xs, Lx) mdT cdT kD kP d k As M r → ArgsOk (xs := xs) (Lx := Lx) (mdT k) As → MetK cA dC dI sz0 bS Lx xs adK adV w9 l d (ynT k) (wsE (ML.getD k mlD)) As M r) ∧
    (∀ (As : List Value) (M : Mem) (r : Res), RunG (kdAll, xs, Lx) mdT cdT kD kP d 200 As M r → ArgsOk (xs := xs) (Lx := Lx) (mdT 200) As → MetK cA dC dI sz0 bS Lx xs adK adV w9 l d yL_deed wsD As M r) := by
  intro d
  induction d with
  | zero => exact ⟨fun k As M r _ h => h.elim, fun As M r h => h.elim⟩
  | succ d ih =>
    refine ⟨fun k As M r hk h hA => ?_, fun As M r h _ => deed_ok h9 ih.1 h⟩
    simp only [RunG] at h
    rw [if_neg (show ¬ k = kD by have e1 : nM = 127 := rfl; have e2 : kD = 200 := rfl; omega)] at h
    obtain ⟨f, h⟩ := h
    exact meth_ok hfl h9 hk ih.1 ih.2 h hA
end SND6
