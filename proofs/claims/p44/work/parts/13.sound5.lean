theorem w_deed_s : Cond.static yL_deed ∈ Wg := wg 670 (by decide +kernel) (by decide +kernel)
theorem w_deed_i : Cond.initialized "RungmasterLaw" ∈ Wg := wg 18 (by decide +kernel) (by decide +kernel)
theorem w_deed_c : Cond.codeWith yL_deed cL_deed 9 (some .int) hhD ∈ Wg := wg 671 (by decide +kernel) (by decide +kernel)
section SND5
variable {cA dC : Nat → ClassId} {dI : Nat → Nat → Nat} {sz0 bS Lx : Nat} {xs : Nat → Int32} {adK adV : Nat → Nat} {w9 : Value} {l : Launch}
theorem narrow_ret {t : Nat} {x : Int32} (h : retOk t x = true) : ∃ ty, retOf t = some ty ∧ narrow ty (.int x) = .int x := by
  unfold retOk at h
  by_cases h1 : t = 1
  · subst h1
    exact ⟨.int, rfl, rfl⟩
  · rw [if_neg h1] at h
    by_cases h2 : t = 2
    · subst h2
      have h3 : x = 0 ∨ x = 1 := by simpa using h
      rcases h3 with rfl | rfl <;> exact ⟨.boolean, rfl, rfl⟩
    · rw [if_neg h2] at h
      by_cases h4 : t = 3
      · subst h4
        have h3 : 0 ≤ x ∧ x ≤ 65535 := by simpa using h
        obtain ⟨q, hq, rfl⟩ := nI_of2 (M := 65535) (n := 65535) (by decide) (nlt_of h3.1) h3.2
        exact ⟨.char, rfl, (pk_charN (by omega)).1⟩
      · rw [if_neg h4] at h
        by_cases h5 : t = 4
        · subst h5
          have h3 : -128 ≤ x ∧ x ≤ 127 := by simpa using h
          refine ⟨.byte, rfl, ?_⟩
          have e : x.toInt8.toInt32 = x := by
            have a1 := Int32.le_iff_toInt_le.mp h3.1
            have a2 := Int32.le_iff_toInt_le.mp h3.2
            have b1 : ((-128 : Int32)).toInt = -128 := by decide
            have b2 : ((127 : Int32)).toInt = 127 := by decide
            rw [b1] at a1
            rw [b2] at a2
            apply Int32.toInt_inj.mp
            simp only [Int8.toInt_toInt32, Int32.toInt_toInt8]
            rw [Int.bmod_def]
            omega
          show Value.int x.toInt8.toInt32 = _
          rw [e]
        · rw [if_neg h5] at h
          cases h
/-- what a call needs of its arguments -/
def ArgsOk (md : MD) (As : List Value) : Prop := (∀ v ∈ As, v.category = 1) ∧ ((md.2.2.2 = 100 ∧ As.length = md.1) ∨ (md.2.2.2 ≠ 100 ∧ ∃ (r : Nat) (As' : List Value), As = .ref r :: As' ∧ As'.length = md.1 ∧ recvOk (kdAll, xs, Lx) md.2.2.2 r = true))
theorem cut_args {G : MG} (hG : G = (kdAll, xs, Lx)) {md : MD} {st As t : List Value} (h : cut G md st = some (As, t)) (hc : ∀ v ∈ As, v.category = 1) : ArgsOk (xs := xs) (Lx := Lx) md As := by
  subst hG
  rcases cut_spec h with ⟨h1, h2, h3⟩ | ⟨h1, r, As', h2, h3, h4, h5⟩
  · exact ⟨hc, Or.inl ⟨h1, h3⟩⟩
  · exact ⟨hc, Or.inr ⟨h1, r, As', h2, h4, h5⟩⟩
variable {p : Program} {e : Env} {s : State} {m : MethodId} {args : Array Value} {below : List Frame} {meth : Method} {c : Code} {β : Nat}
theorem vx_xname {a : Nat} (ha : a < 5) : Bundle.fit (xname a) = true := by
  rcases (by omega : a = 0 ∨ a = 1 ∨ a = 2 ∨ a = 3 ∨ a = 4) with rfl | rfl | rfl | rfl | rfl <;> decide
/-- a method's body, from any of its places -/
theorem body_ok (hfl : l.stackTraces = false) (h9 : w9.category = 1) {d k : Nat} (hk : k < nM)
    (IH : ∀ (k' : Nat) (As : List Value) (M : Mem) (r : Res), k' < nM → RunG (kdAll, xs, Lx) mdT cdT kD kP d k' As M r → ArgsOk (xs := xs) (Lx := Lx) (mdT k') As → MetK cA dC dI sz0 bS Lx xs adK adV w9 l d (ynT k') (wsE (ML.getD k' mlD)) As M r)
    (IHD : ∀ (As : List Value) (M : Mem) (r : Res), RunG (kdAll, xs, Lx) mdT cdT kD kP d 200 As M r → ArgsOk (xs := xs) (Lx := Lx) (mdT 200) As → MetK cA dC dI sz0 bS Lx xs adK adV w9 l d yL_deed wsD As M r)
    (hx : p.tables.exec = Jvm.exec) (hb : c.code = bnT k) (hml : c.maxLocals = (mdT k).2.2.1) (hr : meth.sig.returnType = retOf (mdT k).2.1) (hlocks : meth.locks = false) (htab : ∀ x ∈ c.exceptionTable.toList, False)
    (hown : s.vm.findClass (ynT k).cls = some m.cls) (hts : ∀ w ∈ Wg, w.before args s = true) (hE : EnvP sz0 bS Lx xs adK adV w9 s) (hK : va_K (dC, dI) clss (tysl cA) s) (hβ : sz0 ≤ β) (hβ2 : β + 410 ≤ s.heap.size) :
    ∀ (f : Nat) (t : AS) (r : Res), Exec (kdAll, xs, Lx) mdT cdT (RunG (kdAll, xs, Lx) mdT cdT kD kP d) k f t r → ∀ (H : Heap) (locs : List Loc) (ls : Array Slot), LR (gv β (rho bS adK adV w9)) ls (mdT k).2.2.1 t.2.1 → va_P (dC, dI) clss (wblk cA β (rho bS adK adV w9) t.2.2.2.1) H → va_S (Aset β s.heap.size) s.heap H locs →
      W p l e (rmK (d + 1) r.2.2) s m args below meth c H locs t.2.2.2.2 (6 * t.2.2.2.2) (vx_MQ below (Qcw cA dC dI bS adK adV w9 β s.heap.size r) (Xcw cA dC dI bS adK adV w9 β s.heap.size r) args s r.2.2 (6 * r.2.2) (Aset β s.heap.size)) (F0 m t.1 ls (t.2.2.1.map (gv β (rho bS adK adV w9)))) := by
  have hρ : rhoC (rho bS adK adV w9) := rho_C h9
  have hOk := ml_ok hk
  rw [mdT_lt hk] at hml hr
  obtain ⟨⟨pn1, pn2, pn3⟩, hpar, hini, hcode, hrcv, hmx, hm20, hrows⟩ := hOk
  have hcat : ∀ t : List Value, ((t.map (gv β (rho bS adK adV w9))).map fun v => v.category).sum = (t.map fun v => v.category).sum := by
    intro t
    rw [List.map_map]
    congr 1
    exact List.map_congr_left fun v _ => gv_cat hρ v
  have hAA : ∀ q, Aset β s.heap.size q → sz0 ≤ q := fun q h => by
    have := hE.2.2.1
    rcases h with h | h <;> omega
  intro f
  induction f with
  | zero => intro t r h; exact h.elim
  | succ f ih =>
    intro t r h H locs ls hl hP hS
    have hle := exec_le _ _ _ h
    simp only [Exec] at h
    cases hs : stepf (kdAll, xs, Lx) mdT cdT k t with
    | none => rw [hs] at h; exact h.elim
    | some z =>
      rw [hs] at h
      obtain ⟨i, a, b, hm, hz⟩ := stepf_spec hs
      obtain ⟨⟨n, hd, hn⟩, hv⟩ := hrows _ hm
      simp only [] at hd hn hv
      have hbk : c.code = (ML.getD k mlD).2.1 := hb
      obtain ⟨pc, L, st, M, q⟩ := t
      simp only [] at hd hn hv hl hP hS hle hz h ⊢
      have hml' : c.maxLocals = ls.size := by rw [hml, hl.1.1, mdT_lt hk]
      have hsw : swt i = false → n = ilen i := fun hf => by
        rcases hn with hn | hn
        · exact hn
        · rw [hf] at hn; cases hn
      rcases stepi_spec hz with ⟨st', ho, rfl⟩ | ⟨L', st', ho, rfl⟩ | ⟨pc', st', ho, rfl⟩ | ⟨M', st', ho, rfl⟩ | ⟨z', ho, rfl⟩
      · have hn2 : n = ilen i := hsw (by cases i <;> first | rfl | exact nomatch ho)
        subst hn2
        exact opS_ok hx hbk hρ ho hd (ih (pc + ilen i, L, st', M, q) r h H locs ls hl hP hS)
      · have hn2 : n = ilen i := hsw (by cases i <;> first | rfl | exact nomatch ho)
        subst hn2
        exact opL_ok hx hbk hρ hl ho hd (fun ls' hl' => ih (pc + ilen i, L', st', M, q) r h H locs ls' hl' hP hS)
      · exact opB_ok hx hbk ho hd hn (fun d ps he => by subst he; exact hv) (ih (pc', L, st', M, q) r h H locs ls hl hP hS)
      · have hn2 : n = ilen i := hsw (by cases i <;> first | rfl | exact nomatch ho)
        subst hn2
        exact opH_ok hx hbk hml' h9 hown hts hE hβ hK hP hS (by show 1 ≤ d + 1 + 8; omega) (by show 40 ≤ 200 + 40 * (d + 1); omega) ⟨hle, by show 6 * q ≤ 6 * _; omega⟩ ho hd hv (fun H' locs' hP' hS' => ih (pc + ilen i, L, st', M', q) r h H' locs' ls hl hP' hS')
      · have hsz := hS.1
        have hk0 : ∀ q : Nat, q < sz0 → H[q]? = s.heap[q]? := fun q hq => hS.2.1 q (by have := hE.2.2.1; omega) (fun z => by have := hAA q z; omega)
        rcases opC_spec ho with ⟨x, rfl, h1, h2, rfl⟩ | ⟨x, rfl, h1, h2, rfl⟩ | ⟨rfl, h1, h2, rfl⟩ | ⟨ix, rfl, h1, h2, h3, rfl⟩ | ⟨ix, As, t, rfl, h1, h2, h3, h4, rfl⟩ | ⟨ix, As, t, rfl, h1, h2, h3, h4, rfl⟩
        · simp only [] at h h1
          subst h1; subst h
          have hn2 := hsw rfl
          subst hn2
          rw [mdT_lt hk] at h2
          obtain ⟨ty, e1, e2⟩ := narrow_ret h2
          exact vx_ret (W.zret (v := x) (ty := ty) hx hbk (hr.trans e1) e2 (fun t ht hW => ⟨⟨some (.int x), rfl, rfl, by rw [ht]; exact hP⟩, hS.F ht⟩) hS.2.2 hd hlocks)
        · simp only [] at h h1
          subst h1; subst h
          have hn2 := hsw rfl
          subst hn2
          rw [mdT_lt hk] at h2
          rw [h2] at hr
          exact vx_ret (W.lret (v := x) hx hbk hr (fun t ht hW => ⟨⟨some (.long x), rfl, rfl, by rw [ht]; exact hP⟩, hS.F ht⟩) hS.2.2 hd hlocks)
        · simp only [] at h h1
          subst h1; subst h
          have hn2 := hsw rfl
          subst hn2
          rw [mdT_lt hk] at h2
          rw [h2] at hr
          exact vx_ret (W.vret hx hbk hr (fun t ht hW => ⟨⟨none, rfl, rfl, by rw [ht]; exact hP⟩, hS.F ht⟩) hS.2.2 hd hlocks)
        · simp only [] at h h1
          subst h1; subst h
          have hn2 := hsw rfl
          subst hn2
          obtain ⟨-, ic, g1, g2, ⟨⟨ps, g3⟩, g4⟩, g5, g6, g7⟩ := hv
          obtain ⟨hX, hbz, hsz0, hSt, hRef, hZc, hZs, hZu, hZn, hB, -⟩ := id hE
          have hall : ∀ w ∈ vx_at0 (ynT k).cls ic (xname a) xsup, w ∈ lw_tbl := fun w hw => by
            obtain ⟨j, hj⟩ := List.getElem?_of_mem hw
            have e1 : ((vx_at0 (ynT k).cls ic (xname a) xsup).map some)[j]? = some (some w) := by rw [List.getElem?_map, hj]; rfl
            have e2 : (vx_at0 (ynT k).cls ic (xname a) xsup).map some = ps.map (fun i => lw_tbl[i]?) := g3
            rw [e2, List.getElem?_map, Option.map_eq_some_iff] at e1
            obtain ⟨z, -, e3⟩ := e1
            exact List.mem_of_getElem? e3
          have hot : ∀ w ∈ vx_at0 (ynT k).cls ic (xname a) xsup, vx_ot w = true ∧ (goodWord w = true ∨ isB w = true) := fun w hw => by
            have := List.all_eq_true.mp g4 w hw
            simpa only [Bool.and_eq_true, Bool.or_eq_true] using this
          refine vx_throw0 (A := Aset β s.heap.size) (names := xsup) (ik := ix) (ic := ic) (own := (ynT k).cls) (cls := xname a) hx hbk hfl hown (vx_xname h2) (by decide) (hts _ g1) (hts _ g2) (fun w hw => ?_) (fun w hw => ?_) (vx_Zq.narrow hZu hAA) (vx_Zq.narrow hZn hAA) hS hml'.symm hd g5 g6 g7 (fun x hx' => (htab x hx').elim) (by show 2 + 3 < d + 1 + 8; omega) (by show _ ≤ 200 + 40 * (d + 1); simp [xsup]; omega) (Nat.le_refl _) (by show 6 * q + 6 ≤ 6 * (q + 1); omega) hlocks (fun t hvm hz hk1 => ⟨⟨a, rfl, rfl, ?_⟩, ?_⟩) hS.2.2 (Nat.le_refl _) (by show 6 * q + 6 ≤ 6 * (q + 1); omega)
          · rcases (hot w hw).2 with g | g
            · exact hts _ (List.mem_filter.mpr ⟨hall w hw, g⟩)
            · have ht0 : w.onTables = true := by cases w <;> first | rfl | exact nomatch g
              exact va_Nw.use ht0 (hB w (hall w hw) g)
          · rcases List.mem_cons.mp hw with rfl | hw
            · rfl
            · rcases List.mem_cons.mp hw with rfl | hw
              · rfl
              · exact (hot w hw).1
          · exact hP.kept (fun k' q' hq' => hk1 q'.1 (hP k' q' hq').lt)
          · exact ⟨Nat.le_trans hsz hz, fun q' hq1 hq2 => by rw [hk1 q' (Nat.lt_of_lt_of_le hq1 hsz)]; exact hS.2.1 q' hq1 hq2⟩
        · have hn2 := hsw rfl
          subst hn2
          simp only [] at h h1
          obtain ⟨r1, hc1, h⟩ := h
          obtain ⟨v1, v2, v3⟩ := hv
          have hao := cut_args (xs := xs) (Lx := Lx) rfl h1 h4
          obtain ⟨⟨-, yn2, yn3⟩, ypar, yini, ycode, yrcv, ymx, ym20, -⟩ := ml_ok v1
          have hmet := IH a As M r1 v1 hc1 hao β H.size
          have hle2 : q + r1.2.2 ≤ r.2.2 := by
            rcases h with ⟨v, -, h⟩ | ⟨x, -, h⟩
            · exact exec_le _ _ _ h
            · rw [h]; exact Nat.le_refl _
          rcases cut_spec h1 with ⟨c1, -, -⟩ | ⟨-, rr, As', c2, c3, c4, c5⟩
          · exact absurd c1 v2
          · rw [mdT_lt v1] at c4 c5 v2
            rcases yrcv with ⟨z1, -⟩ | ⟨z1, z2, z3, z4⟩
            · exact absurd z1 v2
            · subst c2
              have hin : ∀ w ∈ wsE (ML.getD a mlD), w ∈ Wg := fun w hw => (List.mem_cons.mp hw).elim (fun h => h ▸ ycode) id
              have hrec : ∃ (x : Nat) (cellB : Cell), gv β (rho bS adK adV w9) (.ref rr) = .ref x ∧ H[x]? = some cellB ∧ cellB.vm.isStatics = false ∧ s.vm.findClass (ML.getD a mlD).1.cls = some cellB.cls := by
                rw [z4]
                unfold recvOk at c5
                by_cases z5 : (ML.getD a mlD).2.2.1.2.2.2 = 101
                · rw [if_pos z5] at c5 ⊢
                  have c6 : (2000 : Nat) ≤ rr ∧ rr < (2005 : Nat) := of_decide_eq_true c5
                  obtain ⟨cell, f1, f2, f3⟩ := vk_recv (i := rr - 2000) (vk_S.narrow hE.2.2.2.1 hAA) (by omega) hS
                  exact ⟨_, cell, by rw [gv_hi (by omega), rho_K c6.1 c6.2], f1, f2, f3⟩
                · rw [if_neg z5] at c5 ⊢
                  have c6 : kdAll rr = (ML.getD a mlD).2.2.1.2.2.2 ∧ rr < 410 := of_decide_eq_true c5
                  have z6 := z1.resolve_right z5
                  obtain ⟨cell, f1, f2, f3⟩ := va_recv hK hP (cl_get _ z6) (q0 := rr) (a := β + rr) (by rw [wblk_get c6.2, c6.1, ent_obj z6])
                  exact ⟨_, cell, gv_lo (by omega), f1, f2, f3⟩
              obtain ⟨x0, cellB, x1, x2, x3, x4⟩ := hrec
              have hst : st.map (gv β (rho bS adK adV w9)) = (As'.map (gv β (rho bS adK adV w9))).reverse ++ .ref x0 :: t.map (gv β (rho bS adK adV w9)) := by
                rw [c3, List.map_append, List.map_cons, x1, List.map_reverse]
              rw [hst]
              have hp0 := pres_ok (β' := β) (As := .ref rr :: As') (M := M) hE hK hP hsz hk0 hβ (Nat.le_trans hβ2 hsz)
              rw [List.map_cons, x1] at hp0
              have hmet2 := hmet
              refine call_ok (β' := β) (mc := r1.2.2) (ms := 6 * r1.2.2) (a := (Value.ref x0 :: As'.map (gv β (rho bS adK adV w9))).toArray) (vx_runV (As := As'.map (gv β (rho bS adK adV w9))) (rest := t.map (gv β (rho bS adK adV w9))) (C := (ML.getD a mlD).1.cls) (b := x0) (n := (ML.getD a mlD).2.2.1.1) (nL := c.maxLocals) (Ts := Wg) (own := (ynT k).cls) ⟨hx, hbk, rfl, hown, hts⟩ hmet ⟨callB_of _ hts (wg_good (fun _ h => h) hin) rfl rfl rfl (hts _ yini) (hts _ v3) ⟨yn2, yn3, ypar⟩ ⟨Nat.le_refl _, ?_⟩, hts _ z2, hts _ z3⟩ ⟨pcw_blind, ⟨cellB, x2, x3, x4⟩, hp0⟩ rfl (by rw [List.length_map, c4]) hml'.symm rfl ?_ hd ⟨hle2, ?_⟩) (fun q' h' => ?_) hS (fun x H1 locs1 ce q9 e1 hP1 hz1 hk1 hS1 hce hcv hcl => ?_) (fun v H1 locs1 e1 hP1 hz1 hk1 hS1 => ?_)
              · show 8 + (_ + 11) + (200 + 40 * d) ≤ 200 + 40 * (d + 1); omega
              · show 2 * 0 + _ ≤ 8; rw [hcat]; unfold catS at h2; omega
              · show 6 * q + 6 * r1.2.2 ≤ 6 * _; omega
              · rcases h' with h' | h'
                · exact Or.inl h'
                · exact Or.inr (Nat.le_trans hsz h')
              · rcases h with ⟨v, e2, h⟩ | ⟨x', e2, h⟩
                · rw [e1] at e2; cases e2
                · rw [e1] at e2
                  cases e2
                  subst h
                  exact vx_out (fun x hx' => (htab x hx').elim) hlocks hce hcv hcl (fun t ht hvm => ⟨⟨x, rfl, rfl, by rw [ht]; exact hP1⟩, hS1.F ht⟩) hS1.2.2 (Nat.le_refl _) (by show 6 * q + 6 * r1.2.2 ≤ 6 * (q + r1.2.2); omega)
              · rcases h with ⟨v', e2, h⟩ | ⟨x', e2, h⟩
                · rw [e1] at e2
                  cases e2
                  have k1 := ih (pc + 3, L, v.toList ++ t, r1.2.1, q + r1.2.2) r h H1 locs1 ls hl hP1 hS1
                  simp only [] at k1
                  have e6 : 6 * q + 6 * r1.2.2 = 6 * (q + r1.2.2) := by omega
                  rw [e6]
                  cases v <;> exact k1
                · rw [e1] at e2; cases e2
        · have hn2 := hsw rfl
          subst hn2
          simp only [] at h h1
          obtain ⟨r1, hc1, h⟩ := h
          have hao := cut_args (xs := xs) (Lx := Lx) rfl h1 h4
          have hle2 : q + r1.2.2 ≤ r.2.2 := by
            rcases h with ⟨v, -, h⟩ | ⟨x, -, h⟩
            · exact exec_le _ _ _ h
            · rw [h]; exact Nat.le_refl _
          have fin : ∀ aa : Array Value, vx_Run p l e (rmK (d + 1) r.2.2) s m args below meth c H locs q (6 * q) r1.2.2 (6 * r1.2.2) (F0 m pc ls (st.map (gv β (rho bS adK adV w9)))) (t.map (gv β (rho bS adK adV w9))) (Qcw cA dC dI bS adK adV w9 β H.size r1 aa) (Xcw cA dC dI bS adK adV w9 β H.size r1) (Aset β H.size) →
              W p l e (rmK (d + 1) r.2.2) s m args below meth c H locs q (6 * q) (vx_MQ below (Qcw cA dC dI bS adK adV w9 β s.heap.size r) (Xcw cA dC dI bS adK adV w9 β s.heap.size r) args s r.2.2 (6 * r.2.2) (Aset β s.heap.size)) (F0 m pc ls (st.map (gv β (rho bS adK adV w9)))) := by
            intro aa hrun
            refine call_ok (β' := β) (mc := r1.2.2) (ms := 6 * r1.2.2) (a := aa) hrun (fun q' h' => ?_) hS (fun x H1 locs1 ce q9 e1 hP1 hz1 hk1 hS1 hce hcv hcl => ?_) (fun v H1 locs1 e1 hP1 hz1 hk1 hS1 => ?_)
            · rcases h' with h' | h'
              · exact Or.inl h'
              · exact Or.inr (Nat.le_trans hsz h')
            · rcases h with ⟨v, e2, h⟩ | ⟨x', e2, h⟩
              · rw [e1] at e2; cases e2
              · rw [e1] at e2
                cases e2
                subst h
                exact vx_out (fun x hx' => (htab x hx').elim) hlocks hce hcv hcl (fun t ht hvm => ⟨⟨x, rfl, rfl, by rw [ht]; exact hP1⟩, hS1.F ht⟩) hS1.2.2 (Nat.le_refl _) (by show 6 * q + 6 * r1.2.2 ≤ 6 * (q + r1.2.2); omega)
            · rcases h with ⟨v', e2, h⟩ | ⟨x', e2, h⟩
              · rw [e1] at e2
                cases e2
                have k1 := ih (pc + 3, L, v.toList ++ t, r1.2.1, q + r1.2.2) r h H1 locs1 ls hl hP1 hS1
                simp only [] at k1
                have e6 : 6 * q + 6 * r1.2.2 = 6 * (q + r1.2.2) := by omega
                rw [e6]
                cases v <;> exact k1
              · rw [e1] at e2; cases e2
          have hp0 := pres_ok (β' := β) (As := As) (M := M) hE hK hP hsz hk0 hβ (Nat.le_trans hβ2 hsz)
          have hst : (mdT a).2.2.2 = 100 → st.map (gv β (rho bS adK adV w9)) = (As.map (gv β (rho bS adK adV w9))).reverse ++ t.map (gv β (rho bS adK adV w9)) ∧ As.length = (mdT a).1 := fun h100 => by
            rcases cut_spec h1 with ⟨-, c2, c3⟩ | ⟨c1, -⟩
            · rw [c2, List.map_append, List.map_reverse]
              exact ⟨rfl, c3⟩
            · exact absurd h100 c1
          have g8 : ∀ w : List Value, w = t.map (gv β (rho bS adK adV w9)) → 2 * 0 + (w.map fun v => v.category).sum ≤ 8 := fun w hw => by rw [hw, hcat]; unfold catS at h2; omega
          have stat : a < nM → (mdT a).2.2.2 = 100 → (Cond.static (ML.getD a mlD).1).before args s = true ∧ As.length = (ML.getD a mlD).2.2.1.1 ∧ (∀ w ∈ wsE (ML.getD a mlD), w ∈ Wg) := fun v1 h100 => by
            obtain ⟨-, -, -, ycode, yrcv, -, -, -⟩ := ml_ok v1
            have e1 := (hst h100).2
            rw [mdT_lt v1] at h100 e1
            rcases yrcv with ⟨-, z2⟩ | ⟨z1, -⟩
            · exact ⟨hts _ z2, e1, fun w hw => (List.mem_cons.mp hw).elim (fun h => h ▸ ycode) id⟩
            · omega
          rcases hv with ⟨rfl, v1, v2, v3⟩ | ⟨rfl, v1, v2, v3⟩ | ⟨rfl, v1⟩ | ⟨rfl, v1⟩ | ⟨rfl, v1⟩ | ⟨rfl, rfl, v2, v3⟩
          · obtain ⟨z1, z2, z3⟩ := stat v1 v2
            obtain ⟨⟨-, yn2, yn3⟩, ypar, yini, ycode, -, ymx, ym20, -⟩ := ml_ok v1
            refine fin _ (vx_runS (As := As.map (gv β (rho bS adK adV w9))) (rest := t.map (gv β (rho bS adK adV w9))) (n := (ML.getD a mlD).2.2.1.1) (nL := c.maxLocals) (Ts := Wg) (own := (ynT k).cls) ⟨hx, hbk, rfl, hown, hts⟩ (IH a As M r1 v1 hc1 hao β H.size) ⟨callB_of _ hts (wg_good (fun _ h => h) z3) rfl rfl rfl (hts _ yini) (hts _ v3) ⟨yn2, yn3, ypar⟩ ⟨Nat.le_refl _, ?_⟩, z1⟩ ⟨pcw_blind, hp0⟩ rfl (by rw [List.length_map, z2]) hml'.symm (hst v2).1 (g8 _ rfl) hd ⟨hle2, ?_⟩)
            · show 8 + (_ + 11) + (200 + 40 * d) ≤ 200 + 40 * (d + 1); omega
            · show 6 * q + 6 * r1.2.2 ≤ 6 * _; omega
          · obtain ⟨z1, z2, z3⟩ := stat v1 v2
            obtain ⟨⟨-, yn2, yn3⟩, ypar, yini, ycode, -, ymx, ym20, -⟩ := ml_ok v1
            refine fin _ (vx_runSN (As := As.map (gv β (rho bS adK adV w9))) (rest := t.map (gv β (rho bS adK adV w9))) (n := (ML.getD a mlD).2.2.1.1) (nL := c.maxLocals) (Ts := Wg) (own := (ynT k).cls) (host := "Rungmaster") ⟨hx, hbk, rfl, hown, hts⟩ (IH a As M r1 v1 hc1 hao β H.size) ⟨va_cnB _ hts (wg_good (fun _ h => h) z3) rfl rfl rfl (hE.2.2.2.2.2.2.2.2.2.1 _ v3 rfl) (hts _ yini) ⟨yn2, yn3, ypar⟩ ⟨Nat.le_refl _, ?_⟩, z1, trivial⟩ ⟨pcw_blind, hp0⟩ rfl (by rw [List.length_map, z2]) hml'.symm (hst v2).1 (g8 _ rfl) hd ⟨hle2, ?_⟩)
            · show 8 + (_ + 11) + (200 + 40 * d) ≤ 200 + 40 * (d + 1); omega
            · show 6 * q + 6 * r1.2.2 ≤ 6 * _; omega
          · omega
          · omega
          · omega
          · have z3 : ∀ w ∈ ([.methodLink "RungmasterLaw" ix yL_deed, .static yL_deed, .initialized "RungmasterLaw"] : List Cond) ++ wsD, w ∈ Wg := fun w hw => by
              rcases List.mem_append.mp hw with hw | hw
              · rcases List.mem_cons.mp hw with rfl | hw
                · rw [← v2]; exact v3
                · rcases List.mem_cons.mp hw with rfl | hw
                  · exact w_deed_s
                  · rcases List.mem_cons.mp hw with rfl | hw
                    · exact w_deed_i
                    · cases hw
              · rcases List.mem_cons.mp hw with rfl | hw
                · exact w_deed_c
                · exact hw
            refine fin _ (vx_runSX (hh := hhD) (bytes := cL_deed) (maxL := 9) (ret := some .int) (As := As.map (gv β (rho bS adK adV w9))) (rest := t.map (gv β (rho bS adK adV w9))) (n := 8) (nL := c.maxLocals) (Ts := Wg) (own := (ynT k).cls) (y := yL_deed) ⟨hx, hbk, rfl, hown, hts⟩ (IHD As M r1 hc1 hao β H.size) (vx_cwSW (n := 8) hts (wg_good (fun _ h => h) (by rw [show (ynT k).cls = "RungmasterLaw" from v2]; exact z3)) rfl rfl rfl ⟨by decide +kernel, by decide +kernel, by decide +kernel⟩ ⟨Nat.le_refl _, ?_⟩) ⟨pcw_blind, hp0⟩ rfl (by rw [List.length_map, (hst rfl).2]; rfl) hml'.symm (hst rfl).1 (g8 _ rfl) hd ⟨hle2, ?_⟩)
            · show 8 + (9 + 11) + (200 + 40 * d) ≤ 200 + 40 * (d + 1); omega
            · show 6 * q + 6 * r1.2.2 ≤ 6 * _; omega
end SND5
