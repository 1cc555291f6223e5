section SP43
variable {cA dC : Nat → ClassId} {dI : Nat → Nat → Nat} {bS Lx : Nat} {xs : Nat → Int32} {adK adV : Nat → Nat} {w9 : Value} {l : Launch}
variable {p : Program} {e : Env} {s : State} {m : MethodId} {args : Array Value} {below : List Frame} {meth : Method} {c : Code} {R : Room} {Q : State → Prop} {N : Nat}
theorem okAs_cat {As : List Value} (h : okAs As = true) : ∀ v ∈ As, v.category = 1 := fun v hv => by
  have h1 := List.all_eq_true.mp h v hv
  cases v <;> first | rfl | cases h1
theorem up_gv {β : Nat} {ρ : Nat → Value} {As : List Value} (h : okAs As = true) : (As.map upV).map (gv β ρ) = As.map (gv (β + 410) ρ) := by
  rw [List.map_map]
  refine List.map_congr_left fun v hv => ?_
  have h1 := List.all_eq_true.mp h v hv
  cases v with
  | ref a =>
    simp only [Bool.or_eq_true, beq_iff_eq] at h1
    rcases h1 with rfl | rfl
    · show gv β ρ (upV (.ref 0)) = _
      rw [show upV (.ref 0) = .ref 410 from rfl, gv_lo (by decide), gv_lo (by decide)]
    · show gv β ρ (upV (.ref 1000)) = _
      rw [show upV (.ref 1000) = .ref 1000 from rfl, gv_hi (by decide), gv_hi (by decide)]
  | int x => rfl
  | _ => cases h1
theorem num_gv {β : Nat} {ρ : Nat → Value} {v : Option Value} (h : isNum v = true) : v.map (gv β ρ) = v := by
  cases v with
  | none => rfl
  | some v => cases v <;> first | rfl | cases h
def nsl : Nat := sl finB
/-- a call of the law, on the object at beta' -/
theorem law_call (hfl : l.stackTraces = false) (h9 : w9.category = 1) (hx : p.tables.exec = Jvm.exec) (hb : c.code = cL_law) (hml : c.maxLocals = 16) (hown : s.vm.findClass "RungmasterLaw" = some m.cls) (hts : ∀ w ∈ Wg, w.before args s = true) (hE : EnvP s.heap.size bS Lx xs adK adV w9 s) (hK : va_K (dC, dI) clss (tysl cA) s) (hRf : 22 ≤ R.frames) (hRl : 900 ≤ R.locals)
    {H : Heap} {locs : List Loc} {cells slots pc d k' c' β' : Nat} {ls : Array Slot} {i : Instr} {As rest st0 : List Value} {v : Option Value} {M M' : Mem} (hls : ls.size = 16) (hβ : s.heap.size ≤ β') (hb4 : β' + 410 ≤ H.size) (hP : va_P (dC, dI) clss (wblk cA β' (rho bS adK adV w9) M) H) (hS : va_S (fun q => s.heap.size ≤ q) s.heap H locs)
    (hd : decode cL_law pc = .ok (i, 3)) (hc : CallL i k' As) (h13 : d ≤ 13) (hok : okAs As = true) (h8 : (rest.map fun v => v.category).sum ≤ 8) (hcl : cells + c' ≤ R.cells ∧ slots + 6 * c' ≤ R.slots) (hrun : RetC (kdAll, xs, Lx) d k' As M v M' c') (hst : st0 = (As.map (gv β' (rho bS adK adV w9))).reverse ++ rest)
    (kk : ∀ (H1 : Heap) (locs1 : List Loc), va_P (dC, dI) clss (wblk cA β' (rho bS adK adV w9) M') H1 → H.size ≤ H1.size → (∀ q : Nat, q < H.size → ¬ Aset β' H.size q → H1[q]? = H[q]?) → va_S (fun q => s.heap.size ≤ q) s.heap H1 locs1 → W p l e R s m args below meth c H1 locs1 (cells + c') (slots + 6 * c') Q (F0 m (pc + 3) ls ((v.map (gv β' (rho bS adK adV w9))).toList ++ rest))) :
    W p l e R s m args below meth c H locs cells slots Q (F0 m pc ls st0) := by
  subst hst
  have hk0 : ∀ q : Nat, q < s.heap.size → H[q]? = s.heap[q]? := fun q hq => hS.2.1 q hq (fun z => by have z : s.heap.size ≤ q := z; omega)
  have hp0 := pres_ok (β' := β') (As := As) (M := M) hE hK hP hS.1 hk0 hβ hb4
  have hA : ∀ q, Aset β' H.size q → (fun q => s.heap.size ≤ q) q := fun q h => by
    have := hS.1
    show s.heap.size ≤ q
    rcases h with h | h <;> omega
  have fin : ∀ aa : Array Value, vx_Run p l e R s m args below meth c H locs cells slots c' (6 * c') (F0 m pc ls ((As.map (gv β' (rho bS adK adV w9))).reverse ++ rest)) rest (Qcw cA dC dI bS adK adV w9 β' H.size (.inl v, M', c') aa) (Xcw cA dC dI bS adK adV w9 β' H.size (.inl v, M', c')) (Aset β' H.size) →
      W p l e R s m args below meth c H locs cells slots Q (F0 m pc ls ((As.map (gv β' (rho bS adK adV w9))).reverse ++ rest)) := fun aa hr => by
    refine call_ok (β' := β') (mc := c') (ms := 6 * c') (a := aa) (r1 := (.inl v, M', c')) hr hA hS (fun x H1 locs1 ce q9 e1 _ _ _ _ _ _ _ => by cases e1) (fun v2 H1 locs1 e1 hP1 hz1 hk1 hS1 => ?_)
    cases e1
    exact kk H1 locs1 hP1 hz1 hk1 hS1
  have g8 : 2 * 0 + (rest.map fun v => v.category).sum ≤ 8 := by omega
  obtain ⟨ix, hw, ⟨rfl, hk, h100, hlen⟩ | ⟨rfl, hk, hk9, As', rfl, hlen⟩⟩ := hc
  · rcases hk with hk | rfl
    · have hkn : k' ≠ 200 := by have e1 : nM = 127 := rfl; omega
      have hw2 : Cond.methodLink "RungmasterLaw" ix (ynT k') ∈ Wg := by
        unfold ynL at hw
        rw [if_neg hkn] at hw
        exact hw
      have hao : ArgsOk (xs := xs) (Lx := Lx) (mdT k') As := ⟨okAs_cat hok, Or.inl ⟨h100, hlen.symm⟩⟩
      have hm := (sound (cA := cA) (dC := dC) (dI := dI) (sz0 := s.heap.size) (bS := bS) (Lx := Lx) (xs := xs) (adK := adK) (adV := adV) (w9 := w9) hfl h9 d).1 k' As M (.inl v, M', c') hk hrun hao β' H.size
      rw [mdT_lt hk] at h100 hlen
      obtain ⟨⟨-, yn2, yn3⟩, ypar, yini, ycode, yrcv, ymx, ym20, -⟩ := ml_ok hk
      have ystat : Cond.static (ML.getD k' mlD).1 ∈ Wg := by
        rcases yrcv with ⟨-, z2⟩ | ⟨z1, -⟩
        · exact z2
        · omega
      have z3 : ∀ w ∈ wsE (ML.getD k' mlD), w ∈ Wg := fun w hw => (List.mem_cons.mp hw).elim (fun h => h ▸ ycode) id
      refine fin _ (vx_runS (As := As.map (gv β' (rho bS adK adV w9))) (rest := rest) (n := (ML.getD k' mlD).2.2.1.1) (nL := c.maxLocals) (Ts := Wg) (own := "RungmasterLaw") ⟨hx, hb, rfl, hown, hts⟩ hm ⟨callB_of _ hts (wg_good (fun _ h => h) z3) rfl rfl rfl (hts _ yini) (hts _ hw2) ⟨yn2, yn3, ypar⟩ ⟨?_, ?_⟩, hts _ ystat⟩ ⟨pcw_blind, hp0⟩ rfl (by rw [List.length_map, hlen]) (hls.trans hml.symm) rfl g8 hd hcl)
      · show d + 8 + 1 ≤ R.frames; omega
      · show 8 + (_ + 11) + (200 + 40 * d) ≤ R.locals; omega
    · have hw2 : Cond.methodLink "RungmasterLaw" ix yL_deed ∈ Wg := hw
      have hao : ArgsOk (xs := xs) (Lx := Lx) (mdT 200) As := ⟨okAs_cat hok, Or.inl ⟨h100, hlen.symm⟩⟩
      have hm := (sound (cA := cA) (dC := dC) (dI := dI) (sz0 := s.heap.size) (bS := bS) (Lx := Lx) (xs := xs) (adK := adK) (adV := adV) (w9 := w9) hfl h9 d).2 As M (.inl v, M', c') hrun hao β' H.size
      have z3 : ∀ w ∈ ([.methodLink "RungmasterLaw" ix yL_deed, .static yL_deed, .initialized "RungmasterLaw"] : List Cond) ++ wsD, w ∈ Wg := fun w hw => by
        rcases List.mem_append.mp hw with hw | hw
        · rcases List.mem_cons.mp hw with rfl | hw
          · exact hw2
          · rcases List.mem_cons.mp hw with rfl | hw
            · exact w_deed_s
            · rcases List.mem_cons.mp hw with rfl | hw
              · exact w_deed_i
              · cases hw
        · rcases List.mem_cons.mp hw with rfl | hw
          · exact w_deed_c
          · exact hw
      refine fin _ (vx_runSX (hh := hhD) (bytes := cL_deed) (maxL := 9) (ret := some .int) (As := As.map (gv β' (rho bS adK adV w9))) (rest := rest) (n := 8) (nL := c.maxLocals) (Ts := Wg) (own := "RungmasterLaw") (y := yL_deed) ⟨hx, hb, rfl, hown, hts⟩ hm (vx_cwSW (n := 8) hts (wg_good (fun _ h => h) z3) rfl rfl rfl ⟨by decide +kernel, by decide +kernel, by decide +kernel⟩ ⟨?_, ?_⟩) ⟨pcw_blind, hp0⟩ rfl (by rw [List.length_map, ← hlen]; rfl) (hls.trans hml.symm) rfl g8 hd hcl)
      · show d + 8 + 1 ≤ R.frames; omega
      · show 8 + (9 + 11) + (200 + 40 * d) ≤ R.locals; omega
  · have hkn : k' ≠ 200 := by have e1 : nM = 127 := rfl; omega
    have hw2 : Cond.methodLink "RungmasterLaw" ix (ynT k') ∈ Wg := by
      unfold ynL at hw
      rw [if_neg hkn] at hw
      exact hw
    have hao : ArgsOk (xs := xs) (Lx := Lx) (mdT k') (.ref 0 :: As') := ⟨okAs_cat hok, Or.inr ⟨by rw [hk9]; decide, 0, As', rfl, hlen.symm, by rw [hk9]; exact rc_obj rfl (by decide) (by decide)⟩⟩
    have hm := (sound (cA := cA) (dC := dC) (dI := dI) (sz0 := s.heap.size) (bS := bS) (Lx := Lx) (xs := xs) (adK := adK) (adV := adV) (w9 := w9) hfl h9 d).1 k' (.ref 0 :: As') M (.inl v, M', c') hk hrun hao β' H.size
    rw [mdT_lt hk] at hk9 hlen
    obtain ⟨⟨-, yn2, yn3⟩, ypar, yini, ycode, yrcv, ymx, ym20, -⟩ := ml_ok hk
    have z3 : ∀ w ∈ wsE (ML.getD k' mlD), w ∈ Wg := fun w hw => (List.mem_cons.mp hw).elim (fun h => h ▸ ycode) id
    rcases yrcv with ⟨z1, -⟩ | ⟨z1, z2, z3', z4⟩
    · omega
    rw [if_neg (show ¬ (ML.getD k' mlD).2.2.1.2.2.2 = 101 by omega), hk9] at z4
    obtain ⟨cell, f1, f2, f3⟩ := va_recv hK hP (cl_get 9 (by decide)) (q0 := 0) (a := β' + 0) (by rw [wblk_get (by decide), show kdAll 0 = 9 from rfl, ent_obj (by decide)])
    rw [List.map_cons, gv_lo (by decide)] at fin hp0 ⊢
    have e1 : (Value.ref (β' + 0) :: As'.map (gv β' (rho bS adK adV w9))).reverse ++ rest = (As'.map (gv β' (rho bS adK adV w9))).reverse ++ .ref (β' + 0) :: rest := by simp
    rw [e1] at fin ⊢
    refine fin _ (vx_runV (As := As'.map (gv β' (rho bS adK adV w9))) (rest := rest) (C := (ML.getD k' mlD).1.cls) (b := β' + 0) (n := (ML.getD k' mlD).2.2.1.1) (nL := c.maxLocals) (Ts := Wg) (own := "RungmasterLaw") ⟨hx, hb, rfl, hown, hts⟩ hm ⟨callB_of _ hts (wg_good (fun _ h => h) z3) rfl rfl rfl (hts _ yini) (hts _ hw2) ⟨yn2, yn3, ypar⟩ ⟨?_, ?_⟩, hts _ z2, hts _ z3'⟩ ⟨pcw_blind, ⟨cell, f1, f2, by rw [z4]; exact f3⟩, hp0⟩ rfl (by rw [List.length_map, hlen]) (hls.trans hml.symm) rfl g8 hd hcl)
    · show d + 8 + 1 ≤ R.frames; omega
    · show 8 + (_ + 11) + (200 + 40 * d) ≤ R.locals; omega
variable (cA dC dI bS xs adK adV w9 l p e s m args below meth c R Q)
/-- the law's frame over both blocks -/
def Vp : KT := fun pc L st M1 M2 q => ∀ (H : Heap) (locs : List Loc) (ls : Array Slot), LR (gv s.heap.size (rho bS adK adV w9)) ls 16 L → va_P (dC, dI) clss (wblk cA s.heap.size (rho bS adK adV w9) M1) H → va_P (dC, dI) clss (wblk cA (s.heap.size + 410) (rho bS adK adV w9) M2) H → s.heap.size + 820 ≤ H.size → va_S (fun q => s.heap.size ≤ q) s.heap H locs → W p l e R s m args below meth c H locs (820 + q) (2 * nsl + 6 * q) Q (F0 m pc ls (st.map (gv s.heap.size (rho bS adK adV w9))))
variable {cA dC dI bS xs adK adV w9 l p e s m args below meth c R Q}
theorem wblk_keep {β sz : Nat} {M : Mem} {H H1 : Heap} {β' : Nat} (hP : va_P (dC, dI) clss (wblk cA β (rho bS adK adV w9) M) H) (h : β + 410 ≤ β' ∨ β' + 410 ≤ β) (hsz : H.size ≤ sz) (hk : ∀ q : Nat, q < H.size → ¬ Aset β' sz q → H1[q]? = H[q]?) : va_P (dC, dI) clss (wblk cA β (rho bS adK adV w9) M) H1 := by
  refine hP.kept (fun k q hq => ?_)
  have hlt := (hP k q hq).lt
  obtain ⟨hk4, rfl⟩ := wblk_ix hq
  refine hk _ hlt (fun z => ?_)
  dsimp only at hlt z
  rcases z with z | z <;> omega
/-- THE LAW'S FRAME IS ONE FOR A WALK -/
theorem vp_lk (hfl : l.stackTraces = false) (h9 : w9.category = 1) (hx : p.tables.exec = Jvm.exec) (hb : c.code = cL_law) (hml : c.maxLocals = 16) (hown : s.vm.findClass "RungmasterLaw" = some m.cls) (hts : ∀ w ∈ Wg, w.before args s = true) (hE : EnvP s.heap.size bS Lx xs adK adV w9 s) (hK : va_K (dC, dI) clss (tysl cA) s) (hRf : 22 ≤ R.frames) (hRl : 900 ≤ R.locals) (hRc : 820 + N ≤ R.cells) (hRs : 2 * nsl + 6 * N ≤ R.slots)
    (hret : ∀ (pc q : Nat) (H : Heap) (locs : List Loc) (ls : Array Slot), decode cL_law pc = .ok (.ireturn, 1) → q ≤ N → va_S (fun q => s.heap.size ≤ q) s.heap H locs → W p l e R s m args below meth c H locs (820 + q) (2 * nsl + 6 * q) Q (F0 m pc ls [.int 1])) :
    LK xs Lx N (Vp cA dC dI bS adK adV w9 l p e s m args below meth c R Q) := by
  have hρ : rhoC (rho bS adK adV w9) := rho_C h9
  have hcat : ∀ t : List Value, ((t.map (gv s.heap.size (rho bS adK adV w9))).map fun v => v.category).sum = (t.map fun v => v.category).sum := by
    intro t
    rw [List.map_map]
    congr 1
    exact List.map_congr_left fun v _ => gv_cat hρ v
  refine ⟨?_, ?_, ?_, ?_, ?_, ?_, ?_⟩
  · intro pc i L st st' M1 M2 q hd ho h H locs ls hl hP1 hP2 hz hS
    exact opS_ok hx hb hρ ho hd (h H locs ls hl hP1 hP2 hz hS)
  · intro pc i L L' st st' M1 M2 q hd ho h H locs ls hl hP1 hP2 hz hS
    exact opL_ok hx hb hρ hl ho hd (fun ls' hl' => h H locs ls' hl' hP1 hP2 hz hS)
  · intro pc i L st st' tg M1 M2 q hd hnl ho h H locs ls hl hP1 hP2 hz hS
    exact opB_ok hx hb ho hd (Or.inl rfl) (fun d ps he => absurd he (hnl d ps)) (h H locs ls hl hP1 hP2 hz hS)
  · intro pc ix v L st M1 M2 q hd hw h H locs ls hl hP1 hP2 hz hS
    exact W.ldc2 hx hb hown (hts _ hw) rfl hd (h H locs ls hl hP1 hP2 hz hS)
  · intro pc i d k' As t v M1' c' L M1 M2 q hd hc h13 hok hv h8 hq hr h H locs ls hl hP1 hP2 hz hS
    refine law_call (rest := t.map (gv s.heap.size (rho bS adK adV w9))) hfl h9 hx hb hml hown hts hE hK hRf hRl hl.1.1 (Nat.le_refl _) (by omega) hP1 hS hd hc h13 hok (by rw [hcat]; exact h8) ⟨by omega, by omega⟩ hr (by rw [List.map_append, List.map_reverse]) (fun H1 locs1 hP1' hz1 hk1 hS1 => ?_)
    have k1 := h H1 locs1 ls hl hP1' (wblk_keep hP2 (Or.inr (Nat.le_refl _)) (Nat.le_refl _) hk1) (by omega) hS1
    rw [List.map_append] at k1
    have e1 : v.toList.map (gv s.heap.size (rho bS adK adV w9)) = (v.map (gv s.heap.size (rho bS adK adV w9))).toList := by cases v <;> rfl
    rw [e1] at k1
    have e2 : 820 + q + c' = 820 + (q + c') := by omega
    have e3 : 2 * nsl + 6 * q + 6 * c' = 2 * nsl + 6 * (q + c') := by omega
    rw [e2, e3]
    exact k1
  · intro pc i d k' As t v M2' c' L M1 M2 q hd hc h13 hok hv h8 hq hr h H locs ls hl hP1 hP2 hz hS
    refine law_call (β' := s.heap.size + 410) (rest := t.map (gv s.heap.size (rho bS adK adV w9))) hfl h9 hx hb hml hown hts hE hK hRf hRl hl.1.1 (by omega) (by omega) hP2 hS hd hc h13 hok (by rw [hcat]; exact h8) ⟨by omega, by omega⟩ hr (by rw [List.map_append, List.map_reverse, up_gv hok]) (fun H1 locs1 hP2' hz1 hk1 hS1 => ?_)
    have k1 := h H1 locs1 ls hl (wblk_keep hP1 (Or.inl (Nat.le_refl _)) (Nat.le_refl _) hk1) hP2' (by omega) hS1
    rw [List.map_append] at k1
    have e1 : v.toList.map (gv s.heap.size (rho bS adK adV w9)) = (v.map (gv (s.heap.size + 410) (rho bS adK adV w9))).toList := by
      rw [num_gv hv]
      have e4 := num_gv (β := s.heap.size) (ρ := rho bS adK adV w9) hv
      cases v with
      | none => rfl
      | some v => exact congrArg (fun o : Option Value => o.toList) e4
    rw [e1] at k1
    have e2 : 820 + q + c' = 820 + (q + c') := by omega
    have e3 : 2 * nsl + 6 * q + 6 * c' = 2 * nsl + 6 * (q + c') := by omega
    rw [e2, e3]
    exact k1
  · intro pc L M1 M2 q hd hq H locs ls hl hP1 hP2 hz hS
    exact hret pc q H locs ls hd hq hS
end SP43
