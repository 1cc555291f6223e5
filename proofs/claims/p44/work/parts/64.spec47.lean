section SP47
variable {cA dC : Nat → ClassId} {dI : Nat → Nat → Nat} {bS Lx : Nat} {xs : Nat → Int32} {adK adV : Nat → Nat} {w9 : Value} {l : Launch}
variable {p : Program} {e : Env} {s : State} {m : MethodId} {args : Array Value} {below : List Frame} {meth : Method} {c : Code} {R : Room} {Q : State → Prop}
theorem callc2_ok {H : Heap} {locs : List Loc} {cells slots mc ms pc β' : Nat} {ls : Array Slot} {rest st0 : List Value} {B' : CB} {a : Array Value} {A : Nat → Prop} (hr : vx_Run p l e R s m args below meth c H locs cells slots mc ms (F0 m pc ls st0) rest (Qcc cA dC dI bS adK adV w9 β' B' a) Xcc (fun q => β' ≤ q)) (hA : ∀ q, β' ≤ q → A q) (hS : va_S A s.heap H locs)
    (kk : ∀ (H1 : Heap) (locs1 : List Loc), va_P (dC, dI) clss (wblC cA β' (rho bS adK adV w9) B') H1 → H1.size = β' + B'.length → (∀ q : Nat, q < H.size → ¬ β' ≤ q → H1[q]? = H[q]?) → va_S A s.heap H1 locs1 → W p l e R s m args below meth c H1 locs1 (cells + mc) (slots + ms) Q (F0 m (pc + 3) ls rest)) : W p l e R s m args below meth c H locs cells slots Q (F0 m pc ls st0) := by
  intro T hT X
  rcases hr T hT X with ⟨v, st₀, t, T', L, h0, X', hL, e1, e2, ⟨⟨hv, hz, hb⟩, hF⟩, st⟩ | ⟨q, st₀, t, T', L, E, ce, h0, X', hL, e1, e2, hX, -⟩
  · cases hv
    obtain ⟨k1, k2, k3⟩ := vx_keep h0 e1 hS (fun q _ h => hA q h) hA hL hF
    obtain ⟨t2, a1, b1⟩ := kk T'.heap (locs ++ L) (by rw [e1]; exact hb) (by rw [e1]; exact hz) k2 k3 T' rfl X'
    exact ⟨t2, st t2 a1, b1⟩
  · exact hX.elim
theorem nsl_le : nsl ≤ 100000 := by decide +kernel
theorem sl_d9 : sl [dflt 9] = 14 := by decide +kernel
theorem nsl_ge : 14 ≤ nsl := by decide +kernel
/-- the law makes a controller at the heap's end -/
theorem law_make (h9 : w9.category = 1) (hx : p.tables.exec = Jvm.exec) (hb : c.code = cL_law) (hml : c.maxLocals = 16) (hown : s.vm.findClass "RungmasterLaw" = some m.cls) (hts : ∀ w ∈ Wg, w.before args s = true) (hE : EnvP s.heap.size bS Lx xs adK adV w9 s) (hK : va_K (dC, dI) clss (tysl cA) s) (hAO : ∀ k, 28 ≤ k → k ≤ 31 → va_AO (Cn (rowC k)) s) (hRf : 22 ≤ R.frames) (hRl : 900 ≤ R.locals)
    {H : Heap} {locs : List Loc} {cells slots pc : Nat} {ls : Array Slot} {W0 : va_W} (hls : ls.size = 16) (hP0 : va_P (dC, dI) clss W0 H) (hS : va_S (fun q => s.heap.size ≤ q) s.heap H locs) (hRc : cells + 410 ≤ R.cells) (hRs : slots + nsl ≤ R.slots) (hd0 : decode cL_law pc = .ok (.new 16, 3)) (hd1 : decode cL_law (pc + 3) = .ok (.dup, 1)) (hd2 : decode cL_law (pc + 3 + 1) = .ok (.invokespecial 184, 3))
    (kk : ∀ (H1 : Heap) (locs1 : List Loc), va_P (dC, dI) clss (wblk cA H.size (rho bS adK adV w9) v0) H1 → H1.size = H.size + 410 → va_P (dC, dI) clss W0 H1 → va_S (fun q => s.heap.size ≤ q) s.heap H1 locs1 → W p l e R s m args below meth c H1 locs1 (cells + 410) (slots + nsl) Q (F0 m (pc + 7) ls [.ref H.size])) :
    W p l e R s m args below meth c H locs cells slots Q (F0 m pc ls []) := by
  have h14 := nsl_ge
  have hz0 := hS.1
  have hn : sl finB = nsl := rfl
  have hf : nF 9 = 14 := rfl
  obtain ⟨d1, d2⟩ := dflt_len 9 (by decide)
  refine cw_new (D := (dC, dI)) (ci := 9) (fs := (dflt 9).2) hx hb hts (cl_ws 9 (by decide)) (tyn 9) (cl_ty 9 (by decide)) hown (hts _ (wg 45 (by decide +kernel) (by decide +kernel))) (hts _ (wg 46 (by decide +kernel) (by decide +kernel))) (hts _ (wg 19 (by decide +kernel) (by decide +kernel))) hK hP0 hS (cl_get 9 (by decide)) (fun j hj => dflt_def 9 (by decide) j hj) (by omega) (by show slots + 14 ≤ _; omega) hd0 (fun H0 z0 hP hS0 => ?_)
  refine lv_dup hx hb hd1 rfl ?_
  have hkeep0 : ∀ q : Nat, q < s.heap.size → H0[q]? = s.heap[q]? := fun q hq => hS0.2.1 q hq (fun z => by have z : s.heap.size ≤ q := z; omega)
  have hPc : va_P (dC, dI) clss (wblC cA H.size (rho bS adK adV w9) [dflt 9]) H0 := by
    have e1 := wblC_app (cA := cA) (β := H.size) (ρ := rho bS adK adV w9) (B := []) (e := dflt 9)
    rw [List.nil_append] at e1
    rw [e1, entC_obj (by decide), dflt_gv]
    intro k q hk
    have hk0 : k < 1 := (List.getElem?_eq_some_iff.mp hk).1
    have hk1 : k = 0 := by omega
    subst hk1
    cases hk
    exact hP W0.length _ (by rw [List.getElem?_append_right (Nat.le_refl _), Nat.sub_self]; rfl)
  have hPW : va_P (dC, dI) clss W0 H0 := fun k q hk => hP k q (by rw [List.getElem?_append_left (List.getElem?_eq_some_iff.mp hk).1]; exact hk)
  have hp0 := presc_ok (As := [.ref 0]) hE hK hAO hPc (by omega) hkeep0 hz0 (by rw [z0]; rfl)
  rw [List.map_cons, gv_lo (by decide)] at hp0
  obtain ⟨y1, ⟨y2, y3, y4⟩, y5, y6, y7, -⟩ := yc_facts 9 (by decide)
  obtain ⟨o1, o2, o3⟩ := oc_all 9 (by decide)
  have hin : ∀ w ∈ wsC 9, w ∈ Wg := fun w hw => (List.mem_cons.mp hw).elim (fun h => h ▸ o1) id
  have hmet := c_init (cA := cA) (dC := dC) (dI := dI) (sz0 := s.heap.size) (bS := bS) (Lx := Lx) (xs := xs) (adK := adK) (adV := adV) (w9 := w9) (l := l) h9 H.size
  refine callc2_ok (β' := H.size) (mc := finB.length - [dflt 9].length) (ms := sl finB - sl [dflt 9]) (A := fun q => s.heap.size ≤ q) (vx_runI (As := []) (rest := [.ref H.size]) (b := H.size + 0) (n := 0) (nL := c.maxLocals) (Ts := Wg) (own := "RungmasterLaw") ⟨hx, hb, rfl, hown, hts⟩ hmet ⟨callB_of _ hts (wg_good (fun _ h => h) hin) rfl rfl rfl (hts _ o3) (hts _ (wg 47 (by decide +kernel) (by decide +kernel))) ⟨y2, y3, y4⟩ ⟨?_, ?_⟩, y1, hts _ o2⟩ ⟨pcc_blind, hp0⟩ rfl rfl (hls.trans hml.symm) rfl (Nat.le_of_ble_eq_true rfl) hd2 ⟨?_, ?_⟩) (fun q h => Nat.le_trans hz0 h) hS0 (fun H1 locs1 hP1 hz1 hk1 hS1 => ?_)
  · show 5 + 4 + 1 ≤ R.frames; omega
  · show 8 + (1 + 11) + (100 + 40 * 5) ≤ R.locals; omega
  · rw [finB_len]; show cells + 1 + (410 - 1) ≤ R.cells; omega
  · rw [sl_d9, hn, hf]; omega
  · have k1 := kk H1 locs1 (fin_P hP1) (by rw [hz1, finB_len]) (hPW.kept (fun k q hq => hk1 q.1 (hPW k q hq).lt (by have := (hP0 k q hq).lt; omega))) hS1
    rw [finB_len, sl_d9, hn, hf, show cells + 1 + (410 - [dflt 9].length) = cells + 410 by show cells + 1 + (410 - 1) = _; omega, show slots + 14 + (nsl - 14) = slots + nsl by omega]
    exact k1
end SP47
