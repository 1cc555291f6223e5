/-! THE SMALL MACHINE HELD AGAINST THE JVM'S: whole methods -/
def rmK (d n : Nat) : Room := { frames := d + 8, cells := n, slots := 6 * n, locals := 200 + 40 * d }
def wsE (e : MethodName × ByteArray × MD × List CR) : List Cond := Cond.code e.1 e.2.1 e.2.2.1.2.2.1 (retOf e.2.2.1.2.1) :: Wg
def hhD : List (Nat × Nat × Nat × Nat) := [(0, 15, 16, 115), (0, 15, 22, 117), (0, 15, 28, 119), (0, 15, 34, 121), (0, 15, 40, 123)]
def wsD : List Cond := Cond.codeWith yL_deed cL_deed 9 (some .int) hhD :: Wg
theorem wg_good {big : List Cond} {ws : List Cond} (hb : ∀ w ∈ Wg, w ∈ big) (h : ∀ w ∈ ws, w ∈ Wg) : GoodIn big ws := fun w hw => ⟨hb w (h w hw), good_of_word (List.mem_filter.mp (h w hw)).2⟩
theorem ml_mem {k : Nat} (hk : k < nM) : ML.getD k mlD ∈ ML := by
  rw [List.getD_eq_getElem?_getD, List.getElem?_eq_getElem (show k < ML.length from hk)]
  exact List.getElem_mem _
theorem ml_ok {k : Nat} (hk : k < nM) : OkM (ML.getD k mlD) := om_all _ (ml_mem hk)
theorem mdT_lt {k : Nat} (hk : k < nM) : mdT k = (ML.getD k mlD).2.2.1 := if_neg (by have : nM = 127 := rfl; omega)
theorem lv_args_mem : ∀ (vs : List Value) (j i : Nat) (v : Value), (∀ w ∈ vs, w.category = 1) → vs[i]? = some v → (j + i, v) ∈ lv_args j vs
  | [], j, i, v, _, h => by simp at h
  | w :: vs, j, i, v, hc, h => by
    have h1 : ¬ w.category = 2 := by have := hc w List.mem_cons_self; omega
    simp only [lv_args]
    rw [if_neg h1]
    cases i with
    | zero =>
      simp only [List.getElem?_cons_zero, Option.some.injEq] at h
      subst h
      exact List.mem_cons_self
    | succ i =>
      simp only [List.getElem?_cons_succ] at h
      have := lv_args_mem vs (j + 1) i v (fun x hx => hc x (List.mem_cons_of_mem _ hx)) h
      rw [show j + (i + 1) = j + 1 + i by omega]
      exact List.mem_cons_of_mem _ this
theorem lg_len : ∀ (vs : List Value), (∀ w ∈ vs, w.category = 1) → (lg_sl vs).length = vs.length
  | [], _ => rfl
  | w :: vs, hc => by
    have h1 : ¬ w.category = 2 := by have := hc w List.mem_cons_self; omega
    have ih := lg_len vs (fun x hx => hc x (List.mem_cons_of_mem _ hx))
    simp only [lg_sl] at ih ⊢
    rw [List.flatMap_cons, if_neg h1, List.length_append, ih, List.length_cons]
    simp; omega
theorem cut_spec {G : MG} {md : MD} {st As t : List Value} (h : cut G md st = some (As, t)) : (md.2.2.2 = 100 ∧ st = As.reverse ++ t ∧ As.length = md.1) ∨ (md.2.2.2 ≠ 100 ∧ ∃ (r : Nat) (As' : List Value), As = .ref r :: As' ∧ st = As'.reverse ++ .ref r :: t ∧ As'.length = md.1 ∧ recvOk G md.2.2.2 r = true) := by
  unfold cut at h
  simp only [] at h
  split at h
  · next hl =>
    split at h
    · next h100 =>
      cases h
      refine Or.inl ⟨h100, ?_, hl⟩
      rw [List.reverse_reverse, List.take_append_drop]
    · next h100 =>
      split at h
      · next r t' hd =>
        split at h
        · next hr =>
          cases h
          refine Or.inr ⟨h100, r, _, rfl, ?_, hl, hr⟩
          rw [List.reverse_reverse, ← hd, List.take_append_drop]
        · cases h
      · cases h
  · cases h
/-- what a step keeps: the count of throws grows at an end alone -/
theorem opC_spec {G : MG} {mds : Nat → MD} {md : MD} {i : Instr} {a b : Nat} {s : AS} {z : Res ⊕ (Nat × List Value × AS)} (h : opC G mds md i a b s = some z) :
    (∃ x, i = .ireturn ∧ s.2.2.1 = [.int x] ∧ retOk md.2.1 x = true ∧ z = .inl (.inl (some (.int x)), s.2.2.2.1, s.2.2.2.2)) ∨ (∃ x, i = .lreturn ∧ s.2.2.1 = [.long x] ∧ md.2.1 = 5 ∧ z = .inl (.inl (some (.long x)), s.2.2.2.1, s.2.2.2.2)) ∨ (i = .return_ ∧ s.2.2.1 = [] ∧ md.2.1 = 0 ∧ z = .inl (.inl none, s.2.2.2.1, s.2.2.2.2)) ∨
    (∃ ix, i = .new ix ∧ s.2.2.1 = [] ∧ a < 5 ∧ b = 1 ∧ z = .inl (.inr a, s.2.2.2.1, s.2.2.2.2 + 1)) ∨ (∃ ix As t, i = .invokevirtual ix ∧ cut G (mds a) s.2.2.1 = some (As, t) ∧ catS t ≤ 8 ∧ b = 0 ∧ (∀ v ∈ As, v.category = 1) ∧ z = .inr (a, As, (s.1 + 3, s.2.1, t, s.2.2.2.1, s.2.2.2.2))) ∨
    (∃ ix As t, i = .invokestatic ix ∧ cut G (mds a) s.2.2.1 = some (As, t) ∧ catS t ≤ 8 ∧ (b = 1 ∨ b = 2 ∨ b = 6) ∧ (∀ v ∈ As, v.category = 1) ∧ z = .inr (a, As, (s.1 + 3, s.2.1, t, s.2.2.2.1, s.2.2.2.2))) := by
  cases i
  case ireturn =>
    simp only [opC] at h
    split at h
    · next x hs =>
      split at h
      · next hr => cases h; exact Or.inl ⟨x, rfl, hs, hr, rfl⟩
      · cases h
    · cases h
  case lreturn =>
    simp only [opC] at h
    split at h
    · next x hs =>
      split at h
      · next hr => cases h; exact Or.inr (Or.inl ⟨x, rfl, hs, hr, rfl⟩)
      · cases h
    · cases h
  case return_ =>
    simp only [opC] at h
    split at h
    · next hs =>
      split at h
      · next hr => cases h; exact Or.inr (Or.inr (Or.inl ⟨rfl, hs, hr, rfl⟩))
      · cases h
    · cases h
  case new ix =>
    simp only [opC] at h
    split at h
    · next hs =>
      split at h
      · next hr => cases h; exact Or.inr (Or.inr (Or.inr (Or.inl ⟨ix, rfl, hs, hr.1, hr.2, rfl⟩)))
      · cases h
    · cases h
  case invokevirtual ix =>
    simp only [opC] at h
    split at h
    · next As t hs =>
      split at h
      · next hr => cases h; exact Or.inr (Or.inr (Or.inr (Or.inr (Or.inl ⟨ix, As, t, rfl, hs, hr.1, hr.2.1, fun v hv => by simpa using List.all_eq_true.mp hr.2.2 v hv, rfl⟩))))
      · cases h
    · cases h
  case invokestatic ix =>
    simp only [opC] at h
    split at h
    · next As t hs =>
      split at h
      · next hr => cases h; exact Or.inr (Or.inr (Or.inr (Or.inr (Or.inr ⟨ix, As, t, rfl, hs, hr.1, hr.2.1, fun v hv => by simpa using List.all_eq_true.mp hr.2.2 v hv, rfl⟩))))
      · cases h
    · cases h
  all_goals (exact nomatch h)
/-- what a step is -/
theorem stepi_spec {G : MG} {mds : Nat → MD} {md : MD} {i : Instr} {a b : Nat} {s : AS} {z : AS ⊕ (Res ⊕ (Nat × List Value × AS))} (h : stepi G mds md i a b s = some z) :
    (∃ st, opS i s.2.2.1 = some st ∧ z = .inl (s.1 + ilen i, s.2.1, st, s.2.2.2)) ∨ (∃ L st, opL i s.2.1 s.2.2.1 = some (L, st) ∧ z = .inl (s.1 + ilen i, L, st, s.2.2.2)) ∨ (∃ pc st, opB i s.1 s.2.2.1 = some (pc, st) ∧ z = .inl (pc, s.2.1, st, s.2.2.2)) ∨
    (∃ M st, opH G i a b s.2.2.2.1 s.2.2.1 = some (M, st) ∧ z = .inl (s.1 + ilen i, s.2.1, st, M, s.2.2.2.2)) ∨ ∃ r, opC G mds md i a b s = some r ∧ z = .inr r := by
  unfold stepi at h
  split at h
  · next st h1 => cases h; exact Or.inl ⟨st, h1, rfl⟩
  · split at h
    · next L st h1 => cases h; exact Or.inr (Or.inl ⟨L, st, h1, rfl⟩)
    · split at h
      · next pc st h1 => cases h; exact Or.inr (Or.inr (Or.inl ⟨pc, st, h1, rfl⟩))
      · split at h
        · next M st h1 => cases h; exact Or.inr (Or.inr (Or.inr (Or.inl ⟨M, st, h1, rfl⟩)))
        · split at h
          · next r h1 => cases h; exact Or.inr (Or.inr (Or.inr (Or.inr ⟨r, h1, rfl⟩)))
          · cases h
theorem stepf_spec {G : MG} {mds : Nat → MD} {cds : Nat → List CR} {k : Nat} {s : AS} {z : AS ⊕ (Res ⊕ (Nat × List Value × AS))} (h : stepf G mds cds k s = some z) : ∃ i a b, (s.1, i, a, b) ∈ cds k ∧ stepi G mds (mds k) i a b s = some z := by
  unfold stepf at h
  split at h
  · next i a b hf =>
    unfold fet at hf
    rw [Option.map_eq_some_iff] at hf
    obtain ⟨x, h1, h2⟩ := hf
    have h3 := List.mem_of_find?_eq_some h1
    have h4 := List.find?_some h1
    obtain ⟨pc, i', a', b'⟩ := x
    cases h2
    have h5 : pc = s.1 := by simpa using h4
    subst h5
    exact ⟨i, a, b, h3, h⟩
  · cases h
theorem exec_le {G : MG} {mds : Nat → MD} {cds : Nat → List CR} {call : Nat → List Value → Mem → Res → Prop} {k : Nat} : ∀ (f : Nat) (s : AS) (r : Res), Exec G mds cds call k f s r → s.2.2.2.2 ≤ r.2.2 := by
  intro f
  induction f with
  | zero => intro s r h; exact h.elim
  | succ f ih =>
    intro s r h
    simp only [Exec] at h
    cases hs : stepf G mds cds k s with
    | none => rw [hs] at h; exact h.elim
    | some z =>
      rw [hs] at h
      obtain ⟨i, a, b, hm, hz⟩ := stepf_spec hs
      rcases stepi_spec hz with ⟨st, -, rfl⟩ | ⟨L, st, -, rfl⟩ | ⟨pc, st, -, rfl⟩ | ⟨M, st, -, rfl⟩ | ⟨q, hq, rfl⟩
      · exact ih (s.1 + ilen i, s.2.1, st, s.2.2.2) r h
      · exact ih (s.1 + ilen i, L, st, s.2.2.2) r h
      · exact ih (pc, s.2.1, st, s.2.2.2) r h
      · exact ih (s.1 + ilen i, s.2.1, st, M, s.2.2.2.2) r h
      · rcases opC_spec hq with ⟨x, -, -, -, rfl⟩ | ⟨x, -, -, -, rfl⟩ | ⟨-, -, -, rfl⟩ | ⟨ix, -, -, -, -, rfl⟩ | ⟨ix, As, t, -, -, -, -, -, rfl⟩ | ⟨ix, As, t, -, -, -, -, -, rfl⟩
        · simp only [] at h; rw [h]; exact Nat.le_refl _
        · simp only [] at h; rw [h]; exact Nat.le_refl _
        · simp only [] at h; rw [h]; exact Nat.le_refl _
        · simp only [] at h; rw [h]; exact Nat.le_succ _
        · obtain ⟨r1, -, h⟩ := h
          rcases h with ⟨v, -, h⟩ | ⟨x, -, h⟩
          · have := ih _ _ h; simp only [] at this; omega
          · rw [h]; simp only []; omega
        · obtain ⟨r1, -, h⟩ := h
          rcases h with ⟨v, -, h⟩ | ⟨x, -, h⟩
          · have := ih _ _ h; simp only [] at this; omega
          · rw [h]; simp only []; omega
section SND4
variable {cA dC : Nat → ClassId} {dI : Nat → Nat → Nat} {sz0 bS Lx : Nat} {xs : Nat → Int32} {adK adV : Nat → Nat} {w9 : Value} {l : Launch}
variable (cA dC dI sz0 bS Lx xs adK adV w9)
def Wd (β : Nat) (M : Mem) (U : State) : Prop := va_P (dC, dI) clss (wblk cA β (rho bS adK adV w9) M) U.heap ∧ va_K (dC, dI) clss (tysl cA) U ∧ EnvP sz0 bS Lx xs adK adV w9 U ∧ sz0 ≤ β ∧ β + 410 ≤ U.heap.size
def Pcw (β sz : Nat) (As : List Value) (M : Mem) : Array Value → State → Prop := va_Pc (As.map (gv β (rho bS adK adV w9))) (fun U => U.heap.size = sz ∧ Wd cA dC dI sz0 bS Lx xs adK adV w9 β M U)
def Qcw (β sz : Nat) (r : Res) : Array Value → State → Outcome → State → Prop := fun _ st oc t => (∃ v : Option Value, r.1 = .inl v ∧ oc = .returned (v.map (gv β (rho bS adK adV w9))) ∧ va_P (dC, dI) clss (wblk cA β (rho bS adK adV w9) r.2.1) t.heap) ∧ va_F (Aset β sz) st t
def Xcw (β sz : Nat) (r : Res) : String → State → State → Prop := fun E st t => (∃ x : Nat, r.1 = .inr x ∧ E = xname x ∧ va_P (dC, dI) clss (wblk cA β (rho bS adK adV w9) r.2.1) t.heap) ∧ va_F (Aset β sz) st t
def MetK (l : Launch) (d : Nat) (y : MethodName) (ws : List Cond) (As : List Value) (M : Mem) (r : Res) : Prop := ∀ β sz : Nat, vx_Met l y ws (rmK d r.2.2) (Pcw cA dC dI sz0 bS Lx xs adK adV w9 β sz As M) (Qcw cA dC dI bS adK adV w9 β sz r) (Xcw cA dC dI bS adK adV w9 β sz r) r.2.2 (6 * r.2.2) (Aset β sz)
variable {cA dC dI sz0 bS Lx xs adK adV w9}
theorem pcw_blind {β sz : Nat} {As : List Value} {M : Mem} : FrameBlind (Pcw cA dC dI sz0 bS Lx xs adK adV w9 β sz As M) := by
  intro a U g mk h
  obtain ⟨h1, h2, h3, h4, h5, h6, h7⟩ := h
  exact ⟨h1, h2, h3, va_K.moved (u := U) (U := U.calling g mk a) (Vm.Alike.refl U.vm) h4, EnvP.go (U := U.calling g mk a) h5 (State.WarmedH.refl U) (Nat.le_refl _) (fun _ _ => rfl), h6, h7⟩
variable {p : Program} {e : Env} {R : Room} {s : State} {m : MethodId} {args : Array Value} {below : List Frame} {meth : Method} {c : Code} {H : Heap} {locs : List Loc} {cells slots : Nat} {Q : State → Prop} {cc : ByteArray} {pc : Nat} {ls : Array Slot} {β : Nat}
/-- behind a call, whichever way it ended -/
theorem call_ok {β' : Nat} {mc ms : Nat} {rest st0 : List Value} {r1 : Res} {a : Array Value} (hr : vx_Run p l e R s m args below meth c H locs cells slots mc ms (F0 m pc ls st0) rest (Qcw cA dC dI bS adK adV w9 β' H.size r1 a) (Xcw cA dC dI bS adK adV w9 β' H.size r1) (Aset β' H.size)) {A : Nat → Prop} (hA : ∀ q, Aset β' H.size q → A q) (hS : va_S A s.heap H locs)
    (kx : ∀ (x : Nat) (H1 : Heap) (locs1 : List Loc) (ce : Cell) (q9 : Addr), r1.1 = .inr x → va_P (dC, dI) clss (wblk cA β' (rho bS adK adV w9) r1.2.1) H1 → H.size ≤ H1.size → (∀ q : Nat, q < H.size → ¬ Aset β' H.size q → H1[q]? = H[q]?) → va_S A s.heap H1 locs1 → H1[q9]? = some ce → ce.vm = .none → s.vm.findClass (xname x) = some ce.cls → vx_W p l e R s m args below meth c H1 locs1 (cells + mc) (slots + ms) Q (F0 m pc ls rest) q9)
    (kk : ∀ (v : Option Value) (H1 : Heap) (locs1 : List Loc), r1.1 = .inl v → va_P (dC, dI) clss (wblk cA β' (rho bS adK adV w9) r1.2.1) H1 → H.size ≤ H1.size → (∀ q : Nat, q < H.size → ¬ Aset β' H.size q → H1[q]? = H[q]?) → va_S A s.heap H1 locs1 → W p l e R s m args below meth c H1 locs1 (cells + mc) (slots + ms) Q (F0 m (pc + 3) ls ((v.map (gv β' (rho bS adK adV w9))).toList ++ rest))) : W p l e R s m args below meth c H locs cells slots Q (F0 m pc ls st0) := by
  intro T hT X
  rcases hr T hT X with ⟨v, st₀, t, T', L, h0, X', hL, e1, e2, ⟨⟨v1, hv1, hv, hb⟩, hF⟩, st⟩ | ⟨q, st₀, t, T', L, E, ce, h0, X', hL, e1, e2, ⟨⟨x, hx1, hx, hb⟩, hF⟩, hce, hcv, hcl, st⟩
  · cases hv
    obtain ⟨k1, k2, k3⟩ := vx_keep h0 e1 hS (fun q _ h => hA q h) hA hL hF
    obtain ⟨t2, a1, b1⟩ := kk v1 T'.heap (locs ++ L) hv1 (by rw [e1]; exact hb) k1 k2 k3 T' rfl X'
    exact ⟨t2, st t2 a1, b1⟩
  · subst hx
    obtain ⟨k1, k2, k3⟩ := vx_keep h0 e1 hS (fun q _ h => hA q h) hA hL hF
    obtain ⟨t2, a1, b1⟩ := kx x T'.heap (locs ++ L) ce q hx1 (by rw [e1]; exact hb) k1 k2 k3 (by rw [e1]; exact hce) hcv hcl T' rfl X'
    exact ⟨t2, st.trans a1, b1⟩
theorem pres_ok {β' : Nat} {As : List Value} {M : Mem} (hE : EnvP sz0 bS Lx xs adK adV w9 s) (hK : va_K (dC, dI) clss (tysl cA) s) (hP : va_P (dC, dI) clss (wblk cA β' (rho bS adK adV w9) M) H) (hz : s.heap.size ≤ H.size) (hk : ∀ q : Nat, q < sz0 → H[q]? = s.heap[q]?) (hβ : sz0 ≤ β') (hb : β' + 410 ≤ H.size) :
    ∀ U : State, U.heap = H → s.WarmedH U.vm → Pcw cA dC dI sz0 bS Lx xs adK adV w9 β' H.size As M (As.map (gv β' (rho bS adK adV w9))).toArray U := fun U hU hW =>
  ⟨rfl, by rw [hU], by rw [hU]; exact hP, va_K.moved hW.alike hK, EnvP.go hE hW (by rw [hU]; exact hz) (fun q h => by rw [hU]; exact hk q h), hβ, by rw [hU]; exact hb⟩
end SND4
