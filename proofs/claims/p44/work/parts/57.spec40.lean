section SP40
variable {cA dC : Nat → ClassId} {dI : Nat → Nat → Nat} {sz0 bS Lx : Nat} {xs : Nat → Int32} {adK adV : Nat → Nat} {w9 : Value} {l : Launch}
theorem cmeth_ok (h9 : w9.category = 1) {d k : Nat} (hk : k < 10)
    (IH : ∀ (k' : Nat) (As : List Value) (B B' : CB), k' < 10 → crun nPC mLC cdC d k' As B = some B' → B'.length ≤ 410 → ArgsC k' As → MetCc cA dC dI sz0 bS Lx xs adK adV w9 l d k' As B B')
    {As : List Value} {B B' : CB} (h : crun nPC mLC cdC (d + 1) k As B = some B') (hB' : B'.length ≤ 410) (hA : ArgsC k As) : MetCc cA dC dI sz0 bS Lx xs adK adV w9 l (d + 1) k As B B' := by
  intro β
  obtain ⟨y1, ⟨y2, y3, y4⟩, y5, y6, y7, y8⟩ := yc_facts k hk
  obtain ⟨r, As', rfl, hr4, hlen', hcat'⟩ := hA
  have hρ : rhoC (rho bS adK adV w9) := rho_C h9
  refine vx_ofW (cc := bC k) (maxL := mLC k) (ret := none) y8 rfl ?_
  intro p e s m args below meth c s₁ Bd hml htab hv
  obtain ⟨rfl, hz, hP, hK, hE, hβ, hAO⟩ := hv
  have hts : ∀ w ∈ wsC k, w.before (((Value.ref r :: As').map (gv β (rho bS adK adV w9))).toArray) s = true := atoms_spec (ws := wsC k) Bd.pre
  have hini : meth.name = "<init>" := (name_of_methodNamed Bd.named Bd.method).1.trans y1
  have hcat : ∀ v ∈ (Value.ref r :: As'), v.category = 1 := fun v hv => by
    rcases List.mem_cons.mp hv with rfl | hv
    · rfl
    · exact hcat' v hv
  have hlen : (Value.ref r :: As').length ≤ mLC k := by rw [List.length_cons, hlen']; exact y7
  generalize Value.ref r :: As' = As at h hts hcat hlen ⊢
  have hc1 : ∀ w ∈ As.map (gv β (rho bS adK adV w9)), w.category = 1 := fun w hw => by
    obtain ⟨v, hv, rfl⟩ := List.mem_map.mp hw
    rw [gv_cat hρ]
    exact hcat v hv
  rw [lg_entry_eq]
  have hl := lv_entry (As.map (gv β (rho bS adK adV w9))) (n := mLC k) (by rw [lg_len _ hc1, List.length_map]; exact hlen)
  have hLR : LR (gv β (rho bS adK adV w9)) ((lg_sl (As.map (gv β (rho bS adK adV w9))) ++ List.replicate (mLC k - (lg_sl (As.map (gv β (rho bS adK adV w9)))).length) Slot.unset).toArray) (mLC k) (entL As (mLC k)) := by
    refine ⟨lv_mono hl fun q hq => ?_, by simp [entL]; omega⟩
    obtain ⟨i, w⟩ := q
    obtain ⟨v, h1, rfl⟩ := prs_mem.mp hq
    have h2 : As[i]? = some v := by
      unfold entL at h1
      by_cases hi : i < As.length
      · rw [List.getElem?_append_left (by simpa using hi), List.getElem?_map] at h1
        rw [Option.map_eq_some_iff] at h1
        obtain ⟨u, h3, h4⟩ := h1
        cases h4
        exact h3
      · rw [List.getElem?_append_right (by simpa using hi)] at h1
        have := List.eq_of_mem_replicate (List.mem_of_getElem? h1)
        cases this
    have h3 := lv_args_mem (As.map (gv β (rho bS adK adV w9))) 0 i (gv β (rho bS adK adV w9) v) hc1 (by rw [List.getElem?_map, h2]; rfl)
    rwa [Nat.zero_add] at h3
  have k1 := cbody_ok (l := l) (p := p) (e := e) (m := m) (below := below) (B0 := B) h9 hk IH Bd.exec Bd.bytes hml Bd.returns Bd.notSynchronized hini (findClass_of_methodNamed Bd.named) (fun w hw => hts w (List.mem_cons_of_mem _ hw)) hAO hE hK hβ hB' 1000 (0, entL As (mLC k), [], B) h (Nat.le_refl _) (Nat.le_refl _) s.heap [] _ hLR hP hz va_S.rf
  simp only [Nat.sub_self] at k1
  exact k1
/-- WHAT THE MAKING MACHINE MAKES, THE JVM MAKES -/
theorem csound (h9 : w9.category = 1) : ∀ (d k : Nat) (As : List Value) (B B' : CB), k < 10 → crun nPC mLC cdC d k As B = some B' → B'.length ≤ 410 → ArgsC k As → MetCc cA dC dI sz0 bS Lx xs adK adV w9 l d k As B B' := by
  intro d
  induction d with
  | zero => intro k As B B' _ h; cases h
  | succ d ih => intro k As B B' hk h h4 hA; exact cmeth_ok h9 hk ih h h4 hA
theorem c_init (h9 : w9.category = 1) : MetCc cA dC dI sz0 bS Lx xs adK adV w9 l 5 9 [.ref 0] [dflt 9] finB := csound h9 5 9 _ _ _ (by decide) crun_all (by rw [finB_len]; exact Nat.le_refl _) ⟨0, [], rfl, by decide, rfl, fun _ h => absurd h List.not_mem_nil⟩
end SP40
