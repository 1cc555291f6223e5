section SP48
variable {p : Program} {e : Env} {s : State} {m : MethodId} {below : List Frame} {meth : Method} {c : Code} {R : Room} {Q : State → Prop}
/-- THE LAW, from its entry, in any room that is large enough -/
theorem law_start (l : Launch) (hfl : l.stackTraces = false) {b L : Nat} {xs : Nat → Int32} (hL : L ≤ 260) (hx : p.tables.exec = Jvm.exec) (hb : c.code = cL_law) (hml : c.maxLocals = 16) (hown : s.vm.findClass "RungmasterLaw" = some m.cls) (hts : ∀ w ∈ lw_tbl, w.before #[Value.ref b] s = true) (hX : va_X b L xs s s.heap) (hbl : b < s.heap.size) (hgv : pre1.before #[Value.ref b] s = true)
    (hRf : 22 ≤ R.frames) (hRl : 900 ≤ R.locals) (hRc : 820 + 20000 ≤ R.cells) (hRs : 2 * nsl + 6 * 20000 ≤ R.slots)
    (hret : ∀ (pc q : Nat) (H : Heap) (locs : List Loc) (ls : Array Slot), decode cL_law pc = .ok (.ireturn, 1) → q ≤ 20000 → va_S (fun q => s.heap.size ≤ q) s.heap H locs → W p l e R s m #[Value.ref b] below meth c H locs (820 + q) (2 * nsl + 6 * q) Q (F0 m pc ls [.int 1])) :
    W p l e R s m #[Value.ref b] below meth c s.heap [] 0 0 Q (entryFrame m ([Value.ref b] : List Value).toArray 16) := by
  obtain ⟨adK, adV, w9, h9, hE⟩ := env_start hX hbl hts hgv
  obtain ⟨cA, dC, dI, hK, hAO⟩ := known_start hts
  have htsg : ∀ w ∈ Wg, w.before #[Value.ref b] s = true := fun w hw => hts w (List.mem_filter.mp hw).1
  have hρ : rhoC (rho b adK adV w9) := rho_C h9
  have g1000 : gv s.heap.size (rho b adK adV w9) (.ref 1000) = .ref b := by rw [gv_hi (by decide), rho_S]
  rw [lg_entry_eq]
  have hl := lv_entry ([.ref b]) (n := 16) (Nat.le_of_ble_eq_true rfl)
  generalize (lg_sl ([.ref b]) ++ List.replicate (16 - (lg_sl ([.ref b])).length) Slot.unset).toArray = ls at hl ⊢
  have hl : lv_has ls 16 [(0, .ref b)] := hl
  have hLR : LR (gv s.heap.size (rho b adK adV w9)) ls 16 [some (.ref 1000), none, none, none, none, none, none, none, none, none, none, none, none, none, none, none] := by
    refine ⟨lv_mono hl fun q hq => ?_, rfl⟩
    obtain ⟨i, w⟩ := q
    obtain ⟨v, h1, rfl⟩ := prs_mem.mp hq
    have hi : i < 16 := (List.getElem?_eq_some_iff.mp h1).1
    rcases Nat.eq_zero_or_pos i with rfl | hi0
    · cases h1
      rw [g1000]
      exact List.mem_cons_self
    · rcases (by omega : i = 1 ∨ i = 2 ∨ i = 3 ∨ i = 4 ∨ i = 5 ∨ i = 6 ∨ i = 7 ∨ i = 8 ∨ i = 9 ∨ i = 10 ∨ i = 11 ∨ i = 12 ∨ i = 13 ∨ i = 14 ∨ i = 15) with rfl | rfl | rfl | rfl | rfl | rfl | rfl | rfl | rfl | rfl | rfl | rfl | rfl | rfl | rfl <;> cases h1
  have hsr : ∀ n r : Nat, 2 * n + 6 * 20000 ≤ r → 0 + n ≤ r ∧ 0 + n + n ≤ r := fun n r h => ⟨by omega, by omega⟩
  have hse : ∀ n : Nat, 0 + n + n = 2 * n + 6 * 0 := fun n => by omega
  have hS : va_S (fun q : Nat => s.heap.size ≤ q) s.heap s.heap [] := va_S.rf
  have hP0 : va_P (dC, dI) clss [] s.heap := fun k q h => by simp at h
  refine law_make (pc := 0) (cells := 0) (slots := 0) h9 hx hb hml hown htsg hE hK hAO hRf hRl hLR.1.1 hP0 hS (by clear hRs; omega) (hsr _ _ hRs).1 dL_law_0 dL_law_3 dL_law_4 (fun H1 locs1 hP1 hz1 _ hS1 => ?_)
  refine opL_ok (β := s.heap.size) (ρ := rho b adK adV w9) (pc := 7) (st := [.ref 0]) (st' := []) (i := .astore_n 1) (L' := [some (.ref 1000), some (.ref 0), none, none, none, none, none, none, none, none, none, none, none, none, none, none]) hx hb hρ hLR rfl dL_law_7 (fun ls hLR => ?_)
  refine law_make (pc := 8) h9 hx hb hml hown htsg hE hK hAO hRf hRl hLR.1.1 hP1 hS1 (by clear hRs; omega) (hsr _ _ hRs).2 dL_law_8 dL_law_11 dL_law_12 (fun H2 locs2 hP2 hz2 hP1 hS2 => ?_)
  rw [hz1] at hP2 hz2 ⊢
  have e0 : (Value.ref (s.heap.size + 410) : Value) = gv s.heap.size (rho b adK adV w9) (.ref 410) := (gv_lo (by decide)).symm
  rw [e0]
  refine opL_ok (β := s.heap.size) (ρ := rho b adK adV w9) (pc := 15) (st := [.ref 410]) (st' := []) (i := .astore_n 2) (L' := [some (.ref 1000), some (.ref 0), some (.ref 410), none, none, none, none, none, none, none, none, none, none, none, none, none]) hx hb hρ hLR rfl dL_law_15 (fun ls hLR => ?_)
  have hLK := vp_lk (cA := cA) (dC := dC) (dI := dI) (bS := b) (Lx := L) (xs := xs) (adK := adK) (adV := adV) (w9 := w9) (l := l) (p := p) (e := e) (s := s) (m := m) (args := #[Value.ref b]) (below := below) (meth := meth) (c := c) (R := R) (Q := Q) (N := 20000) hfl h9 hx hb hml hown htsg hE hK hRf hRl hRc hRs hret
  have k1 := g16 hLK (by clear hRs; omega) H2 locs2 ls hLR hP1 hP2 (by clear hRs; omega) hS2
  rw [show 0 + 410 + 410 = 820 + 0 from rfl, hse nsl]
  exact k1
end SP48
