/-! THE SMALL MACHINE HELD AGAINST THE JVM'S: operands, locals, branches -/
def rho (b : Nat) (adK adV : Nat → Nat) (w9 : Value) (a : Nat) : Value := if a = 1000 then .ref b else if a < 3000 then .ref (adK (a - 2000)) else if a < 4000 then .ref (adV (a - 3000)) else w9
def gv (β : Nat) (ρ : Nat → Value) : Value → Value
  | .ref a => if a < 1000 then .ref (β + a) else ρ a
  | v => v
def rhoC (ρ : Nat → Value) : Prop := (∀ a, (ρ a).category = 1) ∧ ∀ a, 1000 ≤ a → a < 4000 → ∃ x : Nat, ρ a = .ref x
theorem gv_cat {β : Nat} {ρ : Nat → Value} (hρ : rhoC ρ) (v : Value) : (gv β ρ v).category = v.category := by
  cases v with
  | ref a =>
    simp only [gv]
    by_cases h : a < 1000
    · rw [if_pos h]; rfl
    · rw [if_neg h, hρ.1 a]; rfl
  | _ => rfl
theorem gv_lo {β : Nat} {ρ : Nat → Value} {a : Nat} (h : a < 1000) : gv β ρ (.ref a) = .ref (β + a) := by simp only [gv]; rw [if_pos h]
theorem gv_hi {β : Nat} {ρ : Nat → Value} {a : Nat} (h : 1000 ≤ a) : gv β ρ (.ref a) = ρ a := by simp only [gv]; rw [if_neg (show ¬ a < 1000 by omega)]
theorem gv_ref {β : Nat} {ρ : Nat → Value} (hρ : rhoC ρ) {a : Nat} (h : a < 4000) : ∃ x : Nat, gv β ρ (.ref a) = .ref x := by
  by_cases h1 : a < 1000
  · exact ⟨_, gv_lo h1⟩
  · obtain ⟨x, hx⟩ := hρ.2 a (by omega) h
    exact ⟨x, by rw [gv_hi (by omega), hx]⟩
/-- the locals as the kit lists them -/
def prs (γ : Value → Value) (L : Loc1) : List (Nat × Value) := (List.range L.length).filterMap (fun i => (L.getD i none).map (fun v => (i, γ v)))
theorem prs_mem {γ : Value → Value} {L : Loc1} {i : Nat} {w : Value} : (i, w) ∈ prs γ L ↔ ∃ v, L[i]? = some (some v) ∧ w = γ v := by
  unfold prs
  rw [List.mem_filterMap]
  constructor
  · rintro ⟨j, hj, h⟩
    rw [Option.map_eq_some_iff] at h
    obtain ⟨v, h1, h2⟩ := h
    cases h2
    rw [List.mem_range] at hj
    rw [List.getD_eq_getElem?_getD, List.getElem?_eq_getElem hj] at h1
    refine ⟨v, ?_, rfl⟩
    rw [List.getElem?_eq_getElem hj]
    exact congrArg some h1
  · rintro ⟨v, h1, rfl⟩
    have hj := (List.getElem?_eq_some_iff.mp h1).1
    refine ⟨i, List.mem_range.mpr hj, ?_⟩
    rw [List.getD_eq_getElem?_getD, h1]
    rfl
def LR (γ : Value → Value) (ls : Array Slot) (nL : Nat) (L : Loc1) : Prop := lv_has ls nL (prs γ L) ∧ L.length = nL
theorem LR.at {γ : Value → Value} {ls : Array Slot} {nL : Nat} {L : Loc1} (h : LR γ ls nL L) {i : Nat} {v : Value} (hv : L[i]? = some (some v)) : ls[i]? = some (.val (γ v)) := h.1.2.2 (i, γ v) (prs_mem.mpr ⟨v, hv, rfl⟩)
theorem lv_mono {ls : Array Slot} {nL : Nat} {l l' : List (Nat × Value)} (h : lv_has ls nL l) (hs : ∀ q ∈ l', q ∈ l) : lv_has ls nL l' := ⟨h.1, h.2.1, fun q hq => h.2.2 q (hs q hq)⟩
theorem stL_len (L : Loc1) (i : Nat) (v : Value) : (stL L i v).length = L.length := by
  unfold stL
  cases i <;> simp only [] <;> (repeat' split) <;> simp
theorem stL_get {L : Loc1} {i : Nat} {v u : Value} {j : Nat} (h : (stL L i v)[j]? = some (some u)) : (j = i ∧ u = v) ∨ (j ≠ i ∧ L[j]? = some (some u) ∧ ¬ (j + 1 = i ∧ u.category = 2) ∧ ¬ (v.category = 2 ∧ j = i + 1)) := by
  have e1 : ∀ (L : Loc1) (i j : Nat) (o : Option Value), (L.set i o)[j]? = some (some u) → (j = i ∧ o = some u) ∨ (j ≠ i ∧ L[j]? = some (some u)) := by
    intro L i j o h
    rw [List.getElem?_set] at h
    by_cases hij : i = j
    · rw [if_pos hij] at h
      split at h
      · exact Or.inl ⟨hij.symm, Option.some.inj h⟩
      · cases h
    · rw [if_neg hij] at h
      exact Or.inr ⟨fun q => hij q.symm, h⟩
  have e2 : ∀ L2 : Loc1, L2 = (if v.category = 2 then (L.set i (some v)).set (i + 1) none else L.set i (some v)) → L2[j]? = some (some u) → (j = i ∧ u = v) ∨ (j ≠ i ∧ L[j]? = some (some u) ∧ ¬ (v.category = 2 ∧ j = i + 1)) := by
    intro L2 hL h
    subst hL
    by_cases hc : v.category = 2
    · rw [if_pos hc] at h
      rcases e1 _ _ _ _ h with ⟨-, q⟩ | ⟨n1, q⟩
      · cases q
      · rcases e1 _ _ _ _ q with ⟨n2, q2⟩ | ⟨n2, q2⟩
        · exact Or.inl ⟨n2, (Option.some.inj q2).symm⟩
        · exact Or.inr ⟨n2, q2, fun z => n1 z.2⟩
    · rw [if_neg hc] at h
      rcases e1 _ _ _ _ h with ⟨n2, q2⟩ | ⟨n2, q2⟩
      · exact Or.inl ⟨n2, (Option.some.inj q2).symm⟩
      · exact Or.inr ⟨n2, q2, fun z => hc z.1⟩
  unfold stL at h
  cases i with
  | zero =>
    simp only [] at h
    rcases e2 _ rfl h with q | ⟨q1, q2, q3⟩
    · exact Or.inl q
    · exact Or.inr ⟨q1, q2, fun z => by omega, q3⟩
  | succ k =>
    simp only [] at h
    by_cases hk : isC2 (L.getD k none) = true
    · rw [if_pos hk] at h
      rcases e1 _ _ _ _ h with ⟨-, q⟩ | ⟨n1, q⟩
      · cases q
      · rcases e2 _ rfl q with q | ⟨q1, q2, q3⟩
        · exact Or.inl q
        · exact Or.inr ⟨q1, q2, fun z => by omega, q3⟩
    · rw [if_neg hk] at h
      rcases e2 _ rfl h with q | ⟨q1, q2, q3⟩
      · exact Or.inl q
      · refine Or.inr ⟨q1, q2, fun z => ?_, q3⟩
        obtain ⟨z1, z2⟩ := z
        have hj : j = k := by omega
        subst hj
        rw [List.getD_eq_getElem?_getD, q2] at hk
        exact hk (by simp [isC2, z2])
section SND1
variable {p : Program} {l : Launch} {e : Env} {R : Room} {s : State} {m : MethodId} {args : Array Value} {below : List Frame} {meth : Method} {c : Code} {H : Heap} {locs : List Loc} {cells slots : Nat} {Q : State → Prop} {cc : ByteArray} {pc : Nat} {ls : Array Slot} {β : Nat} {ρ : Nat → Value}
theorem opS_ok (hx : p.tables.exec = Jvm.exec) (hb : c.code = cc) (hρ : rhoC ρ) {i : Instr} {st st' : List Value} (ho : opS i st = some st') (hd : decode cc pc = .ok (i, ilen i)) (k : W p l e R s m args below meth c H locs cells slots Q (F0 m (pc + ilen i) ls (st'.map (gv β ρ)))) : W p l e R s m args below meth c H locs cells slots Q (F0 m pc ls (st.map (gv β ρ))) := by
  cases i
  case iconst v => cases ho; exact lv_iconst hx hb hd rfl k
  case bipush v => cases ho; exact lv_bipush hx hb hd rfl k
  case sipush v => cases ho; exact lv_sipush hx hb hd rfl k
  case lconst v => cases ho; exact lv_lconst hx hb hd rfl k
  case iadd => simp only [opS, binI] at ho; split at ho <;> cases ho; exact lv_iadd hx hb hd k
  case isub => simp only [opS, binI] at ho; split at ho <;> cases ho; exact lv_isub hx hb hd k
  case imul => simp only [opS, binI] at ho; split at ho <;> cases ho; exact lv_imul hx hb hd k
  case iand => simp only [opS, binI] at ho; split at ho <;> cases ho; exact lv_iand hx hb hd k
  case ior => simp only [opS, binI] at ho; split at ho <;> cases ho; exact lv_ior hx hb hd k
  case ixor => simp only [opS, binI] at ho; split at ho <;> cases ho; exact lv_ixor hx hb hd k
  case ishl => simp only [opS, binI] at ho; split at ho <;> cases ho; exact lv_ishl hx hb hd k
  case ishr => simp only [opS, binI] at ho; split at ho <;> cases ho; exact lv_ishr hx hb hd k
  case iushr => simp only [opS, binI] at ho; split at ho <;> cases ho; exact lv_iushr hx hb hd rfl k
  case irem =>
    simp only [opS] at ho
    split at ho
    · split at ho
      · cases ho
      · next h => cases ho; exact lv_irem hx hb hd h k
    · cases ho
  case ladd => simp only [opS, binL] at ho; split at ho <;> cases ho; exact lv_ladd hx hb hd k
  case lmul => simp only [opS, binL] at ho; split at ho <;> cases ho; exact lv_lmul hx hb hd k
  case land => simp only [opS, binL] at ho; split at ho <;> cases ho; exact lv_land hx hb hd k
  case lor => simp only [opS, binL] at ho; split at ho <;> cases ho; exact lv_lor hx hb hd k
  case lxor => simp only [opS, binL] at ho; split at ho <;> cases ho; exact lv_lxor hx hb hd k
  case lshl => simp only [opS] at ho; split at ho <;> cases ho; exact lv_lshl hx hb hd rfl k
  case lushr => simp only [opS] at ho; split at ho <;> cases ho; exact lv_lushr hx hb hd rfl k
  case lcmp => simp only [opS] at ho; split at ho <;> cases ho; exact W.lcmp hx hb hd k
  case i2l => simp only [opS] at ho; split at ho <;> cases ho; exact lv_i2l hx hb hd rfl k
  case i2c => simp only [opS] at ho; split at ho <;> cases ho; exact lv_i2c hx hb hd rfl k
  case i2b => simp only [opS] at ho; split at ho <;> cases ho; exact lv_i2b hx hb hd rfl k
  case dup =>
    simp only [opS] at ho
    split at ho
    · split at ho
      · next h => cases ho; exact lv_dup hx hb hd ((gv_cat hρ _).trans h) k
      · cases ho
    · cases ho
  case dup2 =>
    simp only [opS] at ho
    split at ho
    · split at ho
      · next h => cases ho; exact lv_dup2_11 hx hb hd ((gv_cat hρ _).trans h.1) ((gv_cat hρ _).trans h.2) k
      · cases ho
    · cases ho
  case pop =>
    simp only [opS] at ho
    split at ho
    · split at ho
      · next h => cases ho; exact lv_pop hx hb hd ((gv_cat hρ _).trans h) k
      · cases ho
    · cases ho
  all_goals (exact nomatch ho)
theorem push_spec {L L' : Loc1} {st st' : List Value} {o : Option Value} (h : push L st o = some (L', st')) : ∃ v, o = some v ∧ L' = L ∧ st' = v :: st := by
  cases o with
  | none => cases h
  | some v => cases h; exact ⟨v, rfl, rfl, rfl⟩
theorem ldI_spec {L : Loc1} {i : Nat} {v : Value} (h : ldI L i = some v) : ∃ x, v = .int x ∧ L[i]? = some (some (.int x)) := by
  unfold ldI at h
  split at h
  · next q => cases h; exact ⟨_, rfl, q⟩
  · cases h
theorem ldL_spec {L : Loc1} {i : Nat} {v : Value} (h : ldL L i = some v) : ∃ x, v = .long x ∧ L[i]? = some (some (.long x)) := by
  unfold ldL at h
  split at h
  · next q => cases h; exact ⟨_, rfl, q⟩
  · cases h
theorem ldA_spec {L : Loc1} {i : Nat} {v : Value} (h : ldA L i = some v) : ∃ x, v = .ref x ∧ x < 4000 ∧ L[i]? = some (some (.ref x)) := by
  unfold ldA at h
  split at h
  · next q =>
    split at h
    · next q2 => cases h; exact ⟨_, rfl, q2, q⟩
    · cases h
  · cases h
theorem stI_spec {L L' : Loc1} {i : Nat} {st st' : List Value} (h : stI L i st = some (L', st')) : ∃ x, st = .int x :: st' ∧ i < L.length ∧ L' = stL L i (.int x) := by
  unfold stI at h
  split at h
  · split at h
    · next q => cases h; exact ⟨_, rfl, q, rfl⟩
    · cases h
  · cases h
theorem stJ_spec {L L' : Loc1} {i : Nat} {st st' : List Value} (h : stJ L i st = some (L', st')) : ∃ x, st = .long x :: st' ∧ i + 1 < L.length ∧ L' = stL L i (.long x) := by
  unfold stJ at h
  split at h
  · split at h
    · next q => cases h; exact ⟨_, rfl, q, rfl⟩
    · cases h
  · cases h
theorem stA_spec {L L' : Loc1} {i : Nat} {st st' : List Value} (h : stA L i st = some (L', st')) : ∃ x, st = .ref x :: st' ∧ i < L.length ∧ x < 4000 ∧ L' = stL L i (.ref x) := by
  unfold stA at h
  split at h
  · split at h
    · next q => cases h; exact ⟨_, rfl, q.1, q.2, rfl⟩
    · cases h
  · cases h
/-- behind a store of one slot -/
theorem LR.st1 {γ : Value → Value} (hγ : ∀ v, (γ v).category = v.category) {ls ls' : Array Slot} {nL : Nat} {L : Loc1} (h : LR γ ls nL L) {i : Nat} {v : Value}
    (hs : lv_has ls' nL ((i, γ v) :: (prs γ L).filter (fun q => !(q.1 == i) && !(q.1 + 1 == i && q.2.category == 2)))) (hc : v.category = 1) : LR γ ls' nL (stL L i v) := by
  refine ⟨lv_mono hs fun q hq => ?_, (stL_len L i v).trans h.2⟩
  obtain ⟨j, w⟩ := q
  obtain ⟨u, h1, h2⟩ := prs_mem.mp hq
  subst h2
  rcases stL_get h1 with ⟨q1, q2⟩ | ⟨q1, q2, q3, -⟩
  · subst q1; subst q2
    exact List.mem_cons_self
  · refine List.mem_cons_of_mem _ (List.mem_filter.mpr ⟨prs_mem.mpr ⟨u, q2, rfl⟩, ?_⟩)
    simp only [hγ]
    by_cases z1 : j + 1 = i
    · have z2 : ¬ u.category = 2 := fun z => q3 ⟨z1, z⟩
      simp [q1, z2]
    · simp [q1, z1]
theorem LR.st2 {γ : Value → Value} (hγ : ∀ v, (γ v).category = v.category) {ls ls' : Array Slot} {nL : Nat} {L : Loc1} (h : LR γ ls nL L) {i : Nat} {v : Value}
    (hs : lv_has ls' nL ((i, γ v) :: (prs γ L).filter (fun q => !(q.1 == i) && (!(q.1 == i + 1) && !(q.1 + 1 == i && q.2.category == 2))))) (hc : v.category = 2) : LR γ ls' nL (stL L i v) := by
  refine ⟨lv_mono hs fun q hq => ?_, (stL_len L i v).trans h.2⟩
  obtain ⟨j, w⟩ := q
  obtain ⟨u, h1, h2⟩ := prs_mem.mp hq
  subst h2
  rcases stL_get h1 with ⟨q1, q2⟩ | ⟨q1, q2, q3, q4⟩
  · subst q1; subst q2
    exact List.mem_cons_self
  · refine List.mem_cons_of_mem _ (List.mem_filter.mpr ⟨prs_mem.mpr ⟨u, q2, rfl⟩, ?_⟩)
    have q5 : ¬ j = i + 1 := fun z => q4 ⟨hc, z⟩
    simp only [hγ]
    by_cases z1 : j + 1 = i
    · have z2 : ¬ u.category = 2 := fun z => q3 ⟨z1, z⟩
      simp [q1, q5, z2]
    · simp [q1, q5, z1]
theorem opL_ok (hx : p.tables.exec = Jvm.exec) (hb : c.code = cc) (hρ : rhoC ρ) {i : Instr} {L L' : Loc1} {st st' : List Value} {nL : Nat} (hl : LR (gv β ρ) ls nL L) (ho : opL i L st = some (L', st')) (hd : decode cc pc = .ok (i, ilen i)) (k : ∀ ls' : Array Slot, LR (gv β ρ) ls' nL L' → W p l e R s m args below meth c H locs cells slots Q (F0 m (pc + ilen i) ls' (st'.map (gv β ρ)))) : W p l e R s m args below meth c H locs cells slots Q (F0 m pc ls (st.map (gv β ρ))) := by
  have hγ := gv_cat (β := β) hρ
  cases i
  case iload q =>
    obtain ⟨v, h1, rfl, rfl⟩ := push_spec ho
    obtain ⟨x, rfl, h2⟩ := ldI_spec h1
    exact lv_iload hx hb hd (hl.at h2) (k ls hl)
  case iload_n q =>
    obtain ⟨v, h1, rfl, rfl⟩ := push_spec ho
    obtain ⟨x, rfl, h2⟩ := ldI_spec h1
    exact lv_iload_n hx hb hd rfl (hl.at h2) (k ls hl)
  case lload q =>
    obtain ⟨v, h1, rfl, rfl⟩ := push_spec ho
    obtain ⟨x, rfl, h2⟩ := ldL_spec h1
    exact lv_lload hx hb hd (hl.at h2) (k ls hl)
  case lload_n q =>
    obtain ⟨v, h1, rfl, rfl⟩ := push_spec ho
    obtain ⟨x, rfl, h2⟩ := ldL_spec h1
    exact lv_lload_n hx hb hd rfl (hl.at h2) (k ls hl)
  case aload q =>
    obtain ⟨v, h1, rfl, rfl⟩ := push_spec ho
    obtain ⟨x, rfl, hx4, h2⟩ := ldA_spec h1
    obtain ⟨y, hy⟩ := gv_ref (β := β) hρ hx4
    have h3 := hl.at h2
    rw [hy] at h3
    refine lv_aload hx hb hd h3 ?_
    have k1 := k ls hl
    rw [List.map_cons, hy] at k1
    exact k1
  case aload_n q =>
    obtain ⟨v, h1, rfl, rfl⟩ := push_spec ho
    obtain ⟨x, rfl, hx4, h2⟩ := ldA_spec h1
    obtain ⟨y, hy⟩ := gv_ref (β := β) hρ hx4
    have h3 := hl.at h2
    rw [hy] at h3
    refine lv_aload_n hx hb hd rfl h3 ?_
    have k1 := k ls hl
    rw [List.map_cons, hy] at k1
    exact k1
  case istore q =>
    obtain ⟨x, rfl, h1, rfl⟩ := stI_spec ho
    exact lv_istore hx hb hd hl.1 (hl.2 ▸ h1) rfl (fun ls' hs => k ls' (hl.st1 hγ (v := .int x) hs rfl))
  case istore_n q =>
    obtain ⟨x, rfl, h1, rfl⟩ := stI_spec ho
    exact lv_istore_n hx hb hd rfl hl.1 (hl.2 ▸ h1) rfl (fun ls' hs => k ls' (hl.st1 hγ (v := .int x) hs rfl))
  case lstore q =>
    obtain ⟨x, rfl, h1, rfl⟩ := stJ_spec ho
    exact lv_lstore hx hb hd hl.1 (hl.2 ▸ h1) rfl (fun ls' hs => k ls' (hl.st2 hγ (v := .long x) hs rfl))
  case lstore_n q =>
    obtain ⟨x, rfl, h1, rfl⟩ := stJ_spec ho
    exact lv_lstore_n hx hb hd rfl hl.1 (hl.2 ▸ h1) rfl (fun ls' hs => k ls' (hl.st2 hγ (v := .long x) hs rfl))
  case astore q =>
    obtain ⟨x, rfl, h1, hx4, rfl⟩ := stA_spec ho
    obtain ⟨y, hy⟩ := gv_ref (β := β) hρ hx4
    rw [List.map_cons, hy]
    exact lv_astore hx hb hd hl.1 (hl.2 ▸ h1) rfl (fun ls' hs => k ls' (hl.st1 hγ (v := .ref x) (by rw [hy]; exact hs) rfl))
  case astore_n q =>
    obtain ⟨x, rfl, h1, hx4, rfl⟩ := stA_spec ho
    obtain ⟨y, hy⟩ := gv_ref (β := β) hρ hx4
    rw [List.map_cons, hy]
    exact lv_astore_n hx hb hd rfl hl.1 (hl.2 ▸ h1) rfl (fun ls' hs => k ls' (hl.st1 hγ (v := .ref x) (by rw [hy]; exact hs) rfl))
  case iinc q v =>
    simp only [opL] at ho
    split at ho
    · next x h1 =>
      cases ho
      obtain ⟨x', e1, h2⟩ := ldI_spec h1
      cases e1
      have hm : (q, Value.int x) ∈ prs (gv β ρ) L := prs_mem.mpr ⟨_, h2, rfl⟩
      obtain ⟨z, hz⟩ := List.getElem?_of_mem hm
      exact lv_iinc (v := x + Int32.ofInt v) hx hb hd hl.1 (k := z) hz rfl (hl.2 ▸ (List.getElem?_eq_some_iff.mp h2).1) rfl (fun ls' hs => k ls' (hl.st1 hγ (v := .int (x + Int32.ofInt v)) hs rfl))
    · cases ho
  all_goals (exact nomatch ho)
theorem jmp_spec {pc tg : Nat} {off : Int} {r st' : List Value} (h : jmp pc off r = some (tg, st')) : (pc : Int) + off = (tg : Int) ∧ st' = r := by
  unfold jmp at h
  split at h
  · next q => cases h; exact ⟨(Int.toNat_of_nonneg q).symm, rfl⟩
  · cases h
theorem opB_ok (hx : p.tables.exec = Jvm.exec) (hb : c.code = cc) {i : Instr} {st st' : List Value} {tg : Nat} (ho : opB i pc st = some (tg, st')) {n : Nat} (hd : decode cc pc = .ok (i, n)) (hn : n = ilen i ∨ swt i = true) (hv : ∀ d ps, i = .lookupswitch d ps → (ps.toList.zip (ps.toList.drop 1)).all (fun (a, next) => a.1 < next.1) = true) (k : W p l e R s m args below meth c H locs cells slots Q (F0 m tg ls (st'.map (gv β ρ)))) : W p l e R s m args below meth c H locs cells slots Q (F0 m pc ls (st.map (gv β ρ))) := by
  cases i
  case goto off =>
    rcases hn with rfl | hn
    · obtain ⟨ht, rfl⟩ := jmp_spec ho
      exact lv_goto hx hb hd ht k
    · exact nomatch hn
  case ifCond cd off =>
    rcases hn with rfl | hn
    · simp only [opB] at ho
      split at ho
      · cases cd <;> simp only [hold1, decide_eq_true_eq] at ho
        · split at ho
          · next hP =>
            obtain ⟨ht, rfl⟩ := jmp_spec ho
            exact lv_if_eq hx hb hd ht (fun _ => k) (fun q => absurd hP q)
          · next hP =>
            split at ho
            · next hz =>
              cases ho
              exact lv_if_eq hx hb hd (Int.toNat_of_nonneg hz).symm (fun q => absurd q hP) (fun _ => k)
            · cases ho
        · split at ho
          · next hP =>
            obtain ⟨ht, rfl⟩ := jmp_spec ho
            exact lv_if_ne hx hb hd ht (fun _ => k) (fun q => absurd q hP)
          · next hP =>
            split at ho
            · next hz =>
              cases ho
              exact lv_if_ne hx hb hd (Int.toNat_of_nonneg hz).symm (fun q => absurd q hP) (fun _ => k)
            · cases ho
        · split at ho
          · next hP =>
            obtain ⟨ht, rfl⟩ := jmp_spec ho
            exact lv_if_lt hx hb hd ht (fun _ => k) (fun q => absurd hP q)
          · next hP =>
            split at ho
            · next hz =>
              cases ho
              exact lv_if_lt hx hb hd (Int.toNat_of_nonneg hz).symm (fun q => absurd q hP) (fun _ => k)
            · cases ho
        · split at ho
          · next hP =>
            obtain ⟨ht, rfl⟩ := jmp_spec ho
            exact lv_if_ge hx hb hd ht (fun _ => k) (fun q => absurd hP q)
          · next hP =>
            split at ho
            · next hz =>
              cases ho
              exact lv_if_ge hx hb hd (Int.toNat_of_nonneg hz).symm (fun q => absurd q hP) (fun _ => k)
            · cases ho
        · split at ho
          · next hP =>
            obtain ⟨ht, rfl⟩ := jmp_spec ho
            exact lv_if_gt hx hb hd ht (fun _ => k) (fun q => absurd hP q)
          · next hP =>
            split at ho
            · next hz =>
              cases ho
              exact lv_if_gt hx hb hd (Int.toNat_of_nonneg hz).symm (fun q => absurd q hP) (fun _ => k)
            · cases ho
        · split at ho
          · next hP =>
            obtain ⟨ht, rfl⟩ := jmp_spec ho
            exact lv_if_le hx hb hd ht (fun _ => k) (fun q => absurd hP q)
          · next hP =>
            split at ho
            · next hz =>
              cases ho
              exact lv_if_le hx hb hd (Int.toNat_of_nonneg hz).symm (fun q => absurd q hP) (fun _ => k)
            · cases ho
      · cases ho
    · exact nomatch hn
  case if_icmp cd off =>
    rcases hn with rfl | hn
    · simp only [opB] at ho
      split at ho
      · cases cd <;> simp only [hold2, decide_eq_true_eq] at ho
        · split at ho
          · next hP =>
            obtain ⟨ht, rfl⟩ := jmp_spec ho
            exact lv_icmp_eq hx hb hd ht (fun _ => k) (fun q => absurd hP q)
          · next hP =>
            split at ho
            · next hz =>
              cases ho
              exact lv_icmp_eq hx hb hd (Int.toNat_of_nonneg hz).symm (fun q => absurd q hP) (fun _ => k)
            · cases ho
        · split at ho
          · next hP =>
            obtain ⟨ht, rfl⟩ := jmp_spec ho
            exact lv_icmp_ne hx hb hd ht (fun _ => k) (fun q => absurd q hP)
          · next hP =>
            split at ho
            · next hz =>
              cases ho
              exact lv_icmp_ne hx hb hd (Int.toNat_of_nonneg hz).symm (fun q => absurd q hP) (fun _ => k)
            · cases ho
        · split at ho
          · next hP =>
            obtain ⟨ht, rfl⟩ := jmp_spec ho
            exact lv_icmp_lt hx hb hd ht (fun _ => k) (fun q => absurd hP q)
          · next hP =>
            split at ho
            · next hz =>
              cases ho
              exact lv_icmp_lt hx hb hd (Int.toNat_of_nonneg hz).symm (fun q => absurd q hP) (fun _ => k)
            · cases ho
        · split at ho
          · next hP =>
            obtain ⟨ht, rfl⟩ := jmp_spec ho
            exact lv_icmp_ge hx hb hd ht (fun _ => k) (fun q => absurd hP q)
          · next hP =>
            split at ho
            · next hz =>
              cases ho
              exact lv_icmp_ge hx hb hd (Int.toNat_of_nonneg hz).symm (fun q => absurd q hP) (fun _ => k)
            · cases ho
        · split at ho
          · next hP =>
            obtain ⟨ht, rfl⟩ := jmp_spec ho
            exact lv_icmp_gt hx hb hd ht (fun _ => k) (fun q => absurd hP q)
          · next hP =>
            split at ho
            · next hz =>
              cases ho
              exact lv_icmp_gt hx hb hd (Int.toNat_of_nonneg hz).symm (fun q => absurd q hP) (fun _ => k)
            · cases ho
        · split at ho
          · next hP =>
            obtain ⟨ht, rfl⟩ := jmp_spec ho
            exact lv_icmp_le hx hb hd ht (fun _ => k) (fun q => absurd hP q)
          · next hP =>
            split at ho
            · next hz =>
              cases ho
              exact lv_icmp_le hx hb hd (Int.toNat_of_nonneg hz).symm (fun q => absurd q hP) (fun _ => k)
            · cases ho
      · cases ho
    · exact nomatch hn
  case lookupswitch d ps =>
    simp only [opB] at ho
    split at ho
    · obtain ⟨ht, rfl⟩ := jmp_spec ho
      exact lv_lookup hx hb hd (hv d ps rfl) rfl ht k
    · cases ho
  case tableswitch d lo hi offs =>
    simp only [opB] at ho
    split at ho
    · split at ho
      · next h =>
        obtain ⟨ht, rfl⟩ := jmp_spec ho
        exact lv_tableOut hx hb hd h ht k
      · next h =>
        split at ho
        · next off hoff =>
          obtain ⟨ht, rfl⟩ := jmp_spec ho
          exact lv_tableIn hx hb hd (fun q => h (Or.inl q)) (fun q => h (Or.inr q)) hoff ht k
        · cases ho
    · cases ho
  all_goals (exact nomatch ho)
end SND1
