section SP39
variable {cA dC : Nat → ClassId} {dI : Nat → Nat → Nat} {sz0 bS Lx : Nat} {xs : Nat → Int32} {adK adV : Nat → Nat} {w9 : Value} {l : Launch}
variable {p : Program} {e : Env} {s : State} {m : MethodId} {args : Array Value} {below : List Frame} {meth : Method} {c : Code} {β : Nat}
theorem oc_all : ∀ k, k < 10 → Cond.code (yC k) (bC k) (mLC k) none ∈ Wg ∧ Cond.instanceMethod (yC k) ∈ Wg ∧ Cond.initialized (yC k).cls ∈ Wg := by
  exact lt10 oc_0 oc_1 oc_2 oc_3 oc_4 oc_5 oc_6 oc_7 oc_8 oc_9
theorem vcs_all : ∀ k, k < 10 → ∀ r ∈ cdC k, ValidRC (yC k).cls (bC k) r := by
  exact lt10 vcs_0 vcs_1 vcs_2 vcs_3 vcs_4 vcs_5 vcs_6 vcs_7 vcs_8 vcs_9
theorem yc_facts : ∀ k, k < 10 → (yC k).name = "<init>" ∧ ((yC k).cls ≠ "java/lang/invoke/MethodHandle" ∧ (yC k).cls ≠ "java/lang/invoke/VarHandle" ∧ (parseMethodDescriptor (yC k).desc).map (fun d => d.parameters.length) = some (nPC k)) ∧ (yC k).cls = Cn k ∧ mLC k ≤ 2 ∧ nPC k + 1 ≤ mLC k ∧ plainName (yC k).cls = true := by decide +kernel
theorem crun_obj {d : Nat} {As : List Value} {B B' : CB} (h : crun nPC mLC cdC d 10 As B = some B') : B' = B := by
  cases d with
  | zero => cases h
  | succ d =>
    have e : cstep nPC cdC 10 (0, entL As (mLC 10), [], B) = some (.inr (.inl B)) := rfl
    have h2 : cloop nPC cdC (crun nPC mLC cdC d) 10 (999 + 1) (0, entL As (mLC 10), [], B) = some B' := h
    unfold cloop at h2
    rw [e] at h2
    cases h2
    rfl
def ArgsC (k : Nat) (As : List Value) : Prop := ∃ (r : Nat) (As' : List Value), As = .ref r :: As' ∧ r < 410 ∧ As'.length = nPC k ∧ ∀ v ∈ As', v.category = 1
theorem fet_mem {C : List CR} {pc : Nat} {i : Instr} {a b : Nat} (hf : fet C pc = some (i, a, b)) : (pc, i, a, b) ∈ C := by
  unfold fet at hf
  rw [Option.map_eq_some_iff] at hf
  obtain ⟨x, h1, h2⟩ := hf
  have h3 := List.mem_of_find?_eq_some h1
  have h4 := List.find?_some h1
  obtain ⟨pc', i', a', b'⟩ := x
  cases h2
  have h5 : pc' = pc := by simpa using h4
  subst h5
  exact h3
theorem cloop_le {d k f : Nat} {t : CS} {B' : CB} (h : cloop nPC cdC (crun nPC mLC cdC d) k f t = some B') : t.2.2.2.length ≤ B'.length ∧ sl t.2.2.2 ≤ sl B' := cloop_mono (fun k As B B' h => crun_mono d k As B B' h) f t B' h
/-- a constructor's body, from any of its places -/
theorem cbody_ok (h9 : w9.category = 1) {d k : Nat} (hk : k < 10)
    (IH : ∀ (k' : Nat) (As : List Value) (B B' : CB), k' < 10 → crun nPC mLC cdC d k' As B = some B' → B'.length ≤ 410 → ArgsC k' As → MetCc cA dC dI sz0 bS Lx xs adK adV w9 l d k' As B B')
    (hx : p.tables.exec = Jvm.exec) (hb : c.code = bC k) (hml : c.maxLocals = mLC k) (hr : meth.sig.returnType = none) (hlocks : meth.locks = false) (hini : meth.name = "<init>")
    (hown : s.vm.findClass (yC k).cls = some m.cls) (hts : ∀ w ∈ Wg, w.before args s = true) (hAO : ∀ k, 28 ≤ k → k ≤ 31 → va_AO (Cn (rowC k)) s) (hE : EnvP sz0 bS Lx xs adK adV w9 s) (hK : va_K (dC, dI) clss (tysl cA) s) (hβ : sz0 ≤ β) {B0 B' : CB} (hB' : B'.length ≤ 410) :
    ∀ (f : Nat) (t : CS), cloop nPC cdC (crun nPC mLC cdC d) k f t = some B' → B0.length ≤ t.2.2.2.length → sl B0 ≤ sl t.2.2.2 → ∀ (H : Heap) (locs : List Loc) (ls : Array Slot), LR (gv β (rho bS adK adV w9)) ls (mLC k) t.2.1 → va_P (dC, dI) clss (wblC cA β (rho bS adK adV w9) t.2.2.2) H → H.size = β + t.2.2.2.length → va_S (fun q => β ≤ q) s.heap H locs →
      W p l e (rmC (d + 1) (B'.length - B0.length) (sl B' - sl B0)) s m args below meth c H locs (t.2.2.2.length - B0.length) (sl t.2.2.2 - sl B0) (vx_MQ below (Qcc cA dC dI bS adK adV w9 β B') Xcc args s (B'.length - B0.length) (sl B' - sl B0) (fun q => β ≤ q)) (F0 m t.1 ls (t.2.2.1.map (gv β (rho bS adK adV w9)))) := by
  have hρ : rhoC (rho bS adK adV w9) := rho_C h9
  have hcat : ∀ t : List Value, ((t.map (gv β (rho bS adK adV w9))).map fun v => v.category).sum = (t.map fun v => v.category).sum := by
    intro t
    rw [List.map_map]
    congr 1
    exact List.map_congr_left fun v _ => gv_cat hρ v
  intro f
  induction f with
  | zero => intro t h; cases h
  | succ f ih =>
    intro t h hB0 hs0 H locs ls hl hP hz hS
    have hle := cloop_le h
    simp only [cloop] at h
    cases hs : cstep nPC cdC k t with
    | none => rw [hs] at h; cases h
    | some z =>
      rw [hs] at h
      obtain ⟨i, a, b, hf, hkind⟩ := cstep_spec hs
      obtain ⟨hd, hv⟩ := vcs_all k hk _ (fet_mem hf)
      obtain ⟨pc, L, st, B⟩ := t
      simp only [] at hd hv hl hP hS hz hle hB0 hs0 hkind h ⊢
      have hml' : c.maxLocals = ls.size := by rw [hml, hl.1.1]
      rcases hkind with ⟨st', ho, rfl⟩ | ⟨L', st', ho, rfl⟩ | ⟨pc', st', ho, rfl⟩ | ⟨B1, st', ho, rfl⟩ | ⟨rfl, rfl, rfl⟩ | ⟨ix, r, t, As, k2, fs, rfl, hb12, hAl, hst, hBr, hk2, hc8, hall, rfl⟩
      · have hn2 : clen i = ilen i := by cases i <;> first | rfl | exact nomatch ho
        rw [hn2] at hd
        exact opS_ok hx hb hρ ho hd (ih (pc + ilen i, L, st', B) h hB0 hs0 H locs ls hl hP hz hS)
      · have hn2 : clen i = ilen i := by cases i <;> first | rfl | exact nomatch ho
        rw [hn2] at hd
        exact opL_ok hx hb hρ hl ho hd (fun ls' hl' => ih (pc + ilen i, L', st', B) h hB0 hs0 H locs ls' hl' hP hz hS)
      · have hn2 : clen i = ilen i := by cases i <;> first | rfl | exact nomatch ho
        exact opB_ok hx hb ho hd (Or.inl hn2) (fun d ps he => by
          subst he
          exfalso
          have hno : ∀ k, k < 10 → (cdC k).all (fun r => match r.2.1 with | .lookupswitch .. => false | _ => true) = true := by decide +kernel
          have := List.all_eq_true.mp (hno k hk) _ (fet_mem hf)
          cases this) (ih (pc', L, st', B) h hB0 hs0 H locs ls hl hP hz hS)
      · have hle1 := cloop_le h
        simp only [] at hle1
        have hmono := cH_mono ho
        unfold cH at ho
        split at ho
        · split at ho
          · rename_i ix h10
            cases ho
            have e1 : (B ++ [dflt a]).length = B.length + 1 := by rw [List.length_append]; rfl
            have e2 : sl (B ++ [dflt a]) = sl B + nF a := by rw [sl_app, (dflt_len a h10).1]
            rw [e1, e2] at hle1
            refine cH_new hx hb hown hts hK hP hz hS (by omega) hd hv ⟨by show _ + 1 ≤ B'.length - B0.length; omega, by show _ + nF a ≤ sl B' - sl B0; omega⟩ (fun H' hP' hz' hS' => ?_)
            have k1 := ih (pc + 3, L, .ref B.length :: st, B ++ [dflt a]) h (by rw [e1]; omega) (by rw [e2]; omega) H' locs ls hl hP' hz' hS'
            simp only [] at k1
            rw [e1, e2, show B.length + 1 - B0.length = B.length - B0.length + 1 by omega, show sl B + nF a - sl B0 = sl B - sl B0 + nF a by omega] at k1
            exact k1
          · cases ho
        · split at ho
          · split at ho
            · rename_i ty n t hc
              cases ho
              have e1 : (B ++ [(a, List.replicate (aLen a) (Value.int 0))]).length = B.length + 1 := by rw [List.length_append]; rfl
              have e2 : sl (B ++ [(a, List.replicate (aLen a) (Value.int 0))]) = sl B + aLen a := by rw [sl_app, rep_len]
              rw [e1, e2] at hle1
              refine cH_newarray hx hb hts hK hP hz hS (by omega) hd hc.1 hv ⟨by show _ + 1 ≤ B'.length - B0.length; omega, by show _ + aLen a ≤ sl B' - sl B0; omega⟩ (fun H' hP' hz' hS' => ?_)
              have k1 := ih (pc + 2, L, .ref B.length :: t, B ++ [(a, List.replicate (aLen a) (Value.int 0))]) h (by rw [e1]; omega) (by rw [e2]; omega) H' locs ls hl hP' hz' hS'
              simp only [] at k1
              rw [e1, e2, show B.length + 1 - B0.length = B.length - B0.length + 1 by omega, show sl B + aLen a - sl B0 = sl B - sl B0 + aLen a by omega] at k1
              exact k1
            · cases ho
          · cases ho
        · split at ho
          · split at ho
            · rename_i ix n t hc
              cases ho
              have e1 : (B ++ [(a, List.replicate (aLen a) Value.null)]).length = B.length + 1 := by rw [List.length_append]; rfl
              have e2 : sl (B ++ [(a, List.replicate (aLen a) Value.null)]) = sl B + aLen a := by rw [sl_app, rep_len]
              rw [e1, e2] at hle1
              refine cH_anewarray hx hb hown hts hAO hK hP hz hS (by omega) hd hc.1 hv ⟨by show _ + 1 ≤ B'.length - B0.length; omega, by show _ + aLen a ≤ sl B' - sl B0; omega⟩ (fun H' hP' hz' hS' => ?_)
              have k1 := ih (pc + 3, L, .ref B.length :: t, B ++ [(a, List.replicate (aLen a) Value.null)]) h (by rw [e1]; omega) (by rw [e2]; omega) H' locs ls hl hP' hz' hS'
              simp only [] at k1
              rw [e1, e2, show B.length + 1 - B0.length = B.length - B0.length + 1 by omega, show sl B + aLen a - sl B0 = sl B - sl B0 + aLen a by omega] at k1
              exact k1
            · cases ho
          · cases ho
        · split at ho
          · rename_i ix v r t
            split at ho
            · rename_i k2 fs hBr
              split at ho
              · rename_i hc
                obtain ⟨rfl, h10, hbl, hok⟩ := hc
                cases ho
                have hrB : @LT.lt Nat instLTNat r B.length := (List.getElem?_eq_some_iff.mp hBr).1
                have e1 : (B.set r (k2, fs.set b v)).length = B.length := List.length_set
                have e2 : sl (B.set r (k2, fs.set b v)) = sl B := sl_set hBr (by simp)
                have hka : k2 = k := by
                  have hno : ∀ k, k < 10 → (cdC k).all (fun r => match r.2.1 with | .putfield _ => r.2.2.1 == k | _ => true) = true := by decide +kernel
                  have := List.all_eq_true.mp (hno k hk) _ (fet_mem hf)
                  simpa using this
                subst hka
                refine cH_putfield (a0 := k2) hx hb hown (yc_facts k2 hk).2.2.1 hini hts hK hP hS hd (by omega) hBr hbl hok hv (fun H' locs' hz' hP' hS' => ?_)
                have k1 := ih (pc + 3, L, st', B.set r (k2, fs.set b v)) h (by rw [e1]; exact hB0) (by rw [e2]; exact hs0) H' locs' ls hl hP' (by rw [e1, hz', hz]) hS'
                simp only [] at k1
                rw [e1, e2] at k1
                exact k1
              · cases ho
            · cases ho
          · cases ho
        · split at ho
          · rename_i ix r t
            split at ho
            · rename_i k2 fs hBr
              split at ho
              · rename_i hc
                obtain ⟨rfl, h10, h4⟩ := hc
                split at ho
                · rename_i x hfs
                  split at ho
                  · cases ho
                    have hrB : @LT.lt Nat instLTNat r B.length := (List.getElem?_eq_some_iff.mp hBr).1
                    exact cH_getfield hx hb hown hts hK hP hd (by omega) hBr hfs hv (ih (pc + 3, L, .ref x :: t, B) h hB0 hs0 H locs ls hl hP hz hS)
                  · cases ho
                · cases ho
              · cases ho
            · cases ho
          · cases ho
        · split at ho
          · rename_i x j r t
            split at ho
            · rename_i k2 vs k3 fs hBr hBx
              rw [Option.ite_none_right_eq_some] at ho
              obtain ⟨⟨q1, q2, q3, q4, q5⟩, ho⟩ := ho
              cases ho
              have hrB : @LT.lt Nat instLTNat r B.length := (List.getElem?_eq_some_iff.mp hBr).1
              have hxB : @LT.lt Nat instLTNat x B.length := (List.getElem?_eq_some_iff.mp hBx).1
              have e1 : (B.set r (k2, vs.set j.toNatClampNeg (.ref x))).length = B.length := List.length_set
              have e2 : sl (B.set r (k2, vs.set j.toNatClampNeg (.ref x))) = sl B := sl_set hBr (by simp)
              have hk3 : k3 = rowC k2 := q3
              subst hk3
              refine cH_aastore hx hb hK hP hS hd (by omega) (by omega) hBr hBx q1 q2 q4 q5 (fun H' locs' hz' hP' hS' => ?_)
              have k1 := ih (pc + 1, L, st', B.set r (k2, vs.set j.toNatClampNeg (.ref x))) h (by rw [e1]; exact hB0) (by rw [e2]; exact hs0) H' locs' ls hl hP' (by rw [e1, hz', hz]) hS'
              simp only [] at k1
              rw [e1, e2] at k1
              exact k1
            · cases ho
          · cases ho
        · cases ho
      · simp only [] at h
        cases h
        exact vx_ret (W.vret hx hb hr (fun t ht hW => ⟨⟨rfl, by rw [ht]; exact hz, by rw [ht]; exact hP⟩, hS.F ht⟩) hS.2.2 hd hlocks)
      · simp only [] at h
        cases hB1 : crun nPC mLC cdC d a (.ref r :: As) B with
        | none => rw [hB1] at h; cases h
        | some B1 =>
          rw [hB1] at h
          have hle1 := cloop_le h
          have hle2 := crun_mono d a _ _ _ hB1
          simp only [] at hle1 h
          have hrB : @LT.lt Nat instLTNat r B.length := (List.getElem?_eq_some_iff.mp hBr).1
          have hst2 : st.map (gv β (rho bS adK adV w9)) = (As.map (gv β (rho bS adK adV w9))).reverse ++ .ref (β + r) :: t.map (gv β (rho bS adK adV w9)) := by
            rw [hst, List.map_append, List.map_cons, gv_lo (by omega), List.map_reverse]
          have g8 : 2 * 0 + ((t.map (gv β (rho bS adK adV w9))).map fun v => v.category).sum ≤ 8 := by rw [hcat]; unfold catS at hc8; omega
          obtain ⟨ha11, hlink⟩ := hv
          by_cases ha : a = 10
          · subst ha
            have e1 := crun_obj hB1
            subst e1
            have hAs : As = [] := List.eq_nil_of_length_eq_zero hAl
            subst hAs
            have hl1 : Cond.methodLink (yC k).cls ix Lib.objectInit ∈ Wg := by
              rcases hlink with ⟨-, h1⟩ | ⟨h1, -⟩
              · exact h1
              · exfalso
                have hno : ∀ k, k < 10 → (cdC k).all (fun r => match r.2.1 with | .invokespecial _ => !(r.2.2.1 == 10) || r.2.2.2 == 1 | _ => true) = true := by decide +kernel
                have := List.all_eq_true.mp (hno k hk) _ (fet_mem hf)
                subst h1
                cases this
            rw [hst2]
            refine W.objInit hx hb hown (hts _ hl1) (hts _ oObj.1) (hts _ oObj.2) rfl (by show ls.size = _; rw [hml']) rfl hd (by show 1 ≤ d + 1 + 4; omega) (by show 2 * 0 + _ + 12 ≤ 100 + 40 * (d + 1); omega) ?_
            exact ih (pc + 3, L, t, B1) h hB0 hs0 H locs ls hl hP hz hS
          · have ha10 : a < 10 := by omega
            obtain ⟨y1, ⟨y2, y3, y4⟩, y5, y6, y7, -⟩ := yc_facts a ha10
            obtain ⟨o1, o2, o3⟩ := oc_all a ha10
            have hargs : ArgsC a (.ref r :: As) := ⟨r, As, rfl, by omega, hAl, fun v hv => by simpa using List.all_eq_true.mp hall v hv⟩
            have hmet := IH a _ B B1 ha10 hB1 (by omega) hargs β
            have hsz := hS.1
            have hk0 : ∀ q : Nat, q < sz0 → H[q]? = s.heap[q]? := fun q hq => hS.2.1 q (by have := hE.2.2.1; omega) (fun z => by have z : β ≤ q := z; omega)
            have hp0 := presc_ok (As := .ref r :: As) hE hK hAO hP hsz hk0 hβ hz
            rw [List.map_cons, gv_lo (by omega)] at hp0
            have hin : ∀ w ∈ wsC a, w ∈ Wg := fun w hw => (List.mem_cons.mp hw).elim (fun h => h ▸ o1) id
            have fin : vx_Run p l e (rmC (d + 1) (B'.length - B0.length) (sl B' - sl B0)) s m args below meth c H locs (B.length - B0.length) (sl B - sl B0) (B1.length - B.length) (sl B1 - sl B) (F0 m pc ls (st.map (gv β (rho bS adK adV w9)))) (t.map (gv β (rho bS adK adV w9))) (Qcc cA dC dI bS adK adV w9 β B1 (Value.ref (β + r) :: As.map (gv β (rho bS adK adV w9))).toArray) Xcc (fun q => β ≤ q) → W p l e (rmC (d + 1) (B'.length - B0.length) (sl B' - sl B0)) s m args below meth c H locs (B.length - B0.length) (sl B - sl B0) (vx_MQ below (Qcc cA dC dI bS adK adV w9 β B') Xcc args s (B'.length - B0.length) (sl B' - sl B0) (fun q => β ≤ q)) (F0 m pc ls (st.map (gv β (rho bS adK adV w9)))) := fun hrun => by
              refine callc_ok (mc := B1.length - B.length) (ms := sl B1 - sl B) hrun hS (fun H1 locs1 hP1 hz1 hS1 => ?_)
              have k1 := ih (pc + 3, L, t, B1) h (by show B0.length ≤ B1.length; omega) (by show sl B0 ≤ sl B1; omega) H1 locs1 ls hl hP1 hz1 hS1
              simp only [] at k1
              rw [show B.length - B0.length + (B1.length - B.length) = B1.length - B0.length by omega, show sl B - sl B0 + (sl B1 - sl B) = sl B1 - sl B0 by omega]
              exact k1
            refine fin ?_
            rw [hst2]
            rcases hlink with ⟨-, h1⟩ | ⟨-, h1⟩
            · refine vx_runI (As := As.map (gv β (rho bS adK adV w9))) (rest := t.map (gv β (rho bS adK adV w9))) (b := β + r) (n := nPC a) (nL := c.maxLocals) (Ts := Wg) (own := (yC k).cls) ⟨hx, hb, rfl, hown, hts⟩ hmet ⟨callB_of _ hts (wg_good (fun _ h => h) hin) rfl rfl rfl (hts _ o3) (hts _ h1) ⟨y2, y3, y4⟩ ⟨Nat.le_refl _, ?_⟩, y1, hts _ o2⟩ ⟨pcc_blind, hp0⟩ rfl (by rw [List.length_map, hAl]) hml'.symm rfl g8 hd ⟨by show _ ≤ B'.length - B0.length; omega, by show _ ≤ sl B' - sl B0; omega⟩
              show 8 + (_ + 11) + (100 + 40 * d) ≤ 100 + 40 * (d + 1); omega
            · refine vx_runIN (As := As.map (gv β (rho bS adK adV w9))) (rest := t.map (gv β (rho bS adK adV w9))) (b := β + r) (n := nPC a) (nL := c.maxLocals) (Ts := Wg) (own := (yC k).cls) (host := "Rungmaster") ⟨hx, hb, rfl, hown, hts⟩ hmet ⟨va_cnB _ hts (wg_good (fun _ h => h) hin) rfl rfl rfl (hE.2.2.2.2.2.2.2.2.2.1 _ h1 rfl) (hts _ o3) ⟨y2, y3, y4⟩ ⟨Nat.le_refl _, ?_⟩, y1, hts _ o2⟩ ⟨pcc_blind, hp0⟩ rfl (by rw [List.length_map, hAl]) hml'.symm rfl g8 hd ⟨by show _ ≤ B'.length - B0.length; omega, by show _ ≤ sl B' - sl B0; omega⟩
              show 8 + (_ + 11) + (100 + 40 * d) ≤ 100 + 40 * (d + 1); omega
end SP39
