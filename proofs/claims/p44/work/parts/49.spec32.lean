section SP32
variable {cA dC : Nat → ClassId} {dI : Nat → Nat → Nat} {sz0 bS Lx : Nat} {xs : Nat → Int32} {adK adV : Nat → Nat} {w9 : Value} {l : Launch}
variable {p : Program} {e : Env} {R : Room} {s : State} {m : MethodId} {args : Array Value} {below : List Frame} {meth : Method} {c : Code} {H : Heap} {locs : List Loc} {cells slots : Nat} {Q : State → Prop} {cc : ByteArray} {pc : Nat} {ls : Array Slot} {β : Nat} {ρ : Nat → Value} {own : String}
/-- slots made -/
def sl (B : CB) : Nat := (B.map fun e => e.2.length).sum
theorem sl_app {B : CB} {e : CE} : sl (B ++ [e]) = sl B + e.2.length := by
  unfold sl
  rw [List.map_append, List.sum_append]
  simp
theorem dflt_len : ∀ a, a < 10 → (dflt a).2.length = nF a ∧ (dflt a).1 = a := by decide +kernel
theorem dflt_def : ∀ a, a < 10 → ∀ j, j < nF a → defaultValue (tyn a j) = vp_V (dflt a).2 j := by decide +kernel
theorem dflt_gv {a : Nat} : (dflt a).2.map (gv β ρ) = (dflt a).2 := by
  unfold dflt
  simp only [List.map_map]
  refine List.map_congr_left fun k _ => ?_
  show gv β ρ (if fTy a k = 3 then .long 0 else if fTy a k = 4 then .null else .int 0) = _
  split
  · rfl
  · split <;> rfl
theorem cH_new (hx : p.tables.exec = Jvm.exec) (hb : c.code = cc) (hown : s.vm.findClass own = some m.cls) (hts : ∀ w ∈ Wg, w.before args s = true) (hK : va_K (dC, dI) clss (tysl cA) s) {B : CB} (hP : va_P (dC, dI) clss (wblC cA β ρ B) H) (hz : H.size = β + B.length) (hS : va_S (fun q => β ≤ q) s.heap H locs) (hB : B.length < 410)
    {ix a b : Nat} {st : List Value} (hd : decode cc pc = .ok (.new ix, 3)) (hv : ValidC own (.new ix) a b) (hRc : cells + 1 ≤ R.cells ∧ slots + nF a ≤ R.slots)
    (k : ∀ (H' : Heap), va_P (dC, dI) clss (wblC cA β ρ (B ++ [dflt a])) H' → H'.size = β + (B ++ [dflt a]).length → va_S (fun q => β ≤ q) s.heap H' locs → W p l e R s m args below meth c H' locs (cells + 1) (slots + nF a) Q (F0 m (pc + 3) ls ((.ref B.length :: st).map (gv β ρ)))) :
    W p l e R s m args below meth c H locs cells slots Q (F0 m pc ls (st.map (gv β ρ))) := by
  obtain ⟨h10, v1, v2, v3⟩ := hv
  obtain ⟨d1, d2⟩ := dflt_len a h10
  refine cw_new (D := (dC, dI)) (ci := a) (fs := (dflt a).2) hx hb hts (cl_ws a h10) (tyn a) (cl_ty a h10) hown (hts _ v1) (hts _ v2) (hts _ v3) hK hP hS (cl_get a h10) (fun j hj => dflt_def a h10 j hj) hRc.1 hRc.2 hd (fun H1 z1 hP1 hS1 => ?_)
  have k1 := k H1 (by rw [wblC_app, entC_obj (by rw [d2]; exact h10), d2, dflt_gv, ← hz]; exact hP1) (by rw [z1, hz, List.length_append]; rfl) hS1
  rw [List.map_cons, gv_lo (by omega), ← hz] at k1
  exact k1
theorem tys_get (i : Nat) (h : i < 6) : (tysl cA)[i]? = some (cA i, if i = 0 then .int else if i = 1 then .char else .object (Cn (rowC (i + 26)))) := by
  rcases (by omega : i = 0 ∨ i = 1 ∨ i = 2 ∨ i = 3 ∨ i = 4 ∨ i = 5) with rfl | rfl | rfl | rfl | rfl | rfl <;> rfl
theorem rep_len (n : Nat) (v : Value) : (List.replicate n v).length = n := List.length_replicate
theorem aLen_sm : ∀ a, a < 32 → aLen a ≤ 40 := by decide +kernel
theorem cH_newarray (hx : p.tables.exec = Jvm.exec) (hb : c.code = cc) (hts : ∀ w ∈ Wg, w.before args s = true) (hK : va_K (dC, dI) clss (tysl cA) s) {B : CB} (hP : va_P (dC, dI) clss (wblC cA β ρ B) H) (hz : H.size = β + B.length) (hS : va_S (fun q => β ≤ q) s.heap H locs) (hB : B.length < 410)
    {t : ArrayType} {a b : Nat} {n : Int32} {st : List Value} (hd : decode cc pc = .ok (.newarray t, 2)) (hn : n = nI (aLen a)) (hv : ValidC own (.newarray t) a b) (hRc : cells + 1 ≤ R.cells ∧ slots + aLen a ≤ R.slots)
    (k : ∀ (H' : Heap), va_P (dC, dI) clss (wblC cA β ρ (B ++ [(a, List.replicate (aLen a) (Value.int 0))])) H' → H'.size = β + (B ++ [(a, List.replicate (aLen a) (Value.int 0))]).length → va_S (fun q => β ≤ q) s.heap H' locs → W p l e R s m args below meth c H' locs (cells + 1) (slots + aLen a) Q (F0 m (pc + 2) ls ((.ref B.length :: st).map (gv β ρ)))) :
    W p l e R s m args below meth c H locs cells slots Q (F0 m pc ls ((.int n :: st).map (gv β ρ))) := by
  subst hn
  rcases hv with ⟨h1, h2, rfl, v1⟩ | ⟨h1, h2, rfl, v1⟩
  · have h40 := aLen_sm a (by omega)
    refine cw_newa (D := (dC, dI)) (cl := clss) (cA := cA 0) (N' := aLen a) (a0 := (aLen a, .inl (fun _ => 0))) hx hb (atype := .int) (hts _ v1) (hK.2 0 _ (tys_get 0 (by decide))).2 hP hS (fun _ => rfl) (nI_pos (by omega)) (nI_clamp (by omega)) (by show aLen a * 4 ≤ _; omega) hRc.1 hRc.2 hd (fun H1 z1 hP1 hS1 => ?_)
    have k1 := k H1 (by
      rw [wblC_app]
      unfold entC
      rw [if_neg (by show ¬ a < 10; omega), if_pos (show a ≤ 25 from h2), rep_len, ← hz]
      exact hP1) (by rw [z1, hz, List.length_append]; rfl) hS1
    rw [List.map_cons, gv_lo (by omega), ← hz] at k1
    exact k1
  · have h40 := aLen_sm a (by omega)
    refine cw_newa (D := (dC, dI)) (cl := clss) (cA := cA 1) (N' := aLen a) (a0 := (aLen a, .inl (fun _ => 0))) hx hb (atype := .char) (hts _ v1) (hK.2 1 _ (tys_get 1 (by decide))).2 hP hS (fun _ => rfl) (nI_pos (by omega)) (nI_clamp (by omega)) (by show aLen a * 2 ≤ _; omega) hRc.1 hRc.2 hd (fun H1 z1 hP1 hS1 => ?_)
    have k1 := k H1 (by
      rw [wblC_app]
      unfold entC
      rw [if_neg (by show ¬ a < 10; omega), if_neg (show ¬ a ≤ 25 by omega), if_pos (show a ≤ 27 from h2), rep_len, ← hz]
      exact hP1) (by rw [z1, hz, List.length_append]; rfl) hS1
    rw [List.map_cons, gv_lo (by omega), ← hz] at k1
    exact k1
end SP32
