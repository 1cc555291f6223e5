section SP33
variable {cA dC : Nat → ClassId} {dI : Nat → Nat → Nat} {p : Program} {l : Launch} {e : Env} {R : Room} {s : State} {m : MethodId} {args : Array Value} {below : List Frame} {meth : Method} {c : Code} {H : Heap} {locs : List Loc} {cells slots : Nat} {Q : State → Prop} {cc : ByteArray} {pc : Nat} {ls : Array Slot} {β : Nat} {ρ : Nat → Value} {own : String} {a0 : Nat}
theorem rep_none {n : Nat} : (fun i => refO β ((List.replicate n Value.null).getD i .null)) = fun _ => none := by
  funext i
  rw [List.getD_eq_getElem?_getD, List.getElem?_replicate]
  split <;> rfl
theorem cH_anewarray (hx : p.tables.exec = Jvm.exec) (hb : c.code = cc) (hown : s.vm.findClass own = some m.cls) (hts : ∀ w ∈ Wg, w.before args s = true) (hAO : ∀ k, 28 ≤ k → k ≤ 31 → va_AO (Cn (rowC k)) s) (hK : va_K (dC, dI) clss (tysl cA) s) {B : CB} (hP : va_P (dC, dI) clss (wblC cA β ρ B) H) (hz : H.size = β + B.length) (hS : va_S (fun q => β ≤ q) s.heap H locs) (hB : B.length < 410)
    {ix a b : Nat} {n : Int32} {st : List Value} (hd : decode cc pc = .ok (.anewarray ix, 3)) (hn : n = nI (aLen a)) (hv : ValidC own (.anewarray ix) a b) (hRc : cells + 1 ≤ R.cells ∧ slots + aLen a ≤ R.slots)
    (k : ∀ (H' : Heap), va_P (dC, dI) clss (wblC cA β ρ (B ++ [(a, List.replicate (aLen a) Value.null)])) H' → H'.size = β + (B ++ [(a, List.replicate (aLen a) Value.null)]).length → va_S (fun q => β ≤ q) s.heap H' locs → W p l e R s m args below meth c H' locs (cells + 1) (slots + aLen a) Q (F0 m (pc + 3) ls ((.ref B.length :: st).map (gv β ρ)))) :
    W p l e R s m args below meth c H locs cells slots Q (F0 m pc ls ((.int n :: st).map (gv β ρ))) := by
  subst hn
  obtain ⟨h1, h2, v1, -⟩ := hv
  have h40 := aLen_sm a (by omega)
  have ht := tys_get (cA := cA) (a - 26) (by omega)
  rw [if_neg (by omega), if_neg (by omega), show a - 26 + 26 = a by omega] at ht
  obtain ⟨kA, comp, q1, q2, q3, q4⟩ := (hK.2 _ _ ht).2
  refine cw_newq (D := (dC, dI)) (cl := clss) (cA := cA (a - 26)) (C := Cn (rowC a)) hx hb hown (hts _ v1) (hAO a h1 h2) q4 hP hS (nI_pos (by omega)) (nI_clamp (by omega)) (by omega) hRc.1 hRc.2 hd (fun H1 z1 hP1 hS1 => ?_)
  have k1 := k H1 (by
    rw [wblC_app, entC_row (show 28 ≤ a from h1), ← hz]
    simp only [List.length_replicate]
    rw [rep_none]
    exact hP1) (by rw [z1, hz, List.length_append]; rfl) hS1
  rw [List.map_cons, gv_lo (by omega), ← hz] at k1
  exact k1
theorem cH_getfield (hx : p.tables.exec = Jvm.exec) (hb : c.code = cc) (hown : s.vm.findClass own = some m.cls) (hts : ∀ w ∈ Wg, w.before args s = true) (hK : va_K (dC, dI) clss (tysl cA) s) {B : CB} (hP : va_P (dC, dI) clss (wblC cA β ρ B) H)
    {ix a b r : Nat} {fs : List Value} {v : Value} {st : List Value} (hd : decode cc pc = .ok (.getfield ix, 3)) (hr : r < 410) (hBr : B[r]? = some (a, fs)) (hfs : fs[b]? = some v) (hv : ValidC own (.getfield ix) a b)
    (k : W p l e R s m args below meth c H locs cells slots Q (F0 m (pc + 3) ls ((v :: st).map (gv β ρ)))) :
    W p l e R s m args below meth c H locs cells slots Q (F0 m pc ls ((.ref r :: st).map (gv β ρ))) := by
  obtain ⟨h10, hbn, hw⟩ := hv
  rw [List.map_cons, gv_lo (by omega)]
  exact va_get (D := (dC, dI)) (ci := a) (fs := fs.map (gv β ρ)) (v := gv β ρ v) hx hb hts (cl_ws a h10) hown hK hP r (by rw [wblC_get hBr, entC_obj (show a < 10 from h10)]) (cl_get a h10) b hbn (hts _ hw) (fun _ h => h) (by rw [List.getElem?_map, hfs]; rfl) hd k
def isObj (t : FieldType) : Bool := match t with
  | .object _ => true
  | .array _ => true
  | _ => false
theorem ty_ref : ∀ a, a < 10 → ∀ b, b < nF a → fTy a b = 4 → isObj (tyn a b) = true ∧ (Tn a b).1 = Cn a := by decide +kernel
theorem nar_ref {t : FieldType} (h : isObj t = true) (x : Nat) : narrow t (.ref x) = .ref x ∧ fits t (.ref x) = true := by
  cases t <;> first | exact ⟨rfl, rfl⟩ | cases h
theorem gv_len {fs : List Value} {b : Nat} {v : Value} : (fs.map (gv β ρ)).set b (gv β ρ v) = (fs.set b v).map (gv β ρ) := (List.map_set).symm
theorem cH_putfield (hx : p.tables.exec = Jvm.exec) (hb : c.code = cc) (hown : s.vm.findClass own = some m.cls) (hown2 : own = Cn a0) (hini : meth.name = "<init>") (hts : ∀ w ∈ Wg, w.before args s = true) (hK : va_K (dC, dI) clss (tysl cA) s) {B : CB} (hP : va_P (dC, dI) clss (wblC cA β ρ B) H) (hS : va_S (fun q => β ≤ q) s.heap H locs)
    {ix b r : Nat} {fs : List Value} {v : Value} {st : List Value} (hd : decode cc pc = .ok (.putfield ix, 3)) (hr : r < 410) (hBr : B[r]? = some (a0, fs)) (hl : b < fs.length) (ho : okv a0 b v = true) (hv : ValidC own (.putfield ix) a0 b)
    (k : ∀ (H' : Heap) (locs' : List Loc), H'.size = H.size → va_P (dC, dI) clss (wblC cA β ρ (B.set r (a0, fs.set b v))) H' → va_S (fun q => β ≤ q) s.heap H' locs' → W p l e R s m args below meth c H' locs' cells slots Q (F0 m (pc + 3) ls (st.map (gv β ρ)))) :
    W p l e R s m args below meth c H locs cells slots Q (F0 m pc ls ((v :: .ref r :: st).map (gv β ρ))) := by
  obtain ⟨h10, hbn, hw⟩ := hv
  have hrB : r < B.length := (List.getElem?_eq_some_iff.mp hBr).1
  have hws : (wblC cA β ρ B)[r]? = some (β + r, .inr (a0, fs.map (gv β ρ))) := by rw [wblC_get hBr, entC_obj (show a0 < 10 from h10)]
  have fin : ∀ H1 : Heap, va_P (dC, dI) clss ((wblC cA β ρ B).set r (β + r, .inr (a0, (fs.map (gv β ρ)).set b (gv β ρ v)))) H1 → va_P (dC, dI) clss (wblC cA β ρ (B.set r (a0, fs.set b v))) H1 := fun H1 h => by
    rw [gv_len] at h
    rw [← wblC_set hrB, entC_obj (show a0 < 10 from h10)]
    exact h
  rw [List.map_cons, List.map_cons, gv_lo (show r < 1000 by omega)]
  have hfi : (Tn a0 b).2.2.2 = true → meth.name = "<init>" ∧ (Tn a0 b).1 = own := fun hf => by
    refine ⟨hini, ?_⟩
    rcases cl_kind a0 h10 b hbn with z | z
    · exact (ty_ref a0 h10 b hbn z).2.trans hown2.symm
    · rw [z.1] at hf; cases hf
  cases v with
  | int x =>
    simp only [okv, Bool.and_eq_true, decide_eq_true_eq] at ho
    obtain ⟨f1, f2, f3⟩ := (cl_kind a0 h10 b hbn).resolve_left (by omega)
    obtain ⟨g1, g2⟩ := fitF_ok ho.1 ho.2
    exact cw_put (D := (dC, dI)) (ci := a0) (v := .int x) (ty := tyOf (fTy a0 b)) hx hb hts (cl_ws a0 h10) (tyn a0) (cl_ty a0 h10) (cl_nm a0 h10) hown hK hP wblC_D hS r hws (cl_get a0 h10) b hbn (hts _ hw) (fun _ h => h) hfi (by rw [cl_ty a0 h10 b hbn, f2]) g1 g2 (by rw [List.length_map]; exact hl) hd (fun H1 locs1 z1 hP1 hS1 => k H1 locs1 z1 (fin H1 hP1) hS1)
  | ref x =>
    simp only [okv, Bool.and_eq_true, decide_eq_true_eq] at ho
    obtain ⟨t1, t2⟩ := ty_ref a0 h10 b hbn ho.1
    obtain ⟨g1, g2⟩ := nar_ref t1 (β + x)
    have hx4 : (x : Nat) < (410 : Nat) := ho.2
    rw [gv_lo (show (x : Nat) < (1000 : Nat) from Nat.lt_trans hx4 (by decide))] at fin ⊢
    exact cw_put (D := (dC, dI)) (ci := a0) (v := .ref (β + x)) (ty := tyn a0 b) hx hb hts (cl_ws a0 h10) (tyn a0) (cl_ty a0 h10) (cl_nm a0 h10) hown hK hP wblC_D hS r hws (cl_get a0 h10) b hbn (hts _ hw) (fun _ h => h) hfi (cl_ty a0 h10 b hbn) g1 g2 (by rw [List.length_map]; exact hl) hd (fun H1 locs1 z1 hP1 hS1 => k H1 locs1 z1 (fin H1 hP1) hS1)
  | _ => cases ho
end SP33
