section SP34
variable {cA dC : Nat → ClassId} {dI : Nat → Nat → Nat} {p : Program} {l : Launch} {e : Env} {R : Room} {s : State} {m : MethodId} {args : Array Value} {below : List Frame} {meth : Method} {c : Code} {H : Heap} {locs : List Loc} {cells slots : Nat} {Q : State → Prop} {cc : ByteArray} {pc : Nat} {ls : Array Slot} {β : Nat} {ρ : Nat → Value}
theorem rowC_lt : ∀ k, 28 ≤ k → k ≤ 31 → rowC k < 10 := by
  intro k h1 h2
  rcases (by omega : k = 28 ∨ k = 29 ∨ k = 30 ∨ k = 31) with rfl | rfl | rfl | rfl <;> decide
theorem cH_aastore (hx : p.tables.exec = Jvm.exec) (hb : c.code = cc) (hK : va_K (dC, dI) clss (tysl cA) s) {B : CB} (hP : va_P (dC, dI) clss (wblC cA β ρ B) H) (hS : va_S (fun q => β ≤ q) s.heap H locs)
    {r x k : Nat} {j : Int32} {vs fs : List Value} {st : List Value} (hd : decode cc pc = .ok (.aastore, 1)) (hr : r < 1000) (hx4 : x < 1000) (hBr : B[r]? = some (k, vs)) (hBx : B[x]? = some (rowC k, fs)) (hk1 : 28 ≤ k) (hk2 : k ≤ 31) (hj0 : 0 ≤ j) (hj : j.toNatClampNeg < vs.length)
    (kk : ∀ (H' : Heap) (locs' : List Loc), H'.size = H.size → va_P (dC, dI) clss (wblC cA β ρ (B.set r (k, vs.set j.toNatClampNeg (.ref x)))) H' → va_S (fun q => β ≤ q) s.heap H' locs' → W p l e R s m args below meth c H' locs' cells slots Q (F0 m (pc + 1) ls (st.map (gv β ρ)))) :
    W p l e R s m args below meth c H locs cells slots Q (F0 m pc ls ((.ref x :: .int j :: .ref r :: st).map (gv β ρ))) := by
  have hrB : r < B.length := (List.getElem?_eq_some_iff.mp hBr).1
  have h10 := rowC_lt k hk1 hk2
  have ht := tys_get (cA := cA) (k - 26) (by omega)
  rw [if_neg (by omega), if_neg (by omega), show k - 26 + 26 = k by omega] at ht
  rw [List.map_cons, List.map_cons, List.map_cons, gv_lo hx4, gv_lo hr]
  refine cw_astq (D := (dC, dI)) hx hb hK hP wblC_D hS r (k - 26) x (rowC k) (by rw [wblC_get hBr, entC_row (show 28 ≤ k from hk1)]) ht (by rw [wblC_get hBx, entC_obj (show rowC k < 10 from h10)]) (cl_get _ h10) (vin_of ⟨hj0, hj⟩) hd (fun H1 locs1 z1 hP1 hS1 => kk H1 locs1 z1 ?_ hS1)
  have e : va_up (fun i => refO β (vs.getD i .null)) j.toNatClampNeg (some (β + x)) = fun i => refO β ((vs.set j.toNatClampNeg (.ref x)).getD i .null) := by
    funext i
    rw [List.getD_eq_getElem?_getD, List.getElem?_set]
    unfold va_up
    by_cases hi : i = j.toNatClampNeg
    · rw [if_pos hi, if_pos hi.symm, if_pos hj]
      rfl
    · rw [if_neg hi, if_neg (Ne.symm hi)]
      show refO β (vs.getD i .null) = _
      rw [List.getD_eq_getElem?_getD]
  rw [e] at hP1
  rw [← wblC_set hrB, entC_row (show 28 ≤ k from hk1)]
  simp only [List.length_set]
  exact hP1
end SP34
