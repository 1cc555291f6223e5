section SP31
theorem arrV_cg {cA : ClassId} {n : Nat} {f g : Nat → Value} (h : ∀ i, i < n → f i = g i) : arrV cA n f = arrV cA n g := by
  unfold arrV
  congr 1
  refine Array.ext (by simp) fun i h1 h2 => ?_
  simp at h1 ⊢
  exact h i h1
variable {cA dC : Nat → ClassId} {dI : Nat → Nat → Nat} {sz0 bS Lx : Nat} {xs : Nat → Int32} {adK adV : Nat → Nat} {w9 : Value} {l : Launch}
variable {p : Program} {e : Env} {R : Room} {s : State} {m : MethodId} {args : Array Value} {below : List Frame} {meth : Method} {c : Code} {H : Heap} {locs : List Loc} {cells slots : Nat} {Q : State → Prop} {cc : ByteArray} {pc : Nat} {ls : Array Slot} {β : Nat} {ρ : Nat → Value}
/-- a cell made so far, as the kit's worlds have it -/
def refO (β : Nat) (v : Value) : Option Nat := match v with
  | .ref x => some (β + x)
  | _ => none
def entC (cA : Nat → ClassId) (β : Nat) (ρ : Nat → Value) (e : CE) : va_E := if e.1 < 10 then .inr (e.1, e.2.map (gv β ρ)) else if e.1 ≤ 25 then .inl (cA 0, e.2.length, .inl (fun _ => 0)) else if e.1 ≤ 27 then .inl (cA 1, e.2.length, .inl (fun _ => 0)) else .inl (cA (e.1 - 26), e.2.length, .inr (.inr (.inr (.inr (fun i => refO β (e.2.getD i .null))))))
def wblC (cA : Nat → ClassId) (β : Nat) (ρ : Nat → Value) (B : CB) : va_W := B.mapIdx (fun i e => (β + i, entC cA β ρ e))
theorem wblC_app {B : CB} {e : CE} : wblC cA β ρ (B ++ [e]) = wblC cA β ρ B ++ [(β + B.length, entC cA β ρ e)] := by
  unfold wblC
  rw [List.mapIdx_append]
  simp
theorem wblC_get {B : CB} {r : Nat} {e : CE} (h : B[r]? = some e) : (wblC cA β ρ B)[r]? = some (β + r, entC cA β ρ e) := by
  unfold wblC
  rw [List.getElem?_mapIdx, h]
  rfl
theorem wblC_ix {B : CB} {i : Nat} {q : Nat × va_E} (h : (wblC cA β ρ B)[i]? = some q) : ∃ e, B[i]? = some e ∧ q = (β + i, entC cA β ρ e) := by
  unfold wblC at h
  rw [List.getElem?_mapIdx, Option.map_eq_some_iff] at h
  obtain ⟨e, h1, h2⟩ := h
  exact ⟨e, h1, h2.symm⟩
theorem wblC_set {B : CB} {r : Nat} {e : CE} (h : r < B.length) : (wblC cA β ρ B).set r (β + r, entC cA β ρ e) = wblC cA β ρ (B.set r e) := by
  refine List.ext_getElem? fun i => ?_
  unfold wblC
  rw [List.getElem?_mapIdx, List.getElem?_set, List.getElem?_set]
  by_cases hi : r = i
  · subst hi
    rw [if_pos rfl, if_pos rfl, List.length_mapIdx, if_pos h, if_pos h]
    rfl
  · rw [if_neg hi, if_neg hi, List.getElem?_mapIdx]
theorem wblC_D {B : CB} : va_D (fun q => β ≤ q) (wblC cA β ρ B) := by
  refine ⟨fun i j p q hi hj h => ?_, fun k q hk => ?_⟩
  · obtain ⟨e1, -, rfl⟩ := wblC_ix hi
    obtain ⟨e2, -, rfl⟩ := wblC_ix hj
    simp only [] at h
    omega
  · obtain ⟨e1, -, rfl⟩ := wblC_ix hk
    exact Nat.le_add_right _ _
theorem entC_obj {e : CE} (h : e.1 < 10) : entC cA β ρ e = .inr (e.1, e.2.map (gv β ρ)) := if_pos h
theorem entC_row {e : CE} (h : 28 ≤ e.1) : entC cA β ρ e = .inl (cA (e.1 - 26), e.2.length, .inr (.inr (.inr (.inr (fun i => refO β (e.2.getD i .null)))))) := by
  unfold entC
  rw [if_neg (by omega), if_neg (by omega), if_neg (by omega)]
theorem hk_kd : ∀ c, c < 410 → kdAll c < 10 ∨ (20 ≤ kdAll c ∧ kdAll c ≤ 31) := by decide +kernel
theorem v0_z {c : Nat} (hc : c < 410) (hk : ¬ kdAll c < 10) (s : Nat) : v0.1 c s = 0 := by
  have hn : ∀ c, c < 410 → ¬ kdAll c < 10 → c ≠ 0 ∧ c ≠ 377 ∧ c ≠ 386 ∧ c ≠ 396 ∧ c ≠ 395 ∧ c ≠ 405 ∧ c ≠ 408 ∧ c ≠ 409 := by decide +kernel
  have := hn c hc hk
  show (if c = 0 ∧ s = 10 then (-1 : Int32) else _) = 0
  rw [if_neg (by omega), if_neg (by omega), if_neg (by omega), if_neg (by omega), if_neg (by omega), if_neg (by omega)]
/-- in the end a cell is as the small machine has it -/
theorem ent_fin {c : Nat} (hc : c < 410) (h28 : kdAll c < 28) : entC cA β ρ (finE c) = entA cA β ρ v0 c (kdAll c) := by
  unfold finE
  by_cases h1 : kdAll c < 10
  · rw [if_pos h1, ent_obj h1, entC_obj h1]
    simp only [List.map_map]
    rfl
  · rw [if_neg h1]
    have h2 := (hk_kd c hc).resolve_left h1
    have h3 : kdAll c ≤ 27 := by omega
    rw [if_pos h3]
    unfold entC
    rw [if_neg (by simpa using h1)]
    have hf : (fun _ => 0 : Nat → Int32) = v0.1 c := funext fun s => (v0_z hc h1 s).symm
    by_cases h4 : kdAll c ≤ 25
    · rw [if_pos h4, ent_int h2.1 h4, hf, List.length_replicate]
    · rw [if_neg h4, if_pos h3, ent_chr (by omega) h3, hf, List.length_replicate]
theorem fin_P {D : va_G} {cl : List vw_C} (h : va_P D cl (wblC cA β ρ finB) H) : va_P D cl (wblk cA β ρ v0) H := by
  intro k q hq
  obtain ⟨hc, rfl⟩ := wblk_ix hq
  have hB : finB[k]? = some (finE k) := by
    unfold finB
    rw [List.getElem?_map, List.getElem?_range hc]
    rfl
  have h1 := h k _ (wblC_get hB)
  by_cases h28 : kdAll k < 28
  · rw [ent_fin hc h28] at h1
    exact h1
  · have h2 := (hk_kd k hc).resolve_left (by omega)
    have e : finE k = (kdAll k, (List.range (aLen (kdAll k))).map fun i => .ref (k + aOff (kdAll k) i)) := by
      unfold finE
      rw [if_neg (by omega), if_neg (by omega)]
    rw [e, entC_row (by show 28 ≤ kdAll k; omega)] at h1
    rw [ent_row (by omega) h2.2]
    simp only [va_at, List.length_map, List.length_range] at h1 ⊢
    rw [h1, vp_cell_q, vp_cell_q]
    congr 1
    refine arrV_cg fun i hi => ?_
    rw [List.getD_eq_getElem?_getD, List.getElem?_map, List.getElem?_range hi]
    rfl
end SP31
