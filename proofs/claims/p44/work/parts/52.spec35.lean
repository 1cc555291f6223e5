section SP35
theorem sl_set {B : CB} {r : Nat} {e e' : CE} (h : B[r]? = some e) (hl : e'.2.length = e.2.length) : sl (B.set r e') = sl B := by
  unfold sl
  congr 1
  refine List.ext_getElem? fun i => ?_
  rw [List.getElem?_map, List.getElem?_map, List.getElem?_set]
  by_cases hi : r = i
  · subst hi
    have hr : r < B.length := (List.getElem?_eq_some_iff.mp h).1
    rw [if_pos rfl, if_pos hr, h]
    simp only [Option.map_some, hl]
  · rw [if_neg hi]
theorem cH_mono {i : Instr} {a b : Nat} {B B' : CB} {st st' : List Value} (h : cH i a b B st = some (B', st')) : B.length ≤ B'.length ∧ sl B ≤ sl B' := by
  have app : ∀ e : CE, B.length ≤ (B ++ [e]).length ∧ sl B ≤ sl (B ++ [e]) := fun e => ⟨by rw [List.length_append]; exact Nat.le_add_right _ _, by rw [sl_app]; exact Nat.le_add_right _ _⟩
  have put : ∀ (r : Nat) (e e' : CE), B[r]? = some e → e'.2.length = e.2.length → B.length ≤ (B.set r e').length ∧ sl B ≤ sl (B.set r e') := fun r e e' h1 h2 => ⟨by rw [List.length_set]; exact Nat.le_refl _, by rw [sl_set h1 h2]; exact Nat.le_refl _⟩
  unfold cH at h
  split at h
  · split at h
    · cases h; exact app _
    · cases h
  · split at h
    · split at h
      · cases h; exact app _
      · cases h
    · cases h
  · split at h
    · split at h
      · cases h; exact app _
      · cases h
    · cases h
  · split at h
    · split at h
      · rename_i k fs hB
        split at h
        · cases h; exact put _ _ _ hB (by simp)
        · cases h
      · cases h
    · cases h
  · split at h
    · split at h
      · split at h
        · split at h
          · split at h
            · cases h; exact ⟨Nat.le_refl _, Nat.le_refl _⟩
            · cases h
          · cases h
        · cases h
      · cases h
    · cases h
  · split at h
    · split at h
      · rename_i k vs k2 fs hB hx
        rw [Option.ite_none_right_eq_some] at h
        obtain ⟨-, h⟩ := h
        cases h
        exact put _ _ _ hB (by simp)
      · cases h
    · cases h
  · cases h
theorem cloop_mono {nP : Nat → Nat} {cds : Nat → List CR} {call : Nat → List Value → CB → Option CB} (hc : ∀ k As B B', call k As B = some B' → B.length ≤ B'.length ∧ sl B ≤ sl B') {k : Nat} : ∀ (f : Nat) (s : CS) (B' : CB), cloop nP cds call k f s = some B' → s.2.2.2.length ≤ B'.length ∧ sl s.2.2.2 ≤ sl B' := by
  intro f
  induction f with
  | zero => intro s B' h; cases h
  | succ f ih =>
    intro s B' h
    simp only [cloop] at h
    split at h
    · cases h
    · rename_i s' hs
      have h1 := ih s' B' h
      have h2 : s.2.2.2.length ≤ s'.2.2.2.length ∧ sl s.2.2.2 ≤ sl s'.2.2.2 := by
        unfold cstep at hs
        split at hs
        · cases hs
        · split at hs
          · cases hs; exact ⟨Nat.le_refl _, Nat.le_refl _⟩
          · split at hs
            · cases hs; exact ⟨Nat.le_refl _, Nat.le_refl _⟩
            · split at hs
              · cases hs; exact ⟨Nat.le_refl _, Nat.le_refl _⟩
              · split at hs
                · rename_i B st hB
                  cases hs
                  exact cH_mono hB
                · split at hs
                  · split at hs <;> cases hs
                  · simp only [] at hs
                    split at hs
                    · split at hs
                      · split at hs
                        · split at hs <;> cases hs
                        · cases hs
                      · cases hs
                    · cases hs
                  · cases hs
      exact ⟨Nat.le_trans h2.1 h1.1, Nat.le_trans h2.2 h1.2⟩
    · rename_i B hs
      cases h
      unfold cstep at hs
      split at hs
      · cases hs
      · split at hs
        · cases hs
        · split at hs
          · cases hs
          · split at hs
            · cases hs
            · split at hs
              · cases hs
              · split at hs
                · split at hs
                  · cases hs; exact ⟨Nat.le_refl _, Nat.le_refl _⟩
                  · cases hs
                · simp only [] at hs
                  split at hs
                  · split at hs
                    · split at hs
                      · split at hs <;> cases hs
                      · cases hs
                    · cases hs
                  · cases hs
                · cases hs
    · rename_i q hs
      split at h
      · cases h
      · rename_i B hB
        have h1 := ih _ _ h
        have h3 := hc _ _ _ _ hB
        have h2 : q.2.2.2.2.2 = s.2.2.2 := by
          unfold cstep at hs
          split at hs
          · cases hs
          · split at hs
            · cases hs
            · split at hs
              · cases hs
              · split at hs
                · cases hs
                · split at hs
                  · cases hs
                  · split at hs
                    · split at hs <;> cases hs
                    · simp only [] at hs
                      split at hs
                      · split at hs
                        · split at hs
                          · split at hs
                            · cases hs; rfl
                            · cases hs
                          · cases hs
                        · cases hs
                      · cases hs
                    · cases hs
        rw [h2] at h3
        exact ⟨Nat.le_trans h3.1 h1.1, Nat.le_trans h3.2 h1.2⟩
end SP35
