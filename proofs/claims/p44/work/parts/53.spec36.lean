section SP36
theorem crun_mono {nP mL : Nat → Nat} {cds : Nat → List CR} : ∀ (d k : Nat) (As : List Value) (B B' : CB), crun nP mL cds d k As B = some B' → B.length ≤ B'.length ∧ sl B ≤ sl B' := by
  intro d
  induction d with
  | zero => intro k As B B' h; cases h
  | succ d ih =>
    intro k As B B' h
    simp only [crun] at h
    exact cloop_mono (fun k As B B' hh => ih k As B B' hh) _ _ _ h
theorem finB_len : finB.length = 410 := by
  unfold finB
  rw [List.length_map, List.length_range]
/-- a step, by its kind -/
theorem cstep_spec {nP : Nat → Nat} {cds : Nat → List CR} {k : Nat} {s : CS} {z : CS ⊕ (CB ⊕ (Nat × List Value × CS))} (h : cstep nP cds k s = some z) : ∃ i a b, fet (cds k) s.1 = some (i, a, b) ∧
    ((∃ st, opS i s.2.2.1 = some st ∧ z = .inl (s.1 + ilen i, s.2.1, st, s.2.2.2)) ∨ (∃ L st, opL i s.2.1 s.2.2.1 = some (L, st) ∧ z = .inl (s.1 + ilen i, L, st, s.2.2.2)) ∨ (∃ pc st, opB i s.1 s.2.2.1 = some (pc, st) ∧ z = .inl (pc, s.2.1, st, s.2.2.2)) ∨
    (∃ B st, cH i a b s.2.2.2 s.2.2.1 = some (B, st) ∧ z = .inl (s.1 + (match i with | .newarray _ => 2 | .anewarray _ => 3 | .aastore => 1 | _ => 3), s.2.1, st, B)) ∨ (i = .return_ ∧ s.2.2.1 = [] ∧ z = .inr (.inl s.2.2.2)) ∨
    (∃ ix r t As k2 fs, i = .invokespecial ix ∧ (b = 1 ∨ b = 2) ∧ As.length = nP a ∧ s.2.2.1 = As.reverse ++ .ref r :: t ∧ s.2.2.2[r]? = some (k2, fs) ∧ (k2 = a ∨ a = 10) ∧ catS t ≤ 8 ∧ As.all (fun v => v.category == 1) = true ∧ z = .inr (.inr (a, .ref r :: As, (s.1 + 3, s.2.1, t, s.2.2.2))))) := by
  unfold cstep at h
  split at h
  · cases h
  · rename_i i a b hf
    refine ⟨i, a, b, hf, ?_⟩
    split at h
    · rename_i st h1
      cases h
      exact Or.inl ⟨st, h1, rfl⟩
    · split at h
      · rename_i L st h1
        cases h
        exact Or.inr (Or.inl ⟨L, st, h1, rfl⟩)
      · split at h
        · rename_i pc st h1
          cases h
          exact Or.inr (Or.inr (Or.inl ⟨pc, st, h1, rfl⟩))
        · split at h
          · rename_i B st h1
            cases h
            exact Or.inr (Or.inr (Or.inr (Or.inl ⟨B, st, h1, rfl⟩)))
          · split at h
            · split at h
              · rename_i h1
                cases h
                exact Or.inr (Or.inr (Or.inr (Or.inr (Or.inl ⟨rfl, h1, rfl⟩))))
              · cases h
            · skip
              simp only [] at h
              rw [Option.ite_none_right_eq_some] at h
              obtain ⟨⟨h1, h2⟩, h⟩ := h
              split at h
              · rename_i r t h3
                split at h
                · rename_i k2 fs h4
                  rw [Option.ite_none_right_eq_some] at h
                  obtain ⟨⟨h5, h6, h7⟩, h⟩ := h
                  cases h
                  refine Or.inr (Or.inr (Or.inr (Or.inr (Or.inr ⟨_, r, t, (s.2.2.1.take (nP a)).reverse, k2, fs, rfl, h2, h1, ?_, h4, h5, h6, h7, rfl⟩))))
                  rw [List.reverse_reverse, ← h3, List.take_append_drop]
                · cases h
              · cases h
            · cases h
end SP36
