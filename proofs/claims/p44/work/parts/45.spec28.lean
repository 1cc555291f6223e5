section SP28
theorem v0_lo {c s : Nat} (h1 : c ≠ 0) (h2 : c < 377) : v0.1 c s = 0 := by
  show (if c = 0 ∧ s = 10 then (-1 : Int32) else _) = 0
  rw [if_neg (by omega), if_neg (by omega), if_neg (by omega), if_neg (by omega), if_neg (by omega), if_neg (by omega)]
theorem WS_v0 : WS v0 0 0 0 0 := by
  refine ⟨⟨by decide, v0_lo (by decide) (by decide), fun i hi => absurd hi (Nat.not_lt_zero i)⟩, ⟨by decide, v0_lo (by decide) (by decide), by decide, v0_lo (by decide) (by decide), fun i hi => absurd hi (Nat.not_lt_zero i), fun i hi => absurd hi (Nat.not_lt_zero i)⟩, ⟨0, by decide, by decide, fun j hj => absurd hj (Nat.not_lt_zero j), fun i j _ hj => absurd hj (Nat.not_lt_zero j), fun k _ => ⟨0, by decide, rfl⟩, fun k _ h => absurd (show v0.1 384 k = 0 from rfl) h, fun k hk h _ => ?_⟩, fun k hk hb => ?_, by decide, by decide, by decide, by decide, by decide, by decide, by decide⟩
  · rw [isB1_iff (by omega), show v0.1 383 0 = 0 from rfl, b_0] at h
    cases h
  · rw [show v0.1 377 1 = 1 from rfl, b_1, decide_eq_true_eq] at hb
    exact Or.inr hb
theorem v0_sb : v0.1 395 1 = 1 ∧ v0.1 395 3 = 0 ∧ v0.1 395 4 = 0 := by decide
/-- the code's cells stay through the draft's calls -/
theorem WS.df {M M1 : Mem} {n s t nw : Nat} (h : WS M n s t nw) (hF : Fr dfB M M1) : WS M1 n s t nw ∧ ∀ s, M1.1 395 s = M.1 395 s := by
  have e : ∀ c s, ¬ (189 ≤ c ∧ c < 377) → M1.1 c s = M.1 c s := fun c s hc => hF.1 c s (by
    unfold dfB
    simp only [Bool.and_eq_false_iff, decide_eq_false_iff_not]
    omega)
  obtain ⟨h1, h2, h3, h4, h5, h6, h7, h8, h9, h10, h11⟩ := h
  refine ⟨⟨⟨h1.1, (e _ _ (by omega)).trans h1.2.1, fun i hi => (h1.2.2 i hi).cg fun s => e _ s (by have := h1.1; omega)⟩, ?_, h3.fr fun c s hc => e c s (by omega), h4.eq (e _ _ (by omega)), (e _ _ (by omega)).trans h5, (e _ _ (by omega)).trans h6, (e _ _ (by omega)).trans h7, (e _ _ (by omega)).trans h8, (e _ _ (by omega)).trans h9, (e _ _ (by omega)).trans h10, (e _ _ (by omega)).trans h11⟩, fun s => e _ s (by omega)⟩
  obtain ⟨g1, g2, g3, g4, g5, g6⟩ := h2
  exact ⟨g1, (e _ _ (by omega)).trans g2, g3, (e _ _ (by omega)).trans g4, fun i hi => by rw [e _ _ (by omega)]; exact g5 i hi, fun i hi k hk hb => by rw [e _ _ (by omega)] at hb; exact g6 i hi k hk hb⟩
end SP28
