section SP26
variable {G : MG} {d : Nat} {M M' : Mem}
theorem deed5_ok (hA : All G) {s : Nat} (hW : WS M 0 0 0 0) (hD : DI M s) (b1 : M.1 395 1 = 1) (b3 : M.1 395 3 = 0) (b4 : M.1 395 4 = 0) : DA G (d + 7) [.ref 0, .int 5, .int 0, .int 0, .int 0, .int 0, .int 0, .int 0] M (fun M' => ∃ n s t, WS M' n s t 0 ∧ M'.1 395 1 = 1 ∧ M'.1 395 3 = 0 ∧ M'.1 395 4 = 0) := by
  have hG := hA.core
  rcases (takeOver_any (d := d) hA hW hD b1 b3 b4).cases with ⟨x, M', hR, hP⟩ | ⟨x, M', hx, hR, hP⟩
  · exact ⟨x, M', 0, by omega, deed_ret (plain5_r hG 0 0 0 0 0 0 hR), hP⟩
  · exact ⟨_, M', 1, by omega, deed_thr hx (plain5_t hG 0 0 0 0 0 0 hR), hP⟩
theorem deed8_ok (hG : Core G) {t : Nat} (ht : t < 2) (p : Int32) (hp : 0 ≤ p ∧ p ≤ 100) : ∃ x, RetC G (d + 5) 200 [.ref 0, .int 8, .int (nI t), .int p, .int 0, .int 0, .int 0, .int 0] M (some (.int x)) (pI M (408 + t) 0 p) 0 := by
  rcases (by omega : t = 0 ∨ t = 1) with rfl | rfl
  · obtain ⟨v, M', hR, ⟨x, rfl⟩, rfl⟩ := setPeriod0_ok (d := d) (M := M) hG p hp
    exact ⟨x, deed_ret (plain8_r hG 0 p 0 0 0 0 hR)⟩
  · obtain ⟨v, M', hR, ⟨x, rfl⟩, rfl⟩ := setPeriod1_ok (d := d) (M := M) hG p hp
    exact ⟨x, deed_ret (plain8_r hG 1 p 0 0 0 0 hR)⟩
theorem deed10_ok (hG : Core G) : ∃ x, RetC G (d + 5) 200 [.ref 0, .int 10, .int 0, .int 1, .int 0, .int 0, .int 0, .int 0] M (some (.int x)) (pI M 408 1 1) 0 := by
  obtain ⟨v, M', hR, ⟨x, rfl⟩, rfl⟩ := setWatch1_ok (d := d) (M := M) hG
  exact ⟨x, deed_ret (plain10_r hG 0 1 0 0 0 0 hR)⟩
/-- a pass by the catching method: one core, whatever the standby beside it -/
theorem deed13_ok (hA : All G) {n s tr u nw : Nat} (hu0 : 0 < u) (hu : u ≤ 200) (hn : nw + u ≤ 99999) (hW : WS M n s tr nw) : ∃ Mc, WS Mc n s tr (nw + u) ∧ Fr uB M Mc ∧ ∀ U, sbk M U → ∃ U', sbk Mc U' ∧ U'.1 395 1 = U.1 395 1 ∧ U'.1 395 4 = 0 ∧ (M.1 408 0 = 1 → U.1 395 1 = 1 → got Mc U') ∧ RetC G (d + 9) 200 [.ref 0, .int 13, .int (nI u), .int 0, .int 0, .int 0, .int 0, .int 0] (mx M U) (some (.int (nI (nw + u)))) (mx Mc U') 0 := by
  obtain ⟨Mc, a1, a2, h⟩ := pass_ok (d := d) hA hu0 hu hn hW
  refine ⟨Mc, a1, a2, fun U hU => ?_⟩
  obtain ⟨U', b1, b2, b3, b4, hR⟩ := h U hU
  exact ⟨U', b1, b2, b3, b4, deed_ret (plain13_r hA.core (nI u) 0 0 0 0 0 hR)⟩
/-- a period set: the state between calls stays as it was -/
theorem WS.per {n s t nw : Nat} (h : WS M n s t nw) {k : Nat} (hk : k < 2) {p : Int32} : WS (pI M (408 + k) 0 p) n s t nw := by
  refine h.se (Fr.rf.pI ?_) (h.ai.pI (by omega))
  rcases (by omega : k = 0 ∨ k = 1) with rfl | rfl <;> rfl
/-- with watch 1 and both periods set, a state between calls is one for WD -/
theorem WS.wd {n s t nw : Nat} (h : WS M n s t nw) (b1 : M.1 395 1 = 1) (b3 : M.1 395 3 = 0) (b4 : M.1 395 4 = 0) (p0 : M.1 408 0 = 1) (p1 : M.1 409 0 = 0) : WD (pI M 408 1 1) n s t nw := by
  obtain ⟨h1, h2, h3, h4, h5, h6, h7, h8, h9, h10, h11⟩ := h
  have e : ∀ c s, (c ≠ 408 ∨ s ≠ 1) → (pI M 408 1 1).1 c s = M.1 c s := fun c s hc => pI_ne hc
  refine ⟨⟨h1.1, (e _ _ (by omega)).trans h1.2.1, fun i hi => (h1.2.2 i hi).cg fun s => e _ s (by have := h1.1; omega)⟩, ?_, h3.pI (by omega), h4.eq (e _ _ (by omega)), (e _ _ (by omega)).trans h5, pI_at, (e _ _ (by omega)).trans p0, (e _ _ (by omega)).trans p1, (e _ _ (by omega)).trans h11, (e _ _ (by omega)).trans b1, (e _ _ (by omega)).trans b3, (e _ _ (by omega)).trans b4⟩
  obtain ⟨g1, g2, g3, g4, g5, g6⟩ := h2
  exact ⟨g1, (e _ _ (by omega)).trans g2, g3, (e _ _ (by omega)).trans g4, fun i hi => by rw [e _ _ (by omega)]; exact g5 i hi, fun i hi k hk hb => by rw [e _ _ (by omega)] at hb; exact g6 i hi k hk hb⟩
/-- what the law calls between the takeover and the end, on the core: any standby beside it -/
theorem happens_mx (hA : All G) (hL : G.2.2 < 2 ^ 31) {n s t nw i : Nat} (hW : WS M n s t nw) (hi : i < 10000) : ∃ M', WS M' n s t nw ∧ Fr seB M M' ∧ ∀ U, Ret G (d + 6) 126 [.ref 0, .ref 1000, .int (nI i)] (mx M U) none (mx M' U) := by
  obtain ⟨v, M', hR, rfl, h1, h2⟩ := happens_ok (G := Gc G) (d := d) (gc_core hA.core) hL hW hi
  exact ⟨M', h1, h2, fun U => hR.mx U⟩
theorem all_mx (hA : All G) {n s t nw : Nat} (hW : WS M n s t nw) : ∃ x c, c ≤ 12 ∧ ∀ U, RetC G (d + 7) 124 [.ref 0] (mx M U) (some (.long x)) (mx M U) c := by
  have hAI := hW.ai
  obtain ⟨m, hm⟩ := hAI
  obtain ⟨v, M', c, hR, hM, hc, x, rfl⟩ := all_ok (G := Gc G) (d := d) (gc_core hA.core) hm.1 hm.2.1 (Or.inl hW.2.2.2.2.2.1)
  rw [hM] at hR
  exact ⟨x, c, hc, fun U => hR.mx U⟩
theorem isWhole_mx (hA : All G) {n s t nw : Nat} (hW : WS M n s t nw) : ∃ c, c ≤ 1 ∧ ∀ U, RetC G (d + 7) 125 [.ref 0] (mx M U) (some (.int 1)) (mx M U) c := by
  obtain ⟨v, M', c, hR, hM, hc, rfl⟩ := isWhole_ok (G := Gc G) (d := d) (gc_core hA.core) hW
  rw [hM] at hR
  exact ⟨c, hc, fun U => hR.mx U⟩
end SP26
