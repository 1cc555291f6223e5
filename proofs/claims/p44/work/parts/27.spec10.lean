section SP10
/-- the standby's cells from U, all else from M -/
def mx (M U : Mem) : Mem := (fun c s => if 395 ≤ c ∧ c < 405 then U.1 c s else M.1 c s, fun c => if 395 ≤ c ∧ c < 405 then U.2 c else M.2 c)
/-- nobody may touch the standby's cells -/
def Gc (G : MG) : MG := (fun c => if 395 ≤ c ∧ c < 405 then 777 else G.1 c, G.2)
theorem mx_out {M U : Mem} {c s : Nat} (h : ¬ (395 ≤ c ∧ c < 405)) : (mx M U).1 c s = M.1 c s := if_neg h
theorem mx_in {M U : Mem} {c s : Nat} (h : 395 ≤ c ∧ c < 405) : (mx M U).1 c s = U.1 c s := if_pos h
theorem mx_outL {M U : Mem} {c : Nat} (h : ¬ (395 ≤ c ∧ c < 405)) : (mx M U).2 c = M.2 c := if_neg h
theorem mx_inL {M U : Mem} {c : Nat} (h : 395 ≤ c ∧ c < 405) : (mx M U).2 c = U.2 c := if_pos h
theorem mx_self {M : Mem} : mx M M = M := by
  refine Prod.ext ?_ ?_
  · funext c s
    by_cases h : 395 ≤ c ∧ c < 405
    · exact mx_in h
    · exact mx_out h
  · funext c
    by_cases h : 395 ≤ c ∧ c < 405
    · exact mx_inL h
    · exact mx_outL h
theorem mx_ext {M U N : Mem} (h1 : ∀ c s, ¬ (395 ≤ c ∧ c < 405) → N.1 c s = M.1 c s) (h2 : ∀ c, ¬ (395 ≤ c ∧ c < 405) → N.2 c = M.2 c) (h3 : ∀ c s, 395 ≤ c ∧ c < 405 → N.1 c s = U.1 c s) (h4 : ∀ c, 395 ≤ c ∧ c < 405 → N.2 c = U.2 c) : N = mx M U := by
  refine Prod.ext ?_ ?_
  · funext c s
    by_cases h : 395 ≤ c ∧ c < 405
    · exact (h3 c s h).trans (mx_in h).symm
    · exact (h1 c s h).trans (mx_out h).symm
  · funext c
    by_cases h : 395 ≤ c ∧ c < 405
    · exact (h4 c h).trans (mx_inL h).symm
    · exact (h2 c h).trans (mx_outL h).symm
theorem mx_pI {M U : Mem} {r k : Nat} {x : Int32} (h : ¬ (395 ≤ r ∧ r < 405)) : pI (mx M U) r k x = mx (pI M r k x) U := by
  refine mx_ext (fun c s hc => ?_) (fun c hc => mx_outL hc) (fun c s hc => ?_) (fun c hc => mx_inL hc)
  · by_cases e : c = r ∧ s = k
    · obtain ⟨rfl, rfl⟩ := e
      exact pI_at.trans pI_at.symm
    · rw [pI_ne (by omega), pI_ne (by omega), mx_out hc]
  · rw [pI_ne (by omega), mx_in hc]
theorem mx_pL {M U : Mem} {r : Nat} {x : Int64} (h : ¬ (395 ≤ r ∧ r < 405)) : pL (mx M U) r x = mx (pL M r x) U := by
  refine mx_ext (fun c s hc => mx_out hc) (fun c hc => ?_) (fun c s hc => mx_in hc) (fun c hc => ?_)
  · by_cases e : c = r
    · subst e
      exact pL_at.trans pL_at.symm
    · rw [pL_ne e, pL_ne e, mx_outL hc]
  · rw [pL_ne (by omega), mx_inL hc]
theorem mx_pA {M U : Mem} {r : Nat} {f : Nat → Int32} (h : ¬ (395 ≤ r ∧ r < 405)) : pA (mx M U) r f = mx (pA M r f) U := by
  refine mx_ext (fun c s hc => ?_) (fun c hc => mx_outL hc) (fun c s hc => ?_) (fun c hc => mx_inL hc)
  · by_cases e : c = r
    · subst e
      exact pA_at.trans pA_at.symm
    · rw [pA_ne e, pA_ne e, mx_out hc]
  · rw [pA_ne (by omega), mx_in hc]
theorem mx_pI2 {M U : Mem} {r k : Nat} {x : Int32} (h : 395 ≤ r ∧ r < 405) : pI (mx M U) r k x = mx M (pI U r k x) := by
  refine mx_ext (fun c s hc => ?_) (fun c hc => mx_outL hc) (fun c s hc => ?_) (fun c hc => mx_inL hc)
  · rw [pI_ne (by omega), mx_out hc]
  · by_cases e : c = r ∧ s = k
    · obtain ⟨rfl, rfl⟩ := e
      exact pI_at.trans pI_at.symm
    · rw [pI_ne (by omega), pI_ne (by omega), mx_in hc]
theorem mx_mx {M U V : Mem} : mx (mx M U) V = mx M V := by
  refine mx_ext (fun c s hc => ?_) (fun c hc => ?_) (fun c s hc => mx_in hc) (fun c hc => mx_inL hc)
  · rw [mx_out hc, mx_out hc]
  · rw [mx_outL hc, mx_outL hc]
section MIX
variable {G : MG} {U : Mem}
theorem gc_o {r a : Nat} (ha : a ≠ 777) (h : okO (Gc G) r a) : okO G r a ∧ ¬ (395 ≤ r ∧ r < 405) := by
  obtain ⟨h1, h2⟩ := h
  by_cases hr : 395 ≤ r ∧ r < 405
  · exact absurd (h1.symm.trans (if_pos hr)) ha
  · exact ⟨⟨(if_neg hr).symm.trans h1, h2⟩, hr⟩
theorem gc_r {r lo hi : Nat} (hh : hi < 777) (h : okR (Gc G) r lo hi) : okR G r lo hi ∧ ¬ (395 ≤ r ∧ r < 405) ∧ (Gc G).1 r = G.1 r := by
  obtain ⟨h0, h1, h2⟩ := h
  by_cases hr : 395 ≤ r ∧ r < 405
  · rw [show (Gc G).1 r = 777 from if_pos hr] at h1
    omega
  · have e : (Gc G).1 r = G.1 r := if_neg hr
    rw [e] at h0 h1
    exact ⟨⟨h0, h1, h2⟩, hr, e⟩
theorem fval_mx {M : Mem} {r a b : Nat} (h : ¬ (395 ≤ r ∧ r < 405)) : fval (mx M U) r a b = fval M r a b := by
  unfold fval
  rw [mx_outL h, mx_out h]
theorem opH_mx {i : Instr} {a b : Nat} {M M' : Mem} {st st' : List Value} (ha : a ≠ 777) (h : opH (Gc G) i a b M st = some (M', st')) : opH G i a b (mx M U) st = some (mx M' U, st') := by
  unfold opH at h
  split at h
  · split at h
    · simp only [opH]
      split at h
      · rename_i h2
        rw [if_pos h2]
        split at h
        · rename_i h3
          rw [if_pos h3]
          split at h
          · rename_i h4
            rw [if_pos h4]; cases h; rfl
          · rename_i h4
            rw [if_neg h4]; cases h; rfl
        · cases h
      · rename_i h2
        rw [if_neg h2]
        split at h
        · rename_i h3
          obtain ⟨q1, q2⟩ := gc_o ha h3
          rw [if_pos q1]; cases h
          rw [fval_mx q2]
        · cases h
    · cases h
  · split at h
    · simp only [opH]
      split at h
      · rename_i h2
        obtain ⟨q1, q2⟩ := gc_o ha h2.1
        rw [if_pos ⟨q1, h2.2⟩]; cases h
        rw [mx_pI q2]
      · cases h
    · simp only [opH]
      split at h
      · rename_i h2
        obtain ⟨q1, q2⟩ := gc_o ha h2.1
        rw [if_pos ⟨q1, h2.2⟩]; cases h
        rw [mx_pL q2]
      · cases h
    · cases h
  · split at h
    · simp only [opH]
      split at h
      · rename_i h2
        obtain ⟨q1, q2, q3⟩ := gc_r (by decide) h2.1
        rw [if_pos ⟨q1, by have := h2.2; rw [q3] at this; exact this⟩]; cases h
        rw [q3]
      · cases h
    · cases h
  · split at h
    · simp only [opH]
      split at h
      · rename_i h2
        rw [if_pos h2]
        split at h
        · rename_i h3
          rw [if_pos (show okX _ G.2.2 from h3)]; cases h; rfl
        · cases h
      · rename_i h2
        rw [if_neg h2]
        split at h
        · rename_i h3
          obtain ⟨q1, q2, q3⟩ := gc_r (by decide) h3.1
          rw [if_pos ⟨q1, by have := h3.2; rw [q3] at this; exact this⟩]; cases h
          rw [mx_out q2]
        · cases h
    · cases h
  · split at h
    · simp only [opH]
      split at h
      · rename_i h3
        obtain ⟨q1, q2, q3⟩ := gc_r (by decide) h3.1
        rw [if_pos ⟨q1, by have := h3.2; rw [q3] at this; exact this⟩]; cases h
        rw [mx_out q2]
      · cases h
    · cases h
  · split at h
    · simp only [opH]
      split at h
      · rename_i h3
        rw [if_pos h3]; cases h; rfl
      · cases h
    · cases h
  · split at h
    · simp only [opH]
      split at h
      · rename_i h3
        obtain ⟨q1, q2, q3⟩ := gc_r (by decide) h3.1
        rw [if_pos ⟨q1, by have := h3.2; rw [q3] at this; exact this⟩]; cases h
        rw [mx_pI q2]
      · cases h
    · cases h
  · split at h
    · simp only [opH]
      split at h
      · rename_i h3
        obtain ⟨q1, q2, q3⟩ := gc_r (by decide) h3.1
        rw [if_pos ⟨q1, by have := h3.2; rw [q3] at this; exact this⟩]; cases h
        rw [mx_pI q2]
      · cases h
    · cases h
  · split at h
    · simp only [opH]
      split at h
      · rename_i h3
        rw [if_pos h3]; cases h; rfl
      · rename_i h3
        rw [if_neg h3]
        split at h
        · rename_i h4
          rw [if_pos h4]; cases h; rfl
        · cases h
    · cases h
  · simp only [opH]
    split at h
    · rename_i h3
      rw [if_pos h3]; cases h; rfl
    · rename_i h3
      rw [if_neg h3]
      split at h
      · rename_i h4
        rw [if_pos h4]; cases h; rfl
      · cases h
  · simp only [opH]
    split at h
    · rename_i h3
      rw [if_pos h3]; cases h; rfl
    · rename_i h3
      rw [if_neg h3]; cases h; rfl
  · simp only [opH]
    split at h
    · rename_i h3
      rw [if_pos h3]; cases h; rfl
    · rename_i h3
      rw [if_neg h3]; cases h; rfl
  · simp only [opH]
    split at h
    · rename_i h3
      rw [if_pos h3]
      split at h
      · split at h
        · rename_i h4
          rw [if_pos h4]; cases h; rfl
        · cases h
      · cases h
    · rename_i h3
      rw [if_neg h3]
      split at h
      · rename_i h4
        rw [if_pos h4]
        split at h
        · split at h
          · rename_i h5
            rw [if_pos h5]; cases h; rfl
          · cases h
        · cases h
      · rename_i h4
        rw [if_neg h4]
        split at h
        · rename_i h5
          rw [if_pos h5]
          split at h
          · split at h
            · rename_i h6
              obtain ⟨a1, a2, a3, a4, a5, a6⟩ := h6
              obtain ⟨q1, q2, q3⟩ := gc_r (by decide) a1
              obtain ⟨r1, r2, r3⟩ := gc_r (by decide) a2
              rw [q3] at a4
              rw [r3] at a5
              rw [if_pos ⟨q1, r1, a3, a4, a5, a6⟩]; cases h
              rw [mx_pA r2, show (mx M U).1 _ = M.1 _ from funext fun s => mx_out q2, show (mx M U).1 _ = M.1 _ from funext fun s => mx_out r2]
            · cases h
          · cases h
        · cases h
  · cases h
theorem opC_opH {G' : MG} {mds : Nat → MD} {md : MD} {i : Instr} {a b : Nat} {s : AS} {z : Res ⊕ (Nat × List Value × AS)} (h : opC G' mds md i a b s = some z) (M : Mem) (st : List Value) : opH G i a b M st = none := by
  unfold opC at h
  split at h
  · rfl
  · rfl
  · rfl
  · rfl
  · rfl
  · split at h
    · split at h
      · rename_i h2
        simp only [opH]
        rw [if_neg (by omega), if_neg (by omega), if_neg (by omega)]
      · cases h
    · cases h
  · cases h
theorem rc_mx {c r : Nat} (hc : c ≠ 777) (h : recvOk (Gc G) c r = true) : recvOk G c r = true := by
  unfold recvOk at h ⊢
  split at h
  · rename_i h1
    rw [if_pos h1]; exact h
  · rename_i h1
    rw [if_neg h1]
    have h2 := of_decide_eq_true h
    have h3 : okO (Gc G) r c := h2
    exact decide_eq_true (gc_o hc h3).1
theorem cut_mx {md : MD} {st : List Value} {x : List Value × List Value} (hc : md.2.2.2 ≠ 777) (h : cut (Gc G) md st = some x) : cut G md st = some x := by
  simp only [cut] at h ⊢
  split at h
  · rename_i h1
    rw [if_pos h1]
    split at h
    · rename_i h2
      rw [if_pos h2]; exact h
    · rename_i h2
      rw [if_neg h2]
      split at h
      · rename_i h3
        split at h
        · rename_i h4
          rw [if_pos (rc_mx hc h4)]; exact h
        · cases h
      · cases h
  · cases h
def smx (U : Mem) (s : AS) : AS := (s.1, s.2.1, s.2.2.1, mx s.2.2.2.1 U, s.2.2.2.2)
def rmx (U : Mem) (r : Res) : Res := (r.1, mx r.2.1 U, r.2.2)
def zmx (U : Mem) (z : Res ⊕ (Nat × List Value × AS)) : Res ⊕ (Nat × List Value × AS) := match z with
  | .inl r => .inl (rmx U r)
  | .inr q => .inr (q.1, q.2.1, smx U q.2.2)
def ymx (U : Mem) (z : AS ⊕ (Res ⊕ (Nat × List Value × AS))) : AS ⊕ (Res ⊕ (Nat × List Value × AS)) := match z with
  | .inl s => .inl (smx U s)
  | .inr q => .inr (zmx U q)
theorem all_a : (ML.all fun m => (m.2.2.2.all fun e => e.2.2.1 != 777) && (m.2.2.1.2.2.2 != 777)) = true := by decide +kernel
theorem ml_in (k : Nat) : ML.getD k mlD ∈ ML ∨ ML.getD k mlD = mlD := by
  unfold List.getD
  cases h : ML[k]? with
  | none => exact Or.inr rfl
  | some x => exact Or.inl (List.mem_of_getElem? h)
theorem fet_a {k pc : Nat} {i : Instr} {a b : Nat} (h : fet (cdT k) pc = some (i, a, b)) : a ≠ 777 := by
  unfold fet at h
  obtain ⟨e, he, hx⟩ := Option.map_eq_some_iff.mp h
  have hm := List.mem_of_find?_eq_some he
  have hz : e.2.2.1 ≠ 777 := by
    unfold cdT at hm
    rcases ml_in k with hk | hk
    · have := List.all_eq_true.mp all_a _ hk
      rw [Bool.and_eq_true] at this
      have := List.all_eq_true.mp this.1 _ hm
      exact bne_iff_ne.mp this
    · rw [hk] at hm
      cases hm
  rw [hx] at hz
  exact hz
theorem md_a (k : Nat) : (mdT k).2.2.2 ≠ 777 := by
  unfold mdT
  split
  · decide
  · rcases ml_in k with hk | hk
    · have := List.all_eq_true.mp all_a _ hk
      rw [Bool.and_eq_true] at this
      exact bne_iff_ne.mp this.2
    · rw [hk]
      decide
theorem opC_mx {md : MD} {i : Instr} {a b : Nat} {s : AS} {z : Res ⊕ (Nat × List Value × AS)} (h : opC (Gc G) mdT md i a b s = some z) : opC G mdT md i a b (smx U s) = some (zmx U z) := by
  unfold opC at h
  split at h
  · split at h
    · rename_i h1
      split at h
      · rename_i h2
        simp only [opC, smx, h1]
        rw [if_pos h2]; cases h; rfl
      · cases h
    · cases h
  · split at h
    · rename_i h1
      split at h
      · rename_i h2
        simp only [opC, smx, h1]
        rw [if_pos h2]; cases h; rfl
      · cases h
    · cases h
  · split at h
    · rename_i h1
      split at h
      · rename_i h2
        simp only [opC, smx, h1]
        rw [if_pos h2]; cases h; rfl
      · cases h
    · cases h
  · split at h
    · rename_i h1
      split at h
      · rename_i h2
        simp only [opC, smx, h1]
        rw [if_pos h2]; cases h; rfl
      · cases h
    · cases h
  · split at h
    · rename_i h1
      split at h
      · rename_i h2
        simp only [opC, smx, cut_mx (md_a _) h1]
        rw [if_pos h2]; cases h; rfl
      · cases h
    · cases h
  · split at h
    · rename_i h1
      split at h
      · rename_i h2
        simp only [opC, smx, cut_mx (md_a _) h1]
        rw [if_pos h2]; cases h; rfl
      · cases h
    · cases h
  · cases h
theorem step_mx {k : Nat} {s : AS} {z : AS ⊕ (Res ⊕ (Nat × List Value × AS))} (h : stepf (Gc G) mdT cdT k s = some z) : stepf G mdT cdT k (smx U s) = some (ymx U z) := by
  unfold stepf at h ⊢
  show (match fet (cdT k) s.1 with | some (i, a, b) => stepi G mdT (mdT k) i a b (smx U s) | none => none) = _
  cases hf : fet (cdT k) s.1 with
  | none => rw [hf] at h; cases h
  | some e =>
    obtain ⟨i, a, b⟩ := e
    rw [hf] at h
    simp only [] at h ⊢
    unfold stepi at h ⊢
    show (match opS i s.2.2.1 with | some st => _ | none => _) = _
    split at h
    · rename_i st h1
      rw [h1]
      cases h
      rfl
    · rename_i h1
      rw [h1]
      simp only []
      show (match opL i s.2.1 s.2.2.1 with | some (L, st) => _ | none => _) = _
      split at h
      · rename_i L st h2
        rw [h2]
        cases h
        rfl
      · rename_i h2
        rw [h2]
        simp only []
        show (match opB i s.1 s.2.2.1 with | some (pc, st) => _ | none => _) = _
        split at h
        · rename_i pc st h3
          rw [h3]
          cases h
          rfl
        · rename_i h3
          rw [h3]
          simp only []
          show (match opH G i a b (mx s.2.2.2.1 U) s.2.2.1 with | some (M, st) => _ | none => _) = _
          split at h
          · rename_i M st h4
            rw [opH_mx (fet_a hf) h4]
            cases h
            rfl
          · rename_i h4
            split at h
            · rename_i r h5
              rw [opC_opH h5]
              simp only []
              rw [opC_mx h5]
              cases h
              rfl
            · cases h
theorem exec_mx {call call' : Nat → List Value → Mem → Res → Prop} (hc : ∀ k As M r, call k As M r → call' k As (mx M U) (rmx U r)) {k : Nat} : ∀ (f : Nat) (s : AS) (r : Res), Exec (Gc G) mdT cdT call k f s r → Exec G mdT cdT call' k f (smx U s) (rmx U r) := by
  intro f
  induction f with
  | zero => intro s r h; exact h.elim
  | succ f ih =>
    intro s r h
    simp only [Exec] at h ⊢
    split at h
    · exact h.elim
    · rename_i s' hs
      rw [step_mx hs]
      exact ih _ _ h
    · rename_i r' hs
      rw [step_mx hs]
      subst h
      rfl
    · rename_i q hs
      rw [step_mx hs]
      obtain ⟨r1, h1, h2⟩ := h
      refine ⟨rmx U r1, hc _ _ _ _ h1, ?_⟩
      rcases h2 with ⟨v, e1, h2⟩ | ⟨x, e1, h2⟩
      · exact Or.inl ⟨v, e1, ih _ _ h2⟩
      · exact Or.inr ⟨x, e1, by rw [h2]; rfl⟩
theorem run_mx : ∀ (d k : Nat) (As : List Value) (M : Mem) (r : Res), RunG (Gc G) mdT cdT kD kP d k As M r → RunG G mdT cdT kD kP d k As (mx M U) (rmx U r) := by
  intro d
  induction d with
  | zero => intro k As M r h; exact h.elim
  | succ d ih =>
    intro k As M r h
    simp only [RunG] at h ⊢
    by_cases hk : k = kD
    · rw [if_pos hk] at h ⊢
      obtain ⟨h0, r1, h1, h2⟩ := h
      refine ⟨h0, rmx U r1, ih _ _ _ _ h1, ?_⟩
      rcases h2 with ⟨x, e1, h2⟩ | ⟨x, h3, e1, h2⟩
      · exact Or.inl ⟨x, e1, by rw [h2]; rfl⟩
      · exact Or.inr ⟨x, h3, e1, by rw [h2]; rfl⟩
    · rw [if_neg hk] at h ⊢
      obtain ⟨f, h⟩ := h
      exact ⟨f, exec_mx (fun k As M r hh => ih k As M r hh) f _ _ h⟩
theorem Ret.mx {d k : Nat} {As : List Value} {M M' : Mem} {v : Option Value} (h : Ret (Gc G) d k As M v M') (U : Mem) : Ret G d k As (mx M U) v (mx M' U) := run_mx _ _ _ _ _ h
theorem Thr.mx {d k x : Nat} {As : List Value} {M M' : Mem} (h : Thr (Gc G) d k As M x M') (U : Mem) : Thr G d k As (mx M U) x (mx M' U) := run_mx _ _ _ _ _ h
theorem gc_core (hG : Core G) : Core (Gc G) := fun c h1 h2 => (if_neg h2).trans (hG c h1 h2)
end MIX
end SP10
