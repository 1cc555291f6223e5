section SP37
variable {cA dC : Nat → ClassId} {dI : Nat → Nat → Nat} {sz0 bS Lx : Nat} {xs : Nat → Int32} {adK adV : Nat → Nat} {w9 : Value} {l : Launch}
variable (cA dC dI sz0 bS Lx xs adK adV w9)
/-- the room of a constructor -/
def rmC (d n ns : Nat) : Room := { frames := d + 4, cells := n, slots := ns, locals := 100 + 40 * d }
/-- what the making machine is asked over: the cells made so far lie at beta, and nothing behind them -/
def Wc (β : Nat) (B : CB) (U : State) : Prop := U.heap.size = β + B.length ∧ va_P (dC, dI) clss (wblC cA β (rho bS adK adV w9) B) U.heap ∧ va_K (dC, dI) clss (tysl cA) U ∧ EnvP sz0 bS Lx xs adK adV w9 U ∧ sz0 ≤ β ∧ ∀ k, 28 ≤ k → k ≤ 31 → va_AO (Cn (rowC k)) U
def Pcc (β : Nat) (As : List Value) (B : CB) : Array Value → State → Prop := va_Pc (As.map (gv β (rho bS adK adV w9))) (Wc cA dC dI sz0 bS Lx xs adK adV w9 β B)
def Qcc (β : Nat) (B' : CB) : Array Value → State → Outcome → State → Prop := fun _ st oc t => (oc = .returned none ∧ t.heap.size = β + B'.length ∧ va_P (dC, dI) clss (wblC cA β (rho bS adK adV w9) B') t.heap) ∧ va_F (fun q => β ≤ q) st t
def Xcc : String → State → State → Prop := fun _ _ _ => False
def wsC (k : Nat) : List Cond := Cond.code (yC k) (bC k) (mLC k) none :: Wg
def MetCc (l : Launch) (d k : Nat) (As : List Value) (B B' : CB) : Prop := ∀ β : Nat, vx_Met l (yC k) (wsC k) (rmC d (B'.length - B.length) (sl B' - sl B)) (Pcc cA dC dI sz0 bS Lx xs adK adV w9 β As B) (Qcc cA dC dI bS adK adV w9 β B') Xcc (B'.length - B.length) (sl B' - sl B) (fun q => β ≤ q)
variable {cA dC dI sz0 bS Lx xs adK adV w9}
theorem pcc_blind {β : Nat} {As : List Value} {B : CB} : FrameBlind (Pcc cA dC dI sz0 bS Lx xs adK adV w9 β As B) := by
  intro a U g mk h
  obtain ⟨h1, h2, h3, h4, h5, h6, h7⟩ := h
  exact ⟨h1, h2, h3, va_K.moved (u := U) (U := U.calling g mk a) (Vm.Alike.refl U.vm) h4, EnvP.go (U := U.calling g mk a) h5 (State.WarmedH.refl U) (Nat.le_refl _) (fun _ _ => rfl), h6, fun k h1 h2 => va_AO.moved (u := U) (U := U.calling g mk a) (Vm.Alike.refl U.vm) (h7 k h1 h2)⟩
theorem presc_ok {s : State} {H : Heap} {β : Nat} {As : List Value} {B : CB} (hE : EnvP sz0 bS Lx xs adK adV w9 s) (hK : va_K (dC, dI) clss (tysl cA) s) (hAO : ∀ k, 28 ≤ k → k ≤ 31 → va_AO (Cn (rowC k)) s) (hP : va_P (dC, dI) clss (wblC cA β (rho bS adK adV w9) B) H) (hz : s.heap.size ≤ H.size) (hk : ∀ q : Nat, q < sz0 → H[q]? = s.heap[q]?) (hβ : sz0 ≤ β) (hs : H.size = β + B.length) :
    ∀ U : State, U.heap = H → s.WarmedH U.vm → Pcc cA dC dI sz0 bS Lx xs adK adV w9 β As B (As.map (gv β (rho bS adK adV w9))).toArray U := fun U hU hW =>
  ⟨rfl, by rw [hU]; exact hs, by rw [hU]; exact hP, va_K.moved hW.alike hK, EnvP.go hE hW (by rw [hU]; exact hz) (fun q h => by rw [hU]; exact hk q h), hβ, fun k h1 h2 => va_AO.moved hW.alike (hAO k h1 h2)⟩
end SP37
