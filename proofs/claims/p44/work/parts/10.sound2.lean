/-! THE BLOCK OF CELLS IN THE JVM'S HEAP -/
abbrev clss : List vw_C := [(RX0, TX0, 5), (RX1, TX1, 6), (RX2, TX2, 6), (RX3, TX3, 7), (RX4, TX4, 5), (RX5, TX5, 10), (RX6, TX6, 4), (RX7, TX7, 4), (RX8, TX8, 4), (RX9, TX9, 14)]
def tysl (cA : Nat → ClassId) : List (ClassId × FieldType) := [(cA 0, .int), (cA 1, .char), (cA 2, .object RX3), (cA 3, .object RX6), (cA 4, .object RX8), (cA 5, .object RX7)]
theorem lt10 {P : Nat → Prop} (h0 : P 0) (h1 : P 1) (h2 : P 2) (h3 : P 3) (h4 : P 4) (h5 : P 5) (h6 : P 6) (h7 : P 7) (h8 : P 8) (h9 : P 9) : ∀ c, c < 10 → P c := by
  intro c hc
  rcases (by omega : c = 0 ∨ c = 1 ∨ c = 2 ∨ c = 3 ∨ c = 4 ∨ c = 5 ∨ c = 6 ∨ c = 7 ∨ c = 8 ∨ c = 9) with rfl | rfl | rfl | rfl | rfl | rfl | rfl | rfl | rfl | rfl <;> assumption
theorem cl_get : ∀ c, c < 10 → clss[c]? = some (Cn c, Tn c, nF c) := lt10 rfl rfl rfl rfl rfl rfl rfl rfl rfl rfl
theorem cl_nm : ∀ c, c < 10 → ∀ a, a < nF c → ∀ b, b < nF c → a ≠ b → (Tn c a).2.1 ≠ (Tn c b).2.1 := lt10 nmX0 nmX1 nmX2 nmX3 nmX4 nmX5 nmX6 nmX7 nmX8 nmX9
theorem cl_ty : ∀ c, c < 10 → ∀ k, k < nF c → parseFieldDescriptor (Tn c k).2.2.1 = some (tyn c k) := lt10 tyX0_ok tyX1_ok tyX2_ok tyX3_ok tyX4_ok tyX5_ok tyX6_ok tyX7_ok tyX8_ok tyX9_ok
def tyOf (t : Nat) : FieldType := if t = 0 then .int else if t = 1 then .boolean else if t = 2 then .char else .long
theorem cl_kind : ∀ c, c < 10 → ∀ k, k < nF c → fTy c k = 4 ∨ ((Tn c k).2.2.2 = false ∧ tyn c k = tyOf (fTy c k) ∧ fTy c k < 4) := by decide +kernel
theorem cw_0 : ∀ w ∈ u_ws RX0 TX0 5, w ∈ Wg := by
  show ∀ w ∈ [u_lay RX0 TX0 0, u_lay RX0 TX0 1, u_lay RX0 TX0 2, u_lay RX0 TX0 3, u_lay RX0 TX0 4], w ∈ Wg
  exact List.forall_mem_cons.mpr ⟨w_190, List.forall_mem_cons.mpr ⟨w_192, List.forall_mem_cons.mpr ⟨w_194, List.forall_mem_cons.mpr ⟨w_196, List.forall_mem_cons.mpr ⟨w_198, fun _ h => absurd h List.not_mem_nil⟩⟩⟩⟩⟩
theorem cw_1 : ∀ w ∈ u_ws RX1 TX1 6, w ∈ Wg := by
  show ∀ w ∈ [u_lay RX1 TX1 0, u_lay RX1 TX1 1, u_lay RX1 TX1 2, u_lay RX1 TX1 3, u_lay RX1 TX1 4, u_lay RX1 TX1 5], w ∈ Wg
  exact List.forall_mem_cons.mpr ⟨w_287, List.forall_mem_cons.mpr ⟨w_289, List.forall_mem_cons.mpr ⟨w_291, List.forall_mem_cons.mpr ⟨w_293, List.forall_mem_cons.mpr ⟨w_295, List.forall_mem_cons.mpr ⟨w_297, fun _ h => absurd h List.not_mem_nil⟩⟩⟩⟩⟩⟩
theorem cw_2 : ∀ w ∈ u_ws RX2 TX2 6, w ∈ Wg := by
  show ∀ w ∈ [u_lay RX2 TX2 0, u_lay RX2 TX2 1, u_lay RX2 TX2 2, u_lay RX2 TX2 3, u_lay RX2 TX2 4, u_lay RX2 TX2 5], w ∈ Wg
  exact List.forall_mem_cons.mpr ⟨w_157, List.forall_mem_cons.mpr ⟨w_159, List.forall_mem_cons.mpr ⟨w_161, List.forall_mem_cons.mpr ⟨w_163, List.forall_mem_cons.mpr ⟨w_165, List.forall_mem_cons.mpr ⟨w_167, fun _ h => absurd h List.not_mem_nil⟩⟩⟩⟩⟩⟩
theorem cw_3 : ∀ w ∈ u_ws RX3 TX3 7, w ∈ Wg := by
  show ∀ w ∈ [u_lay RX3 TX3 0, u_lay RX3 TX3 1, u_lay RX3 TX3 2, u_lay RX3 TX3 3, u_lay RX3 TX3 4, u_lay RX3 TX3 5, u_lay RX3 TX3 6], w ∈ Wg
  exact List.forall_mem_cons.mpr ⟨w_84, List.forall_mem_cons.mpr ⟨w_86, List.forall_mem_cons.mpr ⟨w_88, List.forall_mem_cons.mpr ⟨w_90, List.forall_mem_cons.mpr ⟨w_92, List.forall_mem_cons.mpr ⟨w_94, List.forall_mem_cons.mpr ⟨w_96, fun _ h => absurd h List.not_mem_nil⟩⟩⟩⟩⟩⟩⟩
theorem cw_4 : ∀ w ∈ u_ws RX4 TX4 5, w ∈ Wg := by
  show ∀ w ∈ [u_lay RX4 TX4 0, u_lay RX4 TX4 1, u_lay RX4 TX4 2, u_lay RX4 TX4 3, u_lay RX4 TX4 4], w ∈ Wg
  exact List.forall_mem_cons.mpr ⟨w_259, List.forall_mem_cons.mpr ⟨w_261, List.forall_mem_cons.mpr ⟨w_263, List.forall_mem_cons.mpr ⟨w_265, List.forall_mem_cons.mpr ⟨w_267, fun _ h => absurd h List.not_mem_nil⟩⟩⟩⟩⟩
theorem cw_5 : ∀ w ∈ u_ws RX5 TX5 10, w ∈ Wg := by
  show ∀ w ∈ [u_lay RX5 TX5 0, u_lay RX5 TX5 1, u_lay RX5 TX5 2, u_lay RX5 TX5 3, u_lay RX5 TX5 4, u_lay RX5 TX5 5, u_lay RX5 TX5 6, u_lay RX5 TX5 7, u_lay RX5 TX5 8, u_lay RX5 TX5 9], w ∈ Wg
  exact List.forall_mem_cons.mpr ⟨w_220, List.forall_mem_cons.mpr ⟨w_222, List.forall_mem_cons.mpr ⟨w_224, List.forall_mem_cons.mpr ⟨w_226, List.forall_mem_cons.mpr ⟨w_228, List.forall_mem_cons.mpr ⟨w_230, List.forall_mem_cons.mpr ⟨w_232, List.forall_mem_cons.mpr ⟨w_234, List.forall_mem_cons.mpr ⟨w_236, List.forall_mem_cons.mpr ⟨w_238, fun _ h => absurd h List.not_mem_nil⟩⟩⟩⟩⟩⟩⟩⟩⟩⟩
theorem cw_6 : ∀ w ∈ u_ws RX6 TX6 4, w ∈ Wg := by
  show ∀ w ∈ [u_lay RX6 TX6 0, u_lay RX6 TX6 1, u_lay RX6 TX6 2, u_lay RX6 TX6 3], w ∈ Wg
  exact List.forall_mem_cons.mpr ⟨w_114, List.forall_mem_cons.mpr ⟨w_116, List.forall_mem_cons.mpr ⟨w_118, List.forall_mem_cons.mpr ⟨w_120, fun _ h => absurd h List.not_mem_nil⟩⟩⟩⟩
theorem cw_7 : ∀ w ∈ u_ws RX7 TX7 4, w ∈ Wg := by
  show ∀ w ∈ [u_lay RX7 TX7 0, u_lay RX7 TX7 1, u_lay RX7 TX7 2, u_lay RX7 TX7 3], w ∈ Wg
  exact List.forall_mem_cons.mpr ⟨w_313, List.forall_mem_cons.mpr ⟨w_315, List.forall_mem_cons.mpr ⟨w_317, List.forall_mem_cons.mpr ⟨w_319, fun _ h => absurd h List.not_mem_nil⟩⟩⟩⟩
theorem cw_8 : ∀ w ∈ u_ws RX8 TX8 4, w ∈ Wg := by
  show ∀ w ∈ [u_lay RX8 TX8 0, u_lay RX8 TX8 1, u_lay RX8 TX8 2, u_lay RX8 TX8 3], w ∈ Wg
  exact List.forall_mem_cons.mpr ⟨w_136, List.forall_mem_cons.mpr ⟨w_138, List.forall_mem_cons.mpr ⟨w_140, List.forall_mem_cons.mpr ⟨w_142, fun _ h => absurd h List.not_mem_nil⟩⟩⟩⟩
theorem cw_9 : ∀ w ∈ u_ws RX9 TX9 14, w ∈ Wg := by
  show ∀ w ∈ [u_lay RX9 TX9 0, u_lay RX9 TX9 1, u_lay RX9 TX9 2, u_lay RX9 TX9 3, u_lay RX9 TX9 4, u_lay RX9 TX9 5, u_lay RX9 TX9 6, u_lay RX9 TX9 7, u_lay RX9 TX9 8, u_lay RX9 TX9 9, u_lay RX9 TX9 10, u_lay RX9 TX9 11, u_lay RX9 TX9 12, u_lay RX9 TX9 13], w ∈ Wg
  exact List.forall_mem_cons.mpr ⟨w_336, List.forall_mem_cons.mpr ⟨w_338, List.forall_mem_cons.mpr ⟨w_340, List.forall_mem_cons.mpr ⟨w_342, List.forall_mem_cons.mpr ⟨w_344, List.forall_mem_cons.mpr ⟨w_346, List.forall_mem_cons.mpr ⟨w_348, List.forall_mem_cons.mpr ⟨w_350, List.forall_mem_cons.mpr ⟨w_352, List.forall_mem_cons.mpr ⟨w_354, List.forall_mem_cons.mpr ⟨w_356, List.forall_mem_cons.mpr ⟨w_358, List.forall_mem_cons.mpr ⟨w_360, List.forall_mem_cons.mpr ⟨w_362, fun _ h => absurd h List.not_mem_nil⟩⟩⟩⟩⟩⟩⟩⟩⟩⟩⟩⟩⟩⟩
theorem cl_ws : ∀ c, c < 10 → ∀ w ∈ u_ws (Cn c) (Tn c) (nF c), w ∈ Wg := lt10 cw_0 cw_1 cw_2 cw_3 cw_4 cw_5 cw_6 cw_7 cw_8 cw_9
def entA (cA : Nat → ClassId) (β : Nat) (ρ : Nat → Value) (M : Mem) (c k : Nat) : va_E :=
  if k < 20 then .inr (k, (List.range (nF k)).map (fun f => gv β ρ (fval M c k f)))
  else if k < 26 then .inl (cA 0, aLen k, .inl (M.1 c))
  else if k < 28 then .inl (cA 1, aLen k, .inl (M.1 c))
  else .inl (cA (k - 26), aLen k, .inr (.inr (.inr (.inr (fun i => some (β + (c + aOff k i)))))))
def wblk (cA : Nat → ClassId) (β : Nat) (ρ : Nat → Value) (M : Mem) : va_W := (List.range 410).map (fun c => (β + c, entA cA β ρ M c (kdAll c)))
section SND2
variable {cA : Nat → ClassId} {β : Nat} {ρ : Nat → Value} {M : Mem}
theorem wblk_get {c : Nat} (h : c < 410) : (wblk cA β ρ M)[c]? = some (β + c, entA cA β ρ M c (kdAll c)) := by
  unfold wblk
  rw [List.getElem?_map, List.getElem?_range h]
  rfl
theorem wblk_ix {i : Nat} {q : Nat × va_E} (h : (wblk cA β ρ M)[i]? = some q) : i < 410 ∧ q = (β + i, entA cA β ρ M i (kdAll i)) := by
  have hi : i < 410 := by
    have := (List.getElem?_eq_some_iff.mp h).1
    simpa [wblk] using this
  rw [wblk_get hi] at h
  exact ⟨hi, (Option.some.inj h).symm⟩
def Aset (β sz : Nat) : Nat → Prop := fun q => (β ≤ q ∧ q < β + 410) ∨ sz ≤ q
theorem wblk_D {sz : Nat} : va_D (Aset β sz) (wblk cA β ρ M) := by
  refine ⟨fun i j p q hi hj h => ?_, fun k q h => ?_⟩
  · obtain ⟨a1, rfl⟩ := wblk_ix hi
    obtain ⟨a2, rfl⟩ := wblk_ix hj
    simp only [] at h
    omega
  · obtain ⟨a1, rfl⟩ := wblk_ix h
    exact Or.inl ⟨by simp only []; omega, by simp only []; omega⟩
theorem wblk_set {c : Nat} {e : va_E} {M' : Mem} (h : c < 410) (he : e = entA cA β ρ M' c (kdAll c)) (ho : ∀ j, j ≠ c → M'.1 j = M.1 j ∧ M'.2 j = M.2 j) : (wblk cA β ρ M).set c (β + c, e) = wblk cA β ρ M' := by
  refine List.ext_getElem? fun j => ?_
  by_cases hj : j = c
  · subst hj
    rw [List.getElem?_set_self (by simpa [wblk] using h), wblk_get h, he]
  · rw [List.getElem?_set_ne (fun q => hj q.symm)]
    by_cases h4 : j < 410
    · rw [wblk_get h4, wblk_get h4]
      obtain ⟨e1, e2⟩ := ho j hj
      have e3 : ∀ k f, fval M' j k f = fval M j k f := fun k f => by simp only [fval, e1, e2]
      simp only [entA, e1, e3]
    · rw [List.getElem?_eq_none (by simp [wblk]; omega), List.getElem?_eq_none (by simp [wblk]; omega)]
theorem ent_obj {c k : Nat} (hk : k < 10) : entA cA β ρ M c k = .inr (k, (List.range (nF k)).map (fun f => gv β ρ (fval M c k f))) := by unfold entA; rw [if_pos (by omega)]
theorem ent_int {c k : Nat} (h1 : 20 ≤ k) (h2 : k ≤ 25) : entA cA β ρ M c k = .inl (cA 0, aLen k, .inl (M.1 c)) := by unfold entA; rw [if_neg (by omega), if_pos (by omega)]
theorem ent_chr {c k : Nat} (h1 : 26 ≤ k) (h2 : k ≤ 27) : entA cA β ρ M c k = .inl (cA 1, aLen k, .inl (M.1 c)) := by unfold entA; rw [if_neg (by omega), if_neg (by omega), if_pos (by omega)]
theorem ent_row {c k : Nat} (h1 : 28 ≤ k) (h2 : k ≤ 31) : entA cA β ρ M c k = .inl (cA (k - 26), aLen k, .inr (.inr (.inr (.inr (fun i => some (β + (c + aOff k i))))))) := by unfold entA; rw [if_neg (by omega), if_neg (by omega), if_neg (by omega)]
theorem pI_fval {r k x} {c f : Nat} (hf : f ≠ k) : fval (pI M r k x) r c f = fval M r c f := by
  unfold fval pI
  simp only [true_and]
  rw [if_neg hf]
/-- a field's own cell behind a put -/
theorem ent_pI {r k b : Nat} {x : Int32} (hk : k < 10) (hb : b < nF k) (ht : fTy k b < 3) : (.inr (k, ((List.range (nF k)).map (fun f => gv β ρ (fval M r k f))).set b (.int x)) : va_E) = entA cA β ρ (pI M r b x) r k := by
  rw [ent_obj hk]
  congr 2
  refine List.ext_getElem? fun j => ?_
  by_cases hj : j = b
  · subst hj
    rw [List.getElem?_set_self (by simpa using hb), List.getElem?_map, List.getElem?_range hb]
    simp only [Option.map_some, fval]
    rw [if_neg (by omega), if_neg (by omega)]
    simp [gv, pI]
  · rw [List.getElem?_set_ne (fun q => hj q.symm), List.getElem?_map, List.getElem?_map]
    by_cases h4 : j < nF k
    · rw [List.getElem?_range h4]
      simp only [Option.map_some, pI_fval hj]
    · rw [List.getElem?_eq_none (by simp; omega)]
      rfl
theorem ent_pL {r k b : Nat} {x : Int64} (hk : k < 10) (hb : b < nF k) (ht : fTy k b = 3) (hu : ∀ f, f < nF k → fTy k f = 3 → f = b) : (.inr (k, ((List.range (nF k)).map (fun f => gv β ρ (fval M r k f))).set b (.long x)) : va_E) = entA cA β ρ (pL M r x) r k := by
  rw [ent_obj hk]
  congr 2
  refine List.ext_getElem? fun j => ?_
  by_cases hj : j = b
  · subst hj
    rw [List.getElem?_set_self (by simpa using hb), List.getElem?_map, List.getElem?_range hb]
    simp only [Option.map_some, fval]
    rw [if_pos ht]
    simp [gv, pL]
  · rw [List.getElem?_set_ne (fun q => hj q.symm), List.getElem?_map, List.getElem?_map]
    by_cases h4 : j < nF k
    · rw [List.getElem?_range h4]
      have h5 : fTy k j ≠ 3 := fun q => hj (hu j h4 q)
      simp only [Option.map_some, fval]
      rw [if_neg h5, if_neg h5]
      rfl
    · rw [List.getElem?_eq_none (by simp; omega)]
      rfl
theorem cl_long : ∀ k, k < 10 → ∀ b, b < nF k → fTy k b = 3 → ∀ f, f < nF k → fTy k f = 3 → f = b := by decide +kernel
theorem pI_row {r j : Nat} {x : Int32} : upd (M.1 r) j x = (pI M r j x).1 r := by
  funext q
  simp only [upd, pI, true_and]
theorem pI_off {r k x} : ∀ j, j ≠ r → (pI M r k x).1 j = M.1 j ∧ (pI M r k x).2 j = M.2 j := fun j hj => ⟨by funext q; simp only [pI]; rw [if_neg (fun z => hj z.1)], rfl⟩
theorem pL_off {r x} : ∀ j, j ≠ r → (pL M r x).1 j = M.1 j ∧ (pL M r x).2 j = M.2 j := fun j hj => ⟨rfl, by simp only [pL]; rw [if_neg hj]⟩
theorem pA_off {r f} : ∀ j, j ≠ r → (pA M r f).1 j = M.1 j ∧ (pA M r f).2 j = M.2 j := fun j hj => ⟨by funext q; simp only [pA]; rw [if_neg hj], rfl⟩
theorem pA_row {r : Nat} {f : Nat → Int32} : f = (pA M r f).1 r := by funext q; simp only [pA]; rw [if_pos trivial]
end SND2
/-- texts of the constants as the kit lists them -/
def strLen : List Nat := [12, 4, 5, 4, 3]
def strByt : List (List Int32) := strB.map (fun l => l.map nI)
def stx (j : Nat) : String := if j = 0 then "=srTRCZk+<JA" else if j = 1 then "10ud" else if j = 2 then "nsrdl" else if j = 3 then "=sr<" else "TRC"
theorem str_len : ∀ j, j < 5 → strLen.getD j 0 = strN j := by decide +kernel
theorem str_byt : ∀ j, j < 5 → ∀ i, i < strN j → (strByt.getD j []).getD i 0 = strI j i := by decide +kernel
/-- what stands around the block, and stays -/
def EnvP (sz0 b Lx : Nat) (xs : Nat → Int32) (adK adV : Nat → Nat) (w9 : Value) (U : State) : Prop :=
  va_X b Lx xs U U.heap ∧ b < sz0 ∧ sz0 ≤ U.heap.size ∧ vk_S 5 strLen strByt adK adV (fun q => sz0 ≤ q) U U.heap ∧ (∀ r ∈ strRefs, vk_R r.1 r.2.1 (stx r.2.2) (adK r.2.2) U) ∧ va_Z "java/lang/String" "COMPACT_STRINGS" "Z" (.int 1) (fun q => sz0 ≤ q) U U.heap ∧ va_Z "jdk/internal/util/Preconditions" "SIOOBE_FORMATTER" "Ljava/util/function/BiFunction;" w9 (fun q => sz0 ≤ q) U U.heap ∧ vx_Zq Bundle.tN "UNASSIGNED_STACK" Bundle.steD (fun q => sz0 ≤ q) U U.heap ∧ vx_Zq Bundle.tN "SUPPRESSED_SENTINEL" Bundle.listD (fun q => sz0 ≤ q) U U.heap ∧ (∀ w ∈ lw_tbl, isB w = true → va_Nw w U) ∧ ∀ x j : Nat, x < 5 → j < x → va_Nc (xname x) (xname j) U
theorem EnvP.go {sz0 b Lx : Nat} {xs : Nat → Int32} {adK adV : Nat → Nat} {w9 : Value} {s U : State} (h : EnvP sz0 b Lx xs adK adV w9 s) (hW : s.WarmedH U.vm) (hz : s.heap.size ≤ U.heap.size) (hk : ∀ q : Nat, q < sz0 → U.heap[q]? = s.heap[q]?) : EnvP sz0 b Lx xs adK adV w9 U := by
  obtain ⟨h1, h2, h3, h4, h5, h6, h7, h8, h9, h10, h11⟩ := h
  have hq : ∀ a : Nat, a < s.heap.size → ¬ sz0 ≤ a → U.heap[a]? = s.heap[a]? := fun a _ ha => hk a (by omega)
  have hA := hW.alike
  refine ⟨va_X.moved hA (va_X.kept h1 (hk b h2)), h2, Nat.le_trans h3 hz, vk_S.moved hA (vk_S.kept h4 hq), fun r hr => vk_R.warm hW (h5 r hr), va_Z.moved hA (va_Z.kept h6 hq), va_Z.moved hA (va_Z.kept h7 hq), vx_Zq.moved hA (vx_Zq.kept h8 hq), vx_Zq.moved hA (vx_Zq.kept h9 hq), fun w hw hB => ?_, fun x j a1 a2 => va_Nc.moved hA (h11 x j a1 a2)⟩
  have h := h10 w hw hB
  cases w <;> first | exact va_Nw.warmM hW h | exact va_Nw.warmC hW h | exact va_Nw.warmD hW h | exact nomatch hB
