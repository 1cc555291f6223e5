section SP7
variable {G : MG} {d : Nat} {M : Mem}
/-- nothing but the places p is changed; the place 99 stands for the long -/
def Fr (p : Nat → Nat → Bool) (M M' : Mem) : Prop := (∀ c s, p c s = false → M'.1 c s = M.1 c s) ∧ ∀ c, p c 99 = false → M'.2 c = M.2 c
theorem Fr.rf {p : Nat → Nat → Bool} {M : Mem} : Fr p M M := ⟨fun _ _ _ => rfl, fun _ _ => rfl⟩
theorem Fr.tr {p : Nat → Nat → Bool} {M M1 M2 : Mem} (h : Fr p M M1) (h2 : Fr p M1 M2) : Fr p M M2 := ⟨fun c s a => (h2.1 c s a).trans (h.1 c s a), fun c a => (h2.2 c a).trans (h.2 c a)⟩
theorem Fr.mono {p q : Nat → Nat → Bool} {M M1 : Mem} (h : Fr p M M1) (hpq : ∀ c s, q c s = false → p c s = false) : Fr q M M1 := ⟨fun c s a => h.1 c s (hpq c s a), fun c a => h.2 c (hpq c 99 a)⟩
theorem Fr.pI {p : Nat → Nat → Bool} {M M1 : Mem} (h : Fr p M M1) {r k : Nat} {x : Int32} (hr : p r k = true) : Fr p M (pI M1 r k x) := ⟨fun c s a => by
  rw [pI_ne]
  · exact h.1 c s a
  · by_cases e : c = r
    · refine Or.inr fun z => ?_
      subst e; subst z
      rw [hr] at a
      cases a
    · exact Or.inl e, h.2⟩
theorem Fr.pL {p : Nat → Nat → Bool} {M M1 : Mem} (h : Fr p M M1) {r : Nat} {x : Int64} (hr : p r 99 = true) : Fr p M (pL M1 r x) := ⟨h.1, fun c a => by
  rw [pL_ne]
  · exact h.2 c a
  · intro z
    subst z
    rw [hr] at a
    cases a⟩
theorem tI_ne {x k : Int32} {z : Int} (h : ¬ x = k) (hk : k.toInt = z) : ¬ z = x.toInt := fun e => h (Int32.toInt_inj.mp (e.symm.trans hk.symm))
/-- what rungs write, but for alarms, and with them -/
def rwB (c s : Nat) : Bool := (c == 377 && (s == 0 || s == 99)) || c == 378 || c == 379 || c == 381
def rgB (c s : Nat) : Bool := rwB c s || c == 383 || c == 384 || c == 385
theorem rwB_rgB (c s : Nat) (h : rgB c s = false) : rwB c s = false := by
  unfold rgB at h
  simp only [Bool.or_eq_false_iff] at h
  exact h.1.1.1
theorem rgB_of {c s : Nat} (h : c ≠ 378 ∧ c ≠ 379 ∧ c ≠ 381 ∧ c ≠ 383 ∧ c ≠ 384 ∧ c ≠ 385 ∧ (c ≠ 377 ∨ (s ≠ 0 ∧ s ≠ 99))) : rgB c s = false := by
  unfold rgB rwB
  simp only [Bool.or_eq_false_iff, Bool.and_eq_false_iff, beq_eq_false_iff_ne]
  omega
theorem AI.fr {M M1 : Mem} (h : AI M) (e : ∀ c s, c = 383 ∨ c = 384 ∨ c = 385 → M1.1 c s = M.1 c s) : AI M1 := by
  obtain ⟨n, h1, h2, h3, h4, h5, h6, h7⟩ := h
  have e3 : ∀ s, M1.1 383 s = M.1 383 s := fun s => e 383 s (by omega)
  have e4 : ∀ s, M1.1 384 s = M.1 384 s := fun s => e 384 s (by omega)
  have e5 : ∀ s, M1.1 385 s = M.1 385 s := fun s => e 385 s (by omega)
  have er : ∀ k, inR M1 n k ↔ inR M n k := fun k => ⟨fun ⟨j, a, b⟩ => ⟨j, a, (e5 j).symm.trans b⟩, fun ⟨j, a, b⟩ => ⟨j, a, (e5 j).trans b⟩⟩
  refine ⟨n, h1, (e3 4).trans h2, fun j hj => ?_, fun i j a b => ?_, fun k hk => ?_, fun k hk a => ?_, fun k hk a b => ?_⟩
  · rw [e5]; exact h3 j hj
  · rw [e5, e5]; exact h4 i j a b
  · rw [e4]; exact h5 k hk
  · rw [er]; exact h6 k hk (by rw [← e4]; exact a)
  · rw [er]; exact h7 k hk (by rw [← e3]; exact a) (by rw [← e4]; exact b)
theorem AI.rw {M M1 : Mem} (h : AI M) (e : Fr rwB M M1) : AI M1 := h.fr fun c s hc => e.1 c s (by rcases hc with rfl | rfl | rfl <;> rfl)
theorem AFr.rg {M M1 : Mem} (h : AFr M M1) : Fr rgB M M1 := ⟨fun c s hc => h.1 c s (by rintro rfl; cases hc) (by rintro rfl; cases hc) (by rintro rfl; cases hc), fun c _ => h.2 c⟩
/-- what a rung's cell holds -/
def RKc (M : Mem) (c : Nat) : Prop := ((M.1 c 1 = 60 ∨ M.1 c 1 = 43) → ∃ b, b < 8 ∧ M.1 c 3 = nI b) ∧ ((M.1 c 1 = 84 ∨ M.1 c 1 = 82 ∨ M.1 c 1 = 67 ∨ M.1 c 1 = 90 ∨ M.1 c 1 = 107 ∨ M.1 c 1 = 43 ∨ M.1 c 1 = 65) → ∃ a, a < 8 ∧ M.1 c 2 = nI a) ∧ ∃ n, n ≤ 4 ∧ M.1 c 4 = nI n
theorem RKc.cg {M M1 : Mem} {c : Nat} (h : RKc M c) (e : ∀ s, M1.1 c s = M.1 c s) : RKc M1 c := by
  unfold RKc
  simp only [e]
  exact h
theorem doesHold_ok (k x y : Int32) (hx : x = 0 ∨ x = 1) (hy : y = 0 ∨ y = 1) : ∃ v M', Ret G (d + 1) 96 [.int k, .int x, .int y] M v M' ∧ (M' = M ∧ ∃ z, v = some (.int z) ∧ (z = 0 ∨ z = 1)) := by
  refine X_start (d := d + 0) (by decide) mX9_doesHold ?_
  show E _ _ _ (0, [some (.int k), some (.int x), some (.int y)], [], M, 0) _
  refine E_iload_n fX9_doesHold_0 rfl ?_
  by_cases e48_1 : k = 48
  · refine E_lsw (off := 37) (tg := 38) fX9_doesHold_1 (by rw [e48_1]; rfl) (by decide) ?_
    refine E_iload_n fX9_doesHold_38 rfl ?_
    refine E_ifne (tg := 46) fX9_doesHold_39 (by decide) (fun c_39 => ?_) (fun c_39 => ?_)
    · refine E_iconst (v := 0) fX9_doesHold_46 (by decide) ?_
      exact R_iret fX9_doesHold_47 mX9_doesHold rfl ⟨_, _, rfl, rfl, _, rfl, Or.inl rfl⟩
    · refine E_iconst (v := 1) fX9_doesHold_42 (by decide) ?_
      refine E_goto (tg := 47) fX9_doesHold_43 (by decide) ?_
      exact R_iret fX9_doesHold_47 mX9_doesHold rfl ⟨_, _, rfl, rfl, _, rfl, Or.inr rfl⟩
  · by_cases e49_1 : k = 49
    · refine E_lsw (off := 35) (tg := 36) fX9_doesHold_1 (by rw [e49_1]; rfl) (by decide) ?_
      refine E_iload_n fX9_doesHold_36 rfl ?_
      exact R_iret fX9_doesHold_37 mX9_doesHold (ret2 hx) ⟨_, _, rfl, rfl, _, rfl, hx⟩
    · by_cases e117_1 : k = 117
      · refine E_lsw (off := 47) (tg := 48) fX9_doesHold_1 (by rw [e117_1]; rfl) (by decide) ?_
        refine E_iload_n fX9_doesHold_48 rfl ?_
        refine E_ifeq (tg := 60) fX9_doesHold_49 (by decide) (fun c_49 => ?_) (fun c_49 => ?_)
        · refine E_iconst (v := 0) fX9_doesHold_60 (by decide) ?_
          exact R_iret fX9_doesHold_61 mX9_doesHold rfl ⟨_, _, rfl, rfl, _, rfl, Or.inl rfl⟩
        · refine E_iload_n fX9_doesHold_52 rfl ?_
          refine E_ifne (tg := 60) fX9_doesHold_53 (by decide) (fun c_53 => ?_) (fun c_53 => ?_)
          · refine E_iconst (v := 0) fX9_doesHold_60 (by decide) ?_
            exact R_iret fX9_doesHold_61 mX9_doesHold rfl ⟨_, _, rfl, rfl, _, rfl, Or.inl rfl⟩
          · refine E_iconst (v := 1) fX9_doesHold_56 (by decide) ?_
            refine E_goto (tg := 61) fX9_doesHold_57 (by decide) ?_
            exact R_iret fX9_doesHold_61 mX9_doesHold rfl ⟨_, _, rfl, rfl, _, rfl, Or.inr rfl⟩
      · refine E_lsw (off := 61) (tg := 62) fX9_doesHold_1 (by show Jvm.Op.lookupswitch.offset [(48, 37), (49, 35), (117, 47)] (61) _ = 61; rw [Jvm.Op.lookupswitch.offset_cons, if_neg (tI_ne (z := 48) e48_1 (by decide)), Jvm.Op.lookupswitch.offset_cons, if_neg (tI_ne (z := 49) e49_1 (by decide)), Jvm.Op.lookupswitch.offset_cons, if_neg (tI_ne (z := 117) e117_1 (by decide)), Jvm.Op.lookupswitch.offset_nil]) (by decide) ?_
        refine E_iload_n fX9_doesHold_62 rfl ?_
        refine E_ifne (tg := 74) fX9_doesHold_63 (by decide) (fun c_63 => ?_) (fun c_63 => ?_)
        · refine E_iconst (v := 0) fX9_doesHold_74 (by decide) ?_
          exact R_iret fX9_doesHold_75 mX9_doesHold rfl ⟨_, _, rfl, rfl, _, rfl, Or.inl rfl⟩
        · refine E_iload_n fX9_doesHold_66 rfl ?_
          refine E_ifeq (tg := 74) fX9_doesHold_67 (by decide) (fun c_67 => ?_) (fun c_67 => ?_)
          · refine E_iconst (v := 0) fX9_doesHold_74 (by decide) ?_
            exact R_iret fX9_doesHold_75 mX9_doesHold rfl ⟨_, _, rfl, rfl, _, rfl, Or.inl rfl⟩
          · refine E_iconst (v := 1) fX9_doesHold_70 (by decide) ?_
            refine E_goto (tg := 75) fX9_doesHold_71 (by decide) ?_
            exact R_iret fX9_doesHold_75 mX9_doesHold rfl ⟨_, _, rfl, rfl, _, rfl, Or.inr rfl⟩
theorem lookAtContacts_ok (hG : Core G) {i j : Nat} (hi : i < 40) (hj : j < 40) (hK : RKc M (5 + 3 * i)) : ∃ v M', Ret G (d + 2) 95 [.ref 0, .int (nI j), .ref (5 + 3 * i)] M v M' ∧ ((∃ z, v = some (.int z) ∧ (z = 0 ∨ z = 1)) ∧ ∃ x, M' = pI M 381 j x) := by
  obtain ⟨-, -, n, hn4, hn⟩ := hK
  have loop : ∀ m k z sn o7 o8, k + m = n → (z = 0 ∨ z = 1) → E G (d + 1) 95 (14, [some (.ref 0), some (.int (nI j)), some (.ref (5 + 3 * i)), some (.int (rdB M)), some (.int z), some (.int sn), some (.int (nI k)), o7, o8], [], M, 0) (fun r => ∃ v M', r = (.inl v, M', 0) ∧ ((∃ z, v = some (.int z) ∧ (z = 0 ∨ z = 1)) ∧ ∃ x, M' = pI M 381 j x)) := by
    intro m
    induction m with
    | zero =>
      intro k z sn o7 o8 hk hz
      have e : k = n := by omega
      subst e
      refine E_iload fX9_lookAtContacts_14 rfl ?_
      refine E_aload_n fX9_lookAtContacts_16 rfl (by have := (kr0_lt hi); omega) ?_
      refine E_getI fX9_lookAtContacts_17 (kr0 hG hi) (kr0_lt hi) (by decide) (by decide) ?_
      refine E_icge (tg := 101) fX9_lookAtContacts_20 (by decide) (fun c_20 => ?_) (fun c => absurd (by rw [hn]; exact Int32.le_refl _) c)
      refine E_aload_n fX9_lookAtContacts_101 rfl (by decide) ?_
      refine E_getR (r' := 377) fX9_lookAtContacts_102 (k0 hG) (by decide) (by decide) (by decide) rfl ?_
      refine E_getR (r' := 381) fX9_lookAtContacts_105 (k377 hG) (by decide) (by decide) (by decide) rfl ?_
      refine E_iload_n fX9_lookAtContacts_108 rfl ?_
      refine E_iload fX9_lookAtContacts_109 rfl ?_
      refine E_iast (n := j) (K := 22) fX9_lookAtContacts_111 (k381 hG) ⟨by decide, by decide⟩ (by decide) rfl (by show j < 40; omega) ?_
      refine E_iload fX9_lookAtContacts_112 rfl ?_
      exact R_iret fX9_lookAtContacts_114 mX9_lookAtContacts (ret2 hz) ⟨_, _, rfl, ⟨_, rfl, hz⟩, _, rfl⟩
    | succ m ih =>
      intro k z sn o7 o8 hk hz
      have hlt : k < n := by omega
      refine E_iload fX9_lookAtContacts_14 rfl ?_
      refine E_aload_n fX9_lookAtContacts_16 rfl (by have := (kr0_lt hi); omega) ?_
      refine E_getI fX9_lookAtContacts_17 (kr0 hG hi) (kr0_lt hi) (by decide) (by decide) ?_
      refine E_icge (tg := 101) fX9_lookAtContacts_20 (by decide) (fun c => absurd c (by rw [hn]; exact nI_ge hlt (by omega))) (fun c_20 => ?_)
      refine E_iload_n fX9_lookAtContacts_23 rfl ?_
      refine E_aload_n fX9_lookAtContacts_24 rfl (by have := (kr0_lt hi); omega) ?_
      refine E_getR (r' := 5 + 3 * i + 2) fX9_lookAtContacts_25 (kr0 hG hi) (kr0_lt hi) (by decide) (by decide) rfl ?_
      refine E_iload fX9_lookAtContacts_28 rfl ?_
      refine E_iald (n := k) (K := 24) fX9_lookAtContacts_30 (kr2 hG hi) ⟨by decide, by decide⟩ (kr2_lt hi) rfl (by show k < 4; omega) ?_
      refine E_callS (t := []) (isSet_ok (rdB M) (M.1 (5 + 3 * i + 2) k)) fX9_lookAtContacts_31 (by decide) mX9_isSet ⟨rfl, rfl⟩ rfl rfl (by decide) ?_
      refine E_istore (L' := [some (.ref 0), some (.int (nI j)), some (.ref (5 + 3 * i)), some (.int (rdB M)), some (.int z), some (.int sn), some (.int (nI k)), some (.int (bI (isB1 (rdB M) (M.1 (5 + 3 * i + 2) k)))), o8]) fX9_lookAtContacts_34 rfl (Nat.le_of_ble_eq_true rfl) ?_
      refine E_aload_n fX9_lookAtContacts_36 rfl (by decide) ?_
      refine E_getR (r' := 377) fX9_lookAtContacts_37 (k0 hG) (by decide) (by decide) (by decide) rfl ?_
      refine E_getR (r' := 381) fX9_lookAtContacts_40 (k377 hG) (by decide) (by decide) (by decide) rfl ?_
      refine E_iload_n fX9_lookAtContacts_43 rfl ?_
      refine E_iald (n := j) (K := 22) fX9_lookAtContacts_44 (k381 hG) ⟨by decide, by decide⟩ (by decide) rfl (by show j < 40; omega) ?_
      refine E_iload fX9_lookAtContacts_45 rfl ?_
      refine E_callS (t := []) (isSet_ok (M.1 381 j) (nI k)) fX9_lookAtContacts_47 (by decide) mX9_isSet ⟨rfl, rfl⟩ rfl rfl (by decide) ?_
      refine E_istore (L' := [some (.ref 0), some (.int (nI j)), some (.ref (5 + 3 * i)), some (.int (rdB M)), some (.int z), some (.int sn), some (.int (nI k)), some (.int (bI (isB1 (rdB M) (M.1 (5 + 3 * i + 2) k)))), some (.int (bI (isB1 (M.1 381 j) (nI k))))]) fX9_lookAtContacts_50 rfl (Nat.le_of_ble_eq_true rfl) ?_
      refine E_aload_n fX9_lookAtContacts_52 rfl (by have := (kr0_lt hi); omega) ?_
      refine E_getR (r' := 5 + 3 * i + 1) fX9_lookAtContacts_53 (kr0 hG hi) (kr0_lt hi) (by decide) (by decide) rfl ?_
      refine E_iload fX9_lookAtContacts_56 rfl ?_
      refine E_cald (n := k) (K := 26) fX9_lookAtContacts_58 (kr1 hG hi) ⟨by decide, by decide⟩ (kr1_lt hi) rfl (by show k < 4; omega) ?_
      refine E_iload fX9_lookAtContacts_59 rfl ?_
      refine E_iload fX9_lookAtContacts_61 rfl ?_
      obtain ⟨v1, M1, hR1, hM1, z1, rfl, hz1⟩ := doesHold_ok (d := d) (M := M) (M.1 (5 + 3 * i + 1) k) (bI (isB1 (rdB M) (M.1 (5 + 3 * i + 2) k))) (bI (isB1 (M.1 381 j) (nI k))) (bI_01 _) (bI_01 _)
      rw [hM1] at hR1
      refine E_callS (t := []) hR1 fX9_lookAtContacts_63 (by decide) mX9_doesHold ⟨rfl, rfl⟩ rfl rfl (by decide) ?_
      refine E_ifeq (tg := 78) fX9_lookAtContacts_66 (by decide) (fun c_66 => ?_) (fun c_66 => ?_)
      · refine E_iconst (v := 0) fX9_lookAtContacts_78 (by decide) ?_
        refine E_istore (L' := [some (.ref 0), some (.int (nI j)), some (.ref (5 + 3 * i)), some (.int (rdB M)), some (.int 0), some (.int sn), some (.int (nI k)), some (.int (bI (isB1 (rdB M) (M.1 (5 + 3 * i + 2) k)))), some (.int (bI (isB1 (M.1 381 j) (nI k))))]) fX9_lookAtContacts_79 rfl (Nat.le_of_ble_eq_true rfl) ?_
        refine E_iload fX9_lookAtContacts_81 rfl ?_
        refine E_ifeq (tg := 95) fX9_lookAtContacts_83 (by decide) (fun c_83 => ?_) (fun c_83 => ?_)
        · refine E_iinc (v := nI (k + 1)) (L' := [some (.ref 0), some (.int (nI j)), some (.ref (5 + 3 * i)), some (.int (rdB M)), some (.int 0), some (.int sn), some (.int (nI (k + 1))), some (.int (bI (isB1 (rdB M) (M.1 (5 + 3 * i + 2) k)))), some (.int (bI (isB1 (M.1 381 j) (nI k))))]) fX9_lookAtContacts_95 rfl (inc1 _) rfl ?_
          refine E_goto (tg := 14) fX9_lookAtContacts_98 (by decide) ?_
          exact ih (k + 1) _ _ _ _ (by omega) (Or.inl rfl)
        · refine E_iload fX9_lookAtContacts_86 rfl ?_
          refine E_iconst (v := 1) fX9_lookAtContacts_88 (by decide) ?_
          refine E_iload fX9_lookAtContacts_89 rfl ?_
          refine E_ishl fX9_lookAtContacts_91 ?_
          refine E_ior fX9_lookAtContacts_92 ?_
          refine E_istore (L' := [some (.ref 0), some (.int (nI j)), some (.ref (5 + 3 * i)), some (.int (rdB M)), some (.int 0), some (.int (sn ||| (1 <<< ((nI k) &&& 31)))), some (.int (nI k)), some (.int (bI (isB1 (rdB M) (M.1 (5 + 3 * i + 2) k)))), some (.int (bI (isB1 (M.1 381 j) (nI k))))]) fX9_lookAtContacts_93 rfl (Nat.le_of_ble_eq_true rfl) ?_
          refine E_iinc (v := nI (k + 1)) (L' := [some (.ref 0), some (.int (nI j)), some (.ref (5 + 3 * i)), some (.int (rdB M)), some (.int 0), some (.int (sn ||| (1 <<< ((nI k) &&& 31)))), some (.int (nI (k + 1))), some (.int (bI (isB1 (rdB M) (M.1 (5 + 3 * i + 2) k)))), some (.int (bI (isB1 (M.1 381 j) (nI k))))]) fX9_lookAtContacts_95 rfl (inc1 _) rfl ?_
          refine E_goto (tg := 14) fX9_lookAtContacts_98 (by decide) ?_
          exact ih (k + 1) _ _ _ _ (by omega) (Or.inl rfl)
      · refine E_iload fX9_lookAtContacts_69 rfl ?_
        refine E_ifeq (tg := 78) fX9_lookAtContacts_71 (by decide) (fun c_71 => ?_) (fun c_71 => ?_)
        · refine E_iconst (v := 0) fX9_lookAtContacts_78 (by decide) ?_
          refine E_istore (L' := [some (.ref 0), some (.int (nI j)), some (.ref (5 + 3 * i)), some (.int (rdB M)), some (.int 0), some (.int sn), some (.int (nI k)), some (.int (bI (isB1 (rdB M) (M.1 (5 + 3 * i + 2) k)))), some (.int (bI (isB1 (M.1 381 j) (nI k))))]) fX9_lookAtContacts_79 rfl (Nat.le_of_ble_eq_true rfl) ?_
          refine E_iload fX9_lookAtContacts_81 rfl ?_
          refine E_ifeq (tg := 95) fX9_lookAtContacts_83 (by decide) (fun c_83 => ?_) (fun c_83 => ?_)
          · refine E_iinc (v := nI (k + 1)) (L' := [some (.ref 0), some (.int (nI j)), some (.ref (5 + 3 * i)), some (.int (rdB M)), some (.int 0), some (.int sn), some (.int (nI (k + 1))), some (.int (bI (isB1 (rdB M) (M.1 (5 + 3 * i + 2) k)))), some (.int (bI (isB1 (M.1 381 j) (nI k))))]) fX9_lookAtContacts_95 rfl (inc1 _) rfl ?_
            refine E_goto (tg := 14) fX9_lookAtContacts_98 (by decide) ?_
            exact ih (k + 1) _ _ _ _ (by omega) (Or.inl rfl)
          · refine E_iload fX9_lookAtContacts_86 rfl ?_
            refine E_iconst (v := 1) fX9_lookAtContacts_88 (by decide) ?_
            refine E_iload fX9_lookAtContacts_89 rfl ?_
            refine E_ishl fX9_lookAtContacts_91 ?_
            refine E_ior fX9_lookAtContacts_92 ?_
            refine E_istore (L' := [some (.ref 0), some (.int (nI j)), some (.ref (5 + 3 * i)), some (.int (rdB M)), some (.int 0), some (.int (sn ||| (1 <<< ((nI k) &&& 31)))), some (.int (nI k)), some (.int (bI (isB1 (rdB M) (M.1 (5 + 3 * i + 2) k)))), some (.int (bI (isB1 (M.1 381 j) (nI k))))]) fX9_lookAtContacts_93 rfl (Nat.le_of_ble_eq_true rfl) ?_
            refine E_iinc (v := nI (k + 1)) (L' := [some (.ref 0), some (.int (nI j)), some (.ref (5 + 3 * i)), some (.int (rdB M)), some (.int 0), some (.int (sn ||| (1 <<< ((nI k) &&& 31)))), some (.int (nI (k + 1))), some (.int (bI (isB1 (rdB M) (M.1 (5 + 3 * i + 2) k)))), some (.int (bI (isB1 (M.1 381 j) (nI k))))]) fX9_lookAtContacts_95 rfl (inc1 _) rfl ?_
            refine E_goto (tg := 14) fX9_lookAtContacts_98 (by decide) ?_
            exact ih (k + 1) _ _ _ _ (by omega) (Or.inl rfl)
        · refine E_iconst (v := 1) fX9_lookAtContacts_74 (by decide) ?_
          refine E_goto (tg := 79) fX9_lookAtContacts_75 (by decide) ?_
          refine E_istore (L' := [some (.ref 0), some (.int (nI j)), some (.ref (5 + 3 * i)), some (.int (rdB M)), some (.int 1), some (.int sn), some (.int (nI k)), some (.int (bI (isB1 (rdB M) (M.1 (5 + 3 * i + 2) k)))), some (.int (bI (isB1 (M.1 381 j) (nI k))))]) fX9_lookAtContacts_79 rfl (Nat.le_of_ble_eq_true rfl) ?_
          refine E_iload fX9_lookAtContacts_81 rfl ?_
          refine E_ifeq (tg := 95) fX9_lookAtContacts_83 (by decide) (fun c_83 => ?_) (fun c_83 => ?_)
          · refine E_iinc (v := nI (k + 1)) (L' := [some (.ref 0), some (.int (nI j)), some (.ref (5 + 3 * i)), some (.int (rdB M)), some (.int 1), some (.int sn), some (.int (nI (k + 1))), some (.int (bI (isB1 (rdB M) (M.1 (5 + 3 * i + 2) k)))), some (.int (bI (isB1 (M.1 381 j) (nI k))))]) fX9_lookAtContacts_95 rfl (inc1 _) rfl ?_
            refine E_goto (tg := 14) fX9_lookAtContacts_98 (by decide) ?_
            exact ih (k + 1) _ _ _ _ (by omega) (Or.inr rfl)
          · refine E_iload fX9_lookAtContacts_86 rfl ?_
            refine E_iconst (v := 1) fX9_lookAtContacts_88 (by decide) ?_
            refine E_iload fX9_lookAtContacts_89 rfl ?_
            refine E_ishl fX9_lookAtContacts_91 ?_
            refine E_ior fX9_lookAtContacts_92 ?_
            refine E_istore (L' := [some (.ref 0), some (.int (nI j)), some (.ref (5 + 3 * i)), some (.int (rdB M)), some (.int 1), some (.int (sn ||| (1 <<< ((nI k) &&& 31)))), some (.int (nI k)), some (.int (bI (isB1 (rdB M) (M.1 (5 + 3 * i + 2) k)))), some (.int (bI (isB1 (M.1 381 j) (nI k))))]) fX9_lookAtContacts_93 rfl (Nat.le_of_ble_eq_true rfl) ?_
            refine E_iinc (v := nI (k + 1)) (L' := [some (.ref 0), some (.int (nI j)), some (.ref (5 + 3 * i)), some (.int (rdB M)), some (.int 1), some (.int (sn ||| (1 <<< ((nI k) &&& 31)))), some (.int (nI (k + 1))), some (.int (bI (isB1 (rdB M) (M.1 (5 + 3 * i + 2) k)))), some (.int (bI (isB1 (M.1 381 j) (nI k))))]) fX9_lookAtContacts_95 rfl (inc1 _) rfl ?_
            refine E_goto (tg := 14) fX9_lookAtContacts_98 (by decide) ?_
            exact ih (k + 1) _ _ _ _ (by omega) (Or.inr rfl)
  refine X_start (d := d + 1) (by decide) mX9_lookAtContacts ?_
  show E _ _ _ (0, [some (.ref 0), some (.int (nI j)), some (.ref (5 + 3 * i)), none, none, none, none, none, none], [], M, 0) _
  refine E_aload_n fX9_lookAtContacts_0 rfl (by decide) ?_
  refine E_callV (t := []) (readBits_ok hG) fX9_lookAtContacts_1 mX9_readBits (rc_obj (k0 hG) (by decide) (by decide)) ⟨by decide, rfl⟩ rfl rfl (by decide) ?_
  refine E_istore_n (L' := [some (.ref 0), some (.int (nI j)), some (.ref (5 + 3 * i)), some (.int (rdB M)), none, none, none, none, none]) fX9_lookAtContacts_4 rfl (Nat.le_of_ble_eq_true rfl) ?_
  refine E_iconst (v := 1) fX9_lookAtContacts_5 (by decide) ?_
  refine E_istore (L' := [some (.ref 0), some (.int (nI j)), some (.ref (5 + 3 * i)), some (.int (rdB M)), some (.int 1), none, none, none, none]) fX9_lookAtContacts_6 rfl (Nat.le_of_ble_eq_true rfl) ?_
  refine E_iconst (v := 0) fX9_lookAtContacts_8 (by decide) ?_
  refine E_istore (L' := [some (.ref 0), some (.int (nI j)), some (.ref (5 + 3 * i)), some (.int (rdB M)), some (.int 1), some (.int 0), none, none, none]) fX9_lookAtContacts_9 rfl (Nat.le_of_ble_eq_true rfl) ?_
  refine E_iconst (v := 0) fX9_lookAtContacts_11 (by decide) ?_
  refine E_istore (L' := [some (.ref 0), some (.int (nI j)), some (.ref (5 + 3 * i)), some (.int (rdB M)), some (.int 1), some (.int 0), some (.int 0), none, none]) fX9_lookAtContacts_12 rfl (Nat.le_of_ble_eq_true rfl) ?_
  exact loop n 0 1 0 _ _ (by omega) (Or.inr rfl)
theorem runTimer_ok (hG : Core G) {i a : Nat} (hi : i < 40) (ha8 : a < 8) (ha : M.1 (5 + 3 * i) 2 = nI a) (ix z el : Int32) : ∃ v M', Ret G (d + 2) 99 [.ref 0, .int ix, .ref (5 + 3 * i), .int z, .int el] M v M' ∧ (v = none ∧ Fr rwB M M') := by
  refine X_start (d := d + 1) (by decide) mX9_runTimer ?_
  show E _ _ _ (0, [some (.ref 0), some (.int ix), some (.ref (5 + 3 * i)), some (.int z), some (.int el), none], [], M, 0) _
  refine E_aload_n fX9_runTimer_0 rfl (by decide) ?_
  refine E_getR (r' := 377) fX9_runTimer_1 (k0 hG) (by decide) (by decide) (by decide) rfl ?_
  refine E_getR (r' := 379) fX9_runTimer_4 (k377 hG) (by decide) (by decide) (by decide) rfl ?_
  refine E_aload_n fX9_runTimer_7 rfl (by have := (kr0_lt hi); omega) ?_
  refine E_getI fX9_runTimer_8 (kr0 hG hi) (kr0_lt hi) (by decide) (by decide) ?_
  refine E_iald (n := a) (K := 20) fX9_runTimer_11 (k379 hG) ⟨by decide, by decide⟩ (by decide) ha ha8 ?_
  refine E_istore (L' := [some (.ref 0), some (.int ix), some (.ref (5 + 3 * i)), some (.int z), some (.int el), some (.int (M.1 379 a))]) fX9_runTimer_12 rfl (Nat.le_of_ble_eq_true rfl) ?_
  refine E_aload_n fX9_runTimer_14 rfl (by have := (kr0_lt hi); omega) ?_
  refine E_getI fX9_runTimer_15 (kr0 hG hi) (kr0_lt hi) (by decide) (by decide) ?_
  refine E_bipush (v := 67) fX9_runTimer_18 (by decide) ?_
  refine E_icne (tg := 53) fX9_runTimer_20 (by decide) (fun c_20 => ?_) (fun c_20 => ?_)
  · refine E_iload_n fX9_runTimer_53 rfl ?_
    refine E_ifeq (tg := 67) fX9_runTimer_54 (by decide) (fun c_54 => ?_) (fun c_54 => ?_)
    · refine E_aload_n fX9_runTimer_67 rfl (by have := (kr0_lt hi); omega) ?_
      refine E_getI fX9_runTimer_68 (kr0 hG hi) (kr0_lt hi) (by decide) (by decide) ?_
      refine E_bipush (v := 84) fX9_runTimer_71 (by decide) ?_
      refine E_icne (tg := 79) fX9_runTimer_73 (by decide) (fun c_73 => ?_) (fun c_73 => ?_)
      · refine E_iload fX9_runTimer_79 rfl ?_
        refine E_aload_n fX9_runTimer_81 rfl (by have := (kr0_lt hi); omega) ?_
        refine E_getI fX9_runTimer_82 (kr0 hG hi) (kr0_lt hi) (by decide) (by decide) ?_
        refine E_min fX9_runTimer_85 (by decide) ?_
        refine E_istore (L' := [some (.ref 0), some (.int ix), some (.ref (5 + 3 * i)), some (.int z), some (.int el), some (.int (if (M.1 (5 + 3 * i) 3) < (M.1 379 a) then (M.1 (5 + 3 * i) 3) else (M.1 379 a)))]) fX9_runTimer_88 rfl (Nat.le_of_ble_eq_true rfl) ?_
        refine E_aload_n fX9_runTimer_90 rfl (by decide) ?_
        refine E_getR (r' := 377) fX9_runTimer_91 (k0 hG) (by decide) (by decide) (by decide) rfl ?_
        refine E_getR (r' := 379) fX9_runTimer_94 (k377 hG) (by decide) (by decide) (by decide) rfl ?_
        refine E_aload_n fX9_runTimer_97 rfl (by have := (kr0_lt hi); omega) ?_
        refine E_getI fX9_runTimer_98 (kr0 hG hi) (kr0_lt hi) (by decide) (by decide) ?_
        refine E_iload fX9_runTimer_101 rfl ?_
        refine E_iast (n := a) (K := 20) fX9_runTimer_103 (k379 hG) ⟨by decide, by decide⟩ (by decide) ha ha8 ?_
        refine E_aload_n fX9_runTimer_104 rfl (by decide) ?_
        refine E_getR (r' := 377) fX9_runTimer_105 (k0 hG) (by decide) (by decide) (by decide) rfl ?_
        refine E_bipush (v := 24) fX9_runTimer_108 (by decide) ?_
        refine E_aload_n fX9_runTimer_110 rfl (by have := (kr0_lt hi); omega) ?_
        refine E_getI fX9_runTimer_111 (kr0 hG hi) (kr0_lt hi) (by decide) (by decide) ?_
        refine E_iadd fX9_runTimer_114 ?_
        refine E_iload fX9_runTimer_115 rfl ?_
        refine E_aload_n fX9_runTimer_117 rfl (by have := (kr0_lt hi); omega) ?_
        refine E_getI fX9_runTimer_118 (kr0 hG hi) (kr0_lt hi) (by decide) (by decide) ?_
        refine E_iclt (tg := 128) fX9_runTimer_121 (by decide) (fun c_121 => ?_) (fun c_121 => ?_)
        · refine E_iconst (v := 0) fX9_runTimer_128 (by decide) ?_
          obtain ⟨v1, M1, hR1, rfl, w1, rfl⟩ := write_ok (d := d) (M := (pI M 379 a (if (M.1 (5 + 3 * i) 3) < (M.1 379 a) then (M.1 (5 + 3 * i) 3) else (M.1 379 a)))) hG (24 + ((pI M 379 a (if (M.1 (5 + 3 * i) 3) < (M.1 379 a) then (M.1 (5 + 3 * i) 3) else (M.1 379 a))).1 (5 + 3 * i) 2)) 0
          refine E_callV (t := []) hR1 fX9_runTimer_129 mX5_write (rc_obj (k377 hG) (by decide) (by decide)) ⟨by decide, rfl⟩ rfl rfl (by decide) ?_
          exact R_vret fX9_runTimer_132 mX9_runTimer rfl ⟨none, _, rfl, rfl, by repeat first | exact Fr.rf | refine Fr.pI ?_ rfl | refine Fr.pL ?_ rfl⟩
        · refine E_iconst (v := 1) fX9_runTimer_124 (by decide) ?_
          refine E_goto (tg := 129) fX9_runTimer_125 (by decide) ?_
          obtain ⟨v2, M2, hR2, rfl, w2, rfl⟩ := write_ok (d := d) (M := (pI M 379 a (if (M.1 (5 + 3 * i) 3) < (M.1 379 a) then (M.1 (5 + 3 * i) 3) else (M.1 379 a)))) hG (24 + ((pI M 379 a (if (M.1 (5 + 3 * i) 3) < (M.1 379 a) then (M.1 (5 + 3 * i) 3) else (M.1 379 a))).1 (5 + 3 * i) 2)) 1
          refine E_callV (t := []) hR2 fX9_runTimer_129 mX5_write (rc_obj (k377 hG) (by decide) (by decide)) ⟨by decide, rfl⟩ rfl rfl (by decide) ?_
          exact R_vret fX9_runTimer_132 mX9_runTimer rfl ⟨none, _, rfl, rfl, by repeat first | exact Fr.rf | refine Fr.pI ?_ rfl | refine Fr.pL ?_ rfl⟩
      · refine E_iconst (v := 0) fX9_runTimer_76 (by decide) ?_
        refine E_istore (L' := [some (.ref 0), some (.int ix), some (.ref (5 + 3 * i)), some (.int z), some (.int el), some (.int 0)]) fX9_runTimer_77 rfl (Nat.le_of_ble_eq_true rfl) ?_
        refine E_iload fX9_runTimer_79 rfl ?_
        refine E_aload_n fX9_runTimer_81 rfl (by have := (kr0_lt hi); omega) ?_
        refine E_getI fX9_runTimer_82 (kr0 hG hi) (kr0_lt hi) (by decide) (by decide) ?_
        refine E_min fX9_runTimer_85 (by decide) ?_
        refine E_istore (L' := [some (.ref 0), some (.int ix), some (.ref (5 + 3 * i)), some (.int z), some (.int el), some (.int (if (M.1 (5 + 3 * i) 3) < 0 then (M.1 (5 + 3 * i) 3) else 0))]) fX9_runTimer_88 rfl (Nat.le_of_ble_eq_true rfl) ?_
        refine E_aload_n fX9_runTimer_90 rfl (by decide) ?_
        refine E_getR (r' := 377) fX9_runTimer_91 (k0 hG) (by decide) (by decide) (by decide) rfl ?_
        refine E_getR (r' := 379) fX9_runTimer_94 (k377 hG) (by decide) (by decide) (by decide) rfl ?_
        refine E_aload_n fX9_runTimer_97 rfl (by have := (kr0_lt hi); omega) ?_
        refine E_getI fX9_runTimer_98 (kr0 hG hi) (kr0_lt hi) (by decide) (by decide) ?_
        refine E_iload fX9_runTimer_101 rfl ?_
        refine E_iast (n := a) (K := 20) fX9_runTimer_103 (k379 hG) ⟨by decide, by decide⟩ (by decide) ha ha8 ?_
        refine E_aload_n fX9_runTimer_104 rfl (by decide) ?_
        refine E_getR (r' := 377) fX9_runTimer_105 (k0 hG) (by decide) (by decide) (by decide) rfl ?_
        refine E_bipush (v := 24) fX9_runTimer_108 (by decide) ?_
        refine E_aload_n fX9_runTimer_110 rfl (by have := (kr0_lt hi); omega) ?_
        refine E_getI fX9_runTimer_111 (kr0 hG hi) (kr0_lt hi) (by decide) (by decide) ?_
        refine E_iadd fX9_runTimer_114 ?_
        refine E_iload fX9_runTimer_115 rfl ?_
        refine E_aload_n fX9_runTimer_117 rfl (by have := (kr0_lt hi); omega) ?_
        refine E_getI fX9_runTimer_118 (kr0 hG hi) (kr0_lt hi) (by decide) (by decide) ?_
        refine E_iclt (tg := 128) fX9_runTimer_121 (by decide) (fun c_121 => ?_) (fun c_121 => ?_)
        · refine E_iconst (v := 0) fX9_runTimer_128 (by decide) ?_
          obtain ⟨v3, M3, hR3, rfl, w3, rfl⟩ := write_ok (d := d) (M := (pI M 379 a (if (M.1 (5 + 3 * i) 3) < 0 then (M.1 (5 + 3 * i) 3) else 0))) hG (24 + ((pI M 379 a (if (M.1 (5 + 3 * i) 3) < 0 then (M.1 (5 + 3 * i) 3) else 0)).1 (5 + 3 * i) 2)) 0
          refine E_callV (t := []) hR3 fX9_runTimer_129 mX5_write (rc_obj (k377 hG) (by decide) (by decide)) ⟨by decide, rfl⟩ rfl rfl (by decide) ?_
          exact R_vret fX9_runTimer_132 mX9_runTimer rfl ⟨none, _, rfl, rfl, by repeat first | exact Fr.rf | refine Fr.pI ?_ rfl | refine Fr.pL ?_ rfl⟩
        · refine E_iconst (v := 1) fX9_runTimer_124 (by decide) ?_
          refine E_goto (tg := 129) fX9_runTimer_125 (by decide) ?_
          obtain ⟨v4, M4, hR4, rfl, w4, rfl⟩ := write_ok (d := d) (M := (pI M 379 a (if (M.1 (5 + 3 * i) 3) < 0 then (M.1 (5 + 3 * i) 3) else 0))) hG (24 + ((pI M 379 a (if (M.1 (5 + 3 * i) 3) < 0 then (M.1 (5 + 3 * i) 3) else 0)).1 (5 + 3 * i) 2)) 1
          refine E_callV (t := []) hR4 fX9_runTimer_129 mX5_write (rc_obj (k377 hG) (by decide) (by decide)) ⟨by decide, rfl⟩ rfl rfl (by decide) ?_
          exact R_vret fX9_runTimer_132 mX9_runTimer rfl ⟨none, _, rfl, rfl, by repeat first | exact Fr.rf | refine Fr.pI ?_ rfl | refine Fr.pL ?_ rfl⟩
    · refine E_iload fX9_runTimer_57 rfl ?_
      refine E_iload fX9_runTimer_59 rfl ?_
      refine E_iadd fX9_runTimer_61 ?_
      refine E_istore (L' := [some (.ref 0), some (.int ix), some (.ref (5 + 3 * i)), some (.int z), some (.int el), some (.int ((M.1 379 a) + el))]) fX9_runTimer_62 rfl (Nat.le_of_ble_eq_true rfl) ?_
      refine E_goto (tg := 79) fX9_runTimer_64 (by decide) ?_
      refine E_iload fX9_runTimer_79 rfl ?_
      refine E_aload_n fX9_runTimer_81 rfl (by have := (kr0_lt hi); omega) ?_
      refine E_getI fX9_runTimer_82 (kr0 hG hi) (kr0_lt hi) (by decide) (by decide) ?_
      refine E_min fX9_runTimer_85 (by decide) ?_
      refine E_istore (L' := [some (.ref 0), some (.int ix), some (.ref (5 + 3 * i)), some (.int z), some (.int el), some (.int (if (M.1 (5 + 3 * i) 3) < ((M.1 379 a) + el) then (M.1 (5 + 3 * i) 3) else ((M.1 379 a) + el)))]) fX9_runTimer_88 rfl (Nat.le_of_ble_eq_true rfl) ?_
      refine E_aload_n fX9_runTimer_90 rfl (by decide) ?_
      refine E_getR (r' := 377) fX9_runTimer_91 (k0 hG) (by decide) (by decide) (by decide) rfl ?_
      refine E_getR (r' := 379) fX9_runTimer_94 (k377 hG) (by decide) (by decide) (by decide) rfl ?_
      refine E_aload_n fX9_runTimer_97 rfl (by have := (kr0_lt hi); omega) ?_
      refine E_getI fX9_runTimer_98 (kr0 hG hi) (kr0_lt hi) (by decide) (by decide) ?_
      refine E_iload fX9_runTimer_101 rfl ?_
      refine E_iast (n := a) (K := 20) fX9_runTimer_103 (k379 hG) ⟨by decide, by decide⟩ (by decide) ha ha8 ?_
      refine E_aload_n fX9_runTimer_104 rfl (by decide) ?_
      refine E_getR (r' := 377) fX9_runTimer_105 (k0 hG) (by decide) (by decide) (by decide) rfl ?_
      refine E_bipush (v := 24) fX9_runTimer_108 (by decide) ?_
      refine E_aload_n fX9_runTimer_110 rfl (by have := (kr0_lt hi); omega) ?_
      refine E_getI fX9_runTimer_111 (kr0 hG hi) (kr0_lt hi) (by decide) (by decide) ?_
      refine E_iadd fX9_runTimer_114 ?_
      refine E_iload fX9_runTimer_115 rfl ?_
      refine E_aload_n fX9_runTimer_117 rfl (by have := (kr0_lt hi); omega) ?_
      refine E_getI fX9_runTimer_118 (kr0 hG hi) (kr0_lt hi) (by decide) (by decide) ?_
      refine E_iclt (tg := 128) fX9_runTimer_121 (by decide) (fun c_121 => ?_) (fun c_121 => ?_)
      · refine E_iconst (v := 0) fX9_runTimer_128 (by decide) ?_
        obtain ⟨v5, M5, hR5, rfl, w5, rfl⟩ := write_ok (d := d) (M := (pI M 379 a (if (M.1 (5 + 3 * i) 3) < ((M.1 379 a) + el) then (M.1 (5 + 3 * i) 3) else ((M.1 379 a) + el)))) hG (24 + ((pI M 379 a (if (M.1 (5 + 3 * i) 3) < ((M.1 379 a) + el) then (M.1 (5 + 3 * i) 3) else ((M.1 379 a) + el))).1 (5 + 3 * i) 2)) 0
        refine E_callV (t := []) hR5 fX9_runTimer_129 mX5_write (rc_obj (k377 hG) (by decide) (by decide)) ⟨by decide, rfl⟩ rfl rfl (by decide) ?_
        exact R_vret fX9_runTimer_132 mX9_runTimer rfl ⟨none, _, rfl, rfl, by repeat first | exact Fr.rf | refine Fr.pI ?_ rfl | refine Fr.pL ?_ rfl⟩
      · refine E_iconst (v := 1) fX9_runTimer_124 (by decide) ?_
        refine E_goto (tg := 129) fX9_runTimer_125 (by decide) ?_
        obtain ⟨v6, M6, hR6, rfl, w6, rfl⟩ := write_ok (d := d) (M := (pI M 379 a (if (M.1 (5 + 3 * i) 3) < ((M.1 379 a) + el) then (M.1 (5 + 3 * i) 3) else ((M.1 379 a) + el)))) hG (24 + ((pI M 379 a (if (M.1 (5 + 3 * i) 3) < ((M.1 379 a) + el) then (M.1 (5 + 3 * i) 3) else ((M.1 379 a) + el))).1 (5 + 3 * i) 2)) 1
        refine E_callV (t := []) hR6 fX9_runTimer_129 mX5_write (rc_obj (k377 hG) (by decide) (by decide)) ⟨by decide, rfl⟩ rfl rfl (by decide) ?_
        exact R_vret fX9_runTimer_132 mX9_runTimer rfl ⟨none, _, rfl, rfl, by repeat first | exact Fr.rf | refine Fr.pI ?_ rfl | refine Fr.pL ?_ rfl⟩
  · refine E_iload_n fX9_runTimer_23 rfl ?_
    refine E_ifeq (tg := 41) fX9_runTimer_24 (by decide) (fun c_24 => ?_) (fun c_24 => ?_)
    · refine E_aload_n fX9_runTimer_41 rfl (by decide) ?_
      refine E_getR (r' := 377) fX9_runTimer_42 (k0 hG) (by decide) (by decide) (by decide) rfl ?_
      refine E_iload_n fX9_runTimer_45 rfl ?_
      refine E_iload_n fX9_runTimer_46 rfl ?_
      obtain ⟨v7, M7, hR7, rfl, w7, rfl⟩ := keepHolding_ok (d := d) (M := M) hG ix z
      refine E_callV (t := []) hR7 fX9_runTimer_47 mX5_keepHolding (rc_obj (k377 hG) (by decide) (by decide)) ⟨by decide, rfl⟩ rfl rfl (by decide) ?_
      refine E_goto (tg := 79) fX9_runTimer_50 (by decide) ?_
      refine E_iload fX9_runTimer_79 rfl ?_
      refine E_aload_n fX9_runTimer_81 rfl (by have := (kr0_lt hi); omega) ?_
      refine E_getI fX9_runTimer_82 (kr0 hG hi) (kr0_lt hi) (by decide) (by decide) ?_
      refine E_min fX9_runTimer_85 (by decide) ?_
      refine E_istore (L' := [some (.ref 0), some (.int ix), some (.ref (5 + 3 * i)), some (.int z), some (.int el), some (.int (if ((pL M 377 w7).1 (5 + 3 * i) 3) < (M.1 379 a) then ((pL M 377 w7).1 (5 + 3 * i) 3) else (M.1 379 a)))]) fX9_runTimer_88 rfl (Nat.le_of_ble_eq_true rfl) ?_
      refine E_aload_n fX9_runTimer_90 rfl (by decide) ?_
      refine E_getR (r' := 377) fX9_runTimer_91 (k0 hG) (by decide) (by decide) (by decide) rfl ?_
      refine E_getR (r' := 379) fX9_runTimer_94 (k377 hG) (by decide) (by decide) (by decide) rfl ?_
      refine E_aload_n fX9_runTimer_97 rfl (by have := (kr0_lt hi); omega) ?_
      refine E_getI fX9_runTimer_98 (kr0 hG hi) (kr0_lt hi) (by decide) (by decide) ?_
      refine E_iload fX9_runTimer_101 rfl ?_
      refine E_iast (n := a) (K := 20) fX9_runTimer_103 (k379 hG) ⟨by decide, by decide⟩ (by decide) ha ha8 ?_
      refine E_aload_n fX9_runTimer_104 rfl (by decide) ?_
      refine E_getR (r' := 377) fX9_runTimer_105 (k0 hG) (by decide) (by decide) (by decide) rfl ?_
      refine E_bipush (v := 24) fX9_runTimer_108 (by decide) ?_
      refine E_aload_n fX9_runTimer_110 rfl (by have := (kr0_lt hi); omega) ?_
      refine E_getI fX9_runTimer_111 (kr0 hG hi) (kr0_lt hi) (by decide) (by decide) ?_
      refine E_iadd fX9_runTimer_114 ?_
      refine E_iload fX9_runTimer_115 rfl ?_
      refine E_aload_n fX9_runTimer_117 rfl (by have := (kr0_lt hi); omega) ?_
      refine E_getI fX9_runTimer_118 (kr0 hG hi) (kr0_lt hi) (by decide) (by decide) ?_
      refine E_iclt (tg := 128) fX9_runTimer_121 (by decide) (fun c_121 => ?_) (fun c_121 => ?_)
      · refine E_iconst (v := 0) fX9_runTimer_128 (by decide) ?_
        obtain ⟨v8, M8, hR8, rfl, w8, rfl⟩ := write_ok (d := d) (M := (pI (pL M 377 w7) 379 a (if ((pL M 377 w7).1 (5 + 3 * i) 3) < (M.1 379 a) then ((pL M 377 w7).1 (5 + 3 * i) 3) else (M.1 379 a)))) hG (24 + ((pI (pL M 377 w7) 379 a (if ((pL M 377 w7).1 (5 + 3 * i) 3) < (M.1 379 a) then ((pL M 377 w7).1 (5 + 3 * i) 3) else (M.1 379 a))).1 (5 + 3 * i) 2)) 0
        refine E_callV (t := []) hR8 fX9_runTimer_129 mX5_write (rc_obj (k377 hG) (by decide) (by decide)) ⟨by decide, rfl⟩ rfl rfl (by decide) ?_
        exact R_vret fX9_runTimer_132 mX9_runTimer rfl ⟨none, _, rfl, rfl, by repeat first | exact Fr.rf | refine Fr.pI ?_ rfl | refine Fr.pL ?_ rfl⟩
      · refine E_iconst (v := 1) fX9_runTimer_124 (by decide) ?_
        refine E_goto (tg := 129) fX9_runTimer_125 (by decide) ?_
        obtain ⟨v9, M9, hR9, rfl, w9, rfl⟩ := write_ok (d := d) (M := (pI (pL M 377 w7) 379 a (if ((pL M 377 w7).1 (5 + 3 * i) 3) < (M.1 379 a) then ((pL M 377 w7).1 (5 + 3 * i) 3) else (M.1 379 a)))) hG (24 + ((pI (pL M 377 w7) 379 a (if ((pL M 377 w7).1 (5 + 3 * i) 3) < (M.1 379 a) then ((pL M 377 w7).1 (5 + 3 * i) 3) else (M.1 379 a))).1 (5 + 3 * i) 2)) 1
        refine E_callV (t := []) hR9 fX9_runTimer_129 mX5_write (rc_obj (k377 hG) (by decide) (by decide)) ⟨by decide, rfl⟩ rfl rfl (by decide) ?_
        exact R_vret fX9_runTimer_132 mX9_runTimer rfl ⟨none, _, rfl, rfl, by repeat first | exact Fr.rf | refine Fr.pI ?_ rfl | refine Fr.pL ?_ rfl⟩
    · refine E_aload_n fX9_runTimer_27 rfl (by decide) ?_
      refine E_getR (r' := 377) fX9_runTimer_28 (k0 hG) (by decide) (by decide) (by decide) rfl ?_
      refine E_iload_n fX9_runTimer_31 rfl ?_
      obtain ⟨vd, Md, hRd, hMd, zd, rfl, hzd⟩ := didHold_ok (d := d) (M := M) hG ix
      rw [hMd] at hRd
      refine E_callV (t := []) hRd fX9_runTimer_32 mX5_didHold (rc_obj (k377 hG) (by decide) (by decide)) ⟨by decide, rfl⟩ rfl rfl (by decide) ?_
      refine E_ifne (tg := 41) fX9_runTimer_35 (by decide) (fun c_35 => ?_) (fun c_35 => ?_)
      · refine E_aload_n fX9_runTimer_41 rfl (by decide) ?_
        refine E_getR (r' := 377) fX9_runTimer_42 (k0 hG) (by decide) (by decide) (by decide) rfl ?_
        refine E_iload_n fX9_runTimer_45 rfl ?_
        refine E_iload_n fX9_runTimer_46 rfl ?_
        obtain ⟨v10, M10, hR10, rfl, w10, rfl⟩ := keepHolding_ok (d := d) (M := M) hG ix z
        refine E_callV (t := []) hR10 fX9_runTimer_47 mX5_keepHolding (rc_obj (k377 hG) (by decide) (by decide)) ⟨by decide, rfl⟩ rfl rfl (by decide) ?_
        refine E_goto (tg := 79) fX9_runTimer_50 (by decide) ?_
        refine E_iload fX9_runTimer_79 rfl ?_
        refine E_aload_n fX9_runTimer_81 rfl (by have := (kr0_lt hi); omega) ?_
        refine E_getI fX9_runTimer_82 (kr0 hG hi) (kr0_lt hi) (by decide) (by decide) ?_
        refine E_min fX9_runTimer_85 (by decide) ?_
        refine E_istore (L' := [some (.ref 0), some (.int ix), some (.ref (5 + 3 * i)), some (.int z), some (.int el), some (.int (if ((pL M 377 w10).1 (5 + 3 * i) 3) < (M.1 379 a) then ((pL M 377 w10).1 (5 + 3 * i) 3) else (M.1 379 a)))]) fX9_runTimer_88 rfl (Nat.le_of_ble_eq_true rfl) ?_
        refine E_aload_n fX9_runTimer_90 rfl (by decide) ?_
        refine E_getR (r' := 377) fX9_runTimer_91 (k0 hG) (by decide) (by decide) (by decide) rfl ?_
        refine E_getR (r' := 379) fX9_runTimer_94 (k377 hG) (by decide) (by decide) (by decide) rfl ?_
        refine E_aload_n fX9_runTimer_97 rfl (by have := (kr0_lt hi); omega) ?_
        refine E_getI fX9_runTimer_98 (kr0 hG hi) (kr0_lt hi) (by decide) (by decide) ?_
        refine E_iload fX9_runTimer_101 rfl ?_
        refine E_iast (n := a) (K := 20) fX9_runTimer_103 (k379 hG) ⟨by decide, by decide⟩ (by decide) ha ha8 ?_
        refine E_aload_n fX9_runTimer_104 rfl (by decide) ?_
        refine E_getR (r' := 377) fX9_runTimer_105 (k0 hG) (by decide) (by decide) (by decide) rfl ?_
        refine E_bipush (v := 24) fX9_runTimer_108 (by decide) ?_
        refine E_aload_n fX9_runTimer_110 rfl (by have := (kr0_lt hi); omega) ?_
        refine E_getI fX9_runTimer_111 (kr0 hG hi) (kr0_lt hi) (by decide) (by decide) ?_
        refine E_iadd fX9_runTimer_114 ?_
        refine E_iload fX9_runTimer_115 rfl ?_
        refine E_aload_n fX9_runTimer_117 rfl (by have := (kr0_lt hi); omega) ?_
        refine E_getI fX9_runTimer_118 (kr0 hG hi) (kr0_lt hi) (by decide) (by decide) ?_
        refine E_iclt (tg := 128) fX9_runTimer_121 (by decide) (fun c_121 => ?_) (fun c_121 => ?_)
        · refine E_iconst (v := 0) fX9_runTimer_128 (by decide) ?_
          obtain ⟨v11, M11, hR11, rfl, w11, rfl⟩ := write_ok (d := d) (M := (pI (pL M 377 w10) 379 a (if ((pL M 377 w10).1 (5 + 3 * i) 3) < (M.1 379 a) then ((pL M 377 w10).1 (5 + 3 * i) 3) else (M.1 379 a)))) hG (24 + ((pI (pL M 377 w10) 379 a (if ((pL M 377 w10).1 (5 + 3 * i) 3) < (M.1 379 a) then ((pL M 377 w10).1 (5 + 3 * i) 3) else (M.1 379 a))).1 (5 + 3 * i) 2)) 0
          refine E_callV (t := []) hR11 fX9_runTimer_129 mX5_write (rc_obj (k377 hG) (by decide) (by decide)) ⟨by decide, rfl⟩ rfl rfl (by decide) ?_
          exact R_vret fX9_runTimer_132 mX9_runTimer rfl ⟨none, _, rfl, rfl, by repeat first | exact Fr.rf | refine Fr.pI ?_ rfl | refine Fr.pL ?_ rfl⟩
        · refine E_iconst (v := 1) fX9_runTimer_124 (by decide) ?_
          refine E_goto (tg := 129) fX9_runTimer_125 (by decide) ?_
          obtain ⟨v12, M12, hR12, rfl, w12, rfl⟩ := write_ok (d := d) (M := (pI (pL M 377 w10) 379 a (if ((pL M 377 w10).1 (5 + 3 * i) 3) < (M.1 379 a) then ((pL M 377 w10).1 (5 + 3 * i) 3) else (M.1 379 a)))) hG (24 + ((pI (pL M 377 w10) 379 a (if ((pL M 377 w10).1 (5 + 3 * i) 3) < (M.1 379 a) then ((pL M 377 w10).1 (5 + 3 * i) 3) else (M.1 379 a))).1 (5 + 3 * i) 2)) 1
          refine E_callV (t := []) hR12 fX9_runTimer_129 mX5_write (rc_obj (k377 hG) (by decide) (by decide)) ⟨by decide, rfl⟩ rfl rfl (by decide) ?_
          exact R_vret fX9_runTimer_132 mX9_runTimer rfl ⟨none, _, rfl, rfl, by repeat first | exact Fr.rf | refine Fr.pI ?_ rfl | refine Fr.pL ?_ rfl⟩
      · refine E_iinc (v := (M.1 379 a) + 1) (L' := [some (.ref 0), some (.int ix), some (.ref (5 + 3 * i)), some (.int z), some (.int el), some (.int ((M.1 379 a) + 1))]) fX9_runTimer_38 rfl rfl rfl ?_
        refine E_aload_n fX9_runTimer_41 rfl (by decide) ?_
        refine E_getR (r' := 377) fX9_runTimer_42 (k0 hG) (by decide) (by decide) (by decide) rfl ?_
        refine E_iload_n fX9_runTimer_45 rfl ?_
        refine E_iload_n fX9_runTimer_46 rfl ?_
        obtain ⟨v13, M13, hR13, rfl, w13, rfl⟩ := keepHolding_ok (d := d) (M := M) hG ix z
        refine E_callV (t := []) hR13 fX9_runTimer_47 mX5_keepHolding (rc_obj (k377 hG) (by decide) (by decide)) ⟨by decide, rfl⟩ rfl rfl (by decide) ?_
        refine E_goto (tg := 79) fX9_runTimer_50 (by decide) ?_
        refine E_iload fX9_runTimer_79 rfl ?_
        refine E_aload_n fX9_runTimer_81 rfl (by have := (kr0_lt hi); omega) ?_
        refine E_getI fX9_runTimer_82 (kr0 hG hi) (kr0_lt hi) (by decide) (by decide) ?_
        refine E_min fX9_runTimer_85 (by decide) ?_
        refine E_istore (L' := [some (.ref 0), some (.int ix), some (.ref (5 + 3 * i)), some (.int z), some (.int el), some (.int (if ((pL M 377 w13).1 (5 + 3 * i) 3) < ((M.1 379 a) + 1) then ((pL M 377 w13).1 (5 + 3 * i) 3) else ((M.1 379 a) + 1)))]) fX9_runTimer_88 rfl (Nat.le_of_ble_eq_true rfl) ?_
        refine E_aload_n fX9_runTimer_90 rfl (by decide) ?_
        refine E_getR (r' := 377) fX9_runTimer_91 (k0 hG) (by decide) (by decide) (by decide) rfl ?_
        refine E_getR (r' := 379) fX9_runTimer_94 (k377 hG) (by decide) (by decide) (by decide) rfl ?_
        refine E_aload_n fX9_runTimer_97 rfl (by have := (kr0_lt hi); omega) ?_
        refine E_getI fX9_runTimer_98 (kr0 hG hi) (kr0_lt hi) (by decide) (by decide) ?_
        refine E_iload fX9_runTimer_101 rfl ?_
        refine E_iast (n := a) (K := 20) fX9_runTimer_103 (k379 hG) ⟨by decide, by decide⟩ (by decide) ha ha8 ?_
        refine E_aload_n fX9_runTimer_104 rfl (by decide) ?_
        refine E_getR (r' := 377) fX9_runTimer_105 (k0 hG) (by decide) (by decide) (by decide) rfl ?_
        refine E_bipush (v := 24) fX9_runTimer_108 (by decide) ?_
        refine E_aload_n fX9_runTimer_110 rfl (by have := (kr0_lt hi); omega) ?_
        refine E_getI fX9_runTimer_111 (kr0 hG hi) (kr0_lt hi) (by decide) (by decide) ?_
        refine E_iadd fX9_runTimer_114 ?_
        refine E_iload fX9_runTimer_115 rfl ?_
        refine E_aload_n fX9_runTimer_117 rfl (by have := (kr0_lt hi); omega) ?_
        refine E_getI fX9_runTimer_118 (kr0 hG hi) (kr0_lt hi) (by decide) (by decide) ?_
        refine E_iclt (tg := 128) fX9_runTimer_121 (by decide) (fun c_121 => ?_) (fun c_121 => ?_)
        · refine E_iconst (v := 0) fX9_runTimer_128 (by decide) ?_
          obtain ⟨v14, M14, hR14, rfl, w14, rfl⟩ := write_ok (d := d) (M := (pI (pL M 377 w13) 379 a (if ((pL M 377 w13).1 (5 + 3 * i) 3) < ((M.1 379 a) + 1) then ((pL M 377 w13).1 (5 + 3 * i) 3) else ((M.1 379 a) + 1)))) hG (24 + ((pI (pL M 377 w13) 379 a (if ((pL M 377 w13).1 (5 + 3 * i) 3) < ((M.1 379 a) + 1) then ((pL M 377 w13).1 (5 + 3 * i) 3) else ((M.1 379 a) + 1))).1 (5 + 3 * i) 2)) 0
          refine E_callV (t := []) hR14 fX9_runTimer_129 mX5_write (rc_obj (k377 hG) (by decide) (by decide)) ⟨by decide, rfl⟩ rfl rfl (by decide) ?_
          exact R_vret fX9_runTimer_132 mX9_runTimer rfl ⟨none, _, rfl, rfl, by repeat first | exact Fr.rf | refine Fr.pI ?_ rfl | refine Fr.pL ?_ rfl⟩
        · refine E_iconst (v := 1) fX9_runTimer_124 (by decide) ?_
          refine E_goto (tg := 129) fX9_runTimer_125 (by decide) ?_
          obtain ⟨v15, M15, hR15, rfl, w15, rfl⟩ := write_ok (d := d) (M := (pI (pL M 377 w13) 379 a (if ((pL M 377 w13).1 (5 + 3 * i) 3) < ((M.1 379 a) + 1) then ((pL M 377 w13).1 (5 + 3 * i) 3) else ((M.1 379 a) + 1)))) hG (24 + ((pI (pL M 377 w13) 379 a (if ((pL M 377 w13).1 (5 + 3 * i) 3) < ((M.1 379 a) + 1) then ((pL M 377 w13).1 (5 + 3 * i) 3) else ((M.1 379 a) + 1))).1 (5 + 3 * i) 2)) 1
          refine E_callV (t := []) hR15 fX9_runTimer_129 mX5_write (rc_obj (k377 hG) (by decide) (by decide)) ⟨by decide, rfl⟩ rfl rfl (by decide) ?_
          exact R_vret fX9_runTimer_132 mX9_runTimer rfl ⟨none, _, rfl, rfl, by repeat first | exact Fr.rf | refine Fr.pI ?_ rfl | refine Fr.pL ?_ rfl⟩
theorem doIfHeld_ok (hG : Core G) {i : Nat} (hi : i < 40) (hK : RKc M (5 + 3 * i)) : ∃ v M', Ret G (d + 2) 98 [.ref 0, .ref (5 + 3 * i)] M v M' ∧ (v = none ∧ Fr rwB M M') := by
  refine X_start (d := d + 1) (by decide) mX9_doIfHeld ?_
  show E _ _ _ (0, [some (.ref 0), some (.ref (5 + 3 * i))], [], M, 0) _
  refine E_aload_n fX9_doIfHeld_0 rfl (by have := (kr0_lt hi); omega) ?_
  refine E_getI fX9_doIfHeld_1 (kr0 hG hi) (kr0_lt hi) (by decide) (by decide) ?_
  by_cases e43_4 : (M.1 (5 + 3 * i) 1) = 43
  · refine E_lsw (off := 132) (tg := 136) fX9_doIfHeld_4 (by rw [e43_4]; rfl) (by decide) ?_
    obtain ⟨a, ha8, ha⟩ := hK.2.1 (Or.inr (Or.inr (Or.inr (Or.inr (Or.inr (Or.inl e43_4))))))
    obtain ⟨b, hb8, hb⟩ := hK.1 (Or.inr (e43_4))
    refine E_aload_n fX9_doIfHeld_136 rfl (by decide) ?_
    refine E_getR (r' := 377) fX9_doIfHeld_137 (k0 hG) (by decide) (by decide) (by decide) rfl ?_
    refine E_getR (r' := 378) fX9_doIfHeld_140 (k377 hG) (by decide) (by decide) (by decide) rfl ?_
    refine E_aload_n fX9_doIfHeld_143 rfl (by have := (kr0_lt hi); omega) ?_
    refine E_getI fX9_doIfHeld_144 (kr0 hG hi) (kr0_lt hi) (by decide) (by decide) ?_
    refine E_dup2 fX9_doIfHeld_147 rfl rfl ?_
    refine E_iald (n := a) (K := 20) fX9_doIfHeld_148 (k378 hG) ⟨by decide, by decide⟩ (by decide) ha ha8 ?_
    refine E_aload_n fX9_doIfHeld_149 rfl (by decide) ?_
    refine E_getR (r' := 377) fX9_doIfHeld_150 (k0 hG) (by decide) (by decide) (by decide) rfl ?_
    refine E_getR (r' := 378) fX9_doIfHeld_153 (k377 hG) (by decide) (by decide) (by decide) rfl ?_
    refine E_aload_n fX9_doIfHeld_156 rfl (by have := (kr0_lt hi); omega) ?_
    refine E_getI fX9_doIfHeld_157 (kr0 hG hi) (kr0_lt hi) (by decide) (by decide) ?_
    refine E_iald (n := b) (K := 20) fX9_doIfHeld_160 (k378 hG) ⟨by decide, by decide⟩ (by decide) hb hb8 ?_
    refine E_iadd fX9_doIfHeld_161 ?_
    refine E_iast (n := a) (K := 20) fX9_doIfHeld_162 (k378 hG) ⟨by decide, by decide⟩ (by decide) ha ha8 ?_
    refine E_goto (tg := 166) fX9_doIfHeld_163 (by decide) ?_
    exact R_vret fX9_doIfHeld_166 mX9_doIfHeld rfl ⟨none, _, rfl, rfl, by repeat first | exact Fr.rf | refine Fr.pI ?_ rfl | refine Fr.pL ?_ rfl⟩
  · by_cases e90_4 : (M.1 (5 + 3 * i) 1) = 90
    · refine E_lsw (off := 82) (tg := 86) fX9_doIfHeld_4 (by rw [e90_4]; rfl) (by decide) ?_
      obtain ⟨a, ha8, ha⟩ := hK.2.1 (Or.inr (Or.inr (Or.inr (Or.inl e90_4))))
      refine E_aload_n fX9_doIfHeld_86 rfl (by decide) ?_
      refine E_getR (r' := 377) fX9_doIfHeld_87 (k0 hG) (by decide) (by decide) (by decide) rfl ?_
      refine E_getR (r' := 379) fX9_doIfHeld_90 (k377 hG) (by decide) (by decide) (by decide) rfl ?_
      refine E_aload_n fX9_doIfHeld_93 rfl (by have := (kr0_lt hi); omega) ?_
      refine E_getI fX9_doIfHeld_94 (kr0 hG hi) (kr0_lt hi) (by decide) (by decide) ?_
      refine E_iconst (v := 0) fX9_doIfHeld_97 (by decide) ?_
      refine E_iast (n := a) (K := 20) fX9_doIfHeld_98 (k379 hG) ⟨by decide, by decide⟩ (by decide) ha ha8 ?_
      refine E_aload_n fX9_doIfHeld_99 rfl (by decide) ?_
      refine E_getR (r' := 377) fX9_doIfHeld_100 (k0 hG) (by decide) (by decide) (by decide) rfl ?_
      refine E_bipush (v := 24) fX9_doIfHeld_103 (by decide) ?_
      refine E_aload_n fX9_doIfHeld_105 rfl (by have := (kr0_lt hi); omega) ?_
      refine E_getI fX9_doIfHeld_106 (kr0 hG hi) (kr0_lt hi) (by decide) (by decide) ?_
      refine E_iadd fX9_doIfHeld_109 ?_
      refine E_iconst (v := 0) fX9_doIfHeld_110 (by decide) ?_
      obtain ⟨v1, M1, hR1, rfl, w1, rfl⟩ := write_ok (d := d) (M := (pI M 379 a 0)) hG (24 + ((pI M 379 a 0).1 (5 + 3 * i) 2)) 0
      refine E_callV (t := []) hR1 fX9_doIfHeld_111 mX5_write (rc_obj (k377 hG) (by decide) (by decide)) ⟨by decide, rfl⟩ rfl rfl (by decide) ?_
      refine E_goto (tg := 166) fX9_doIfHeld_114 (by decide) ?_
      exact R_vret fX9_doIfHeld_166 mX9_doIfHeld rfl ⟨none, _, rfl, rfl, by repeat first | exact Fr.rf | refine Fr.pI ?_ rfl | refine Fr.pL ?_ rfl⟩
    · by_cases e107_4 : (M.1 (5 + 3 * i) 1) = 107
      · refine E_lsw (off := 113) (tg := 117) fX9_doIfHeld_4 (by rw [e107_4]; rfl) (by decide) ?_
        obtain ⟨a, ha8, ha⟩ := hK.2.1 (Or.inr (Or.inr (Or.inr (Or.inr (Or.inl e107_4)))))
        refine E_aload_n fX9_doIfHeld_117 rfl (by decide) ?_
        refine E_getR (r' := 377) fX9_doIfHeld_118 (k0 hG) (by decide) (by decide) (by decide) rfl ?_
        refine E_getR (r' := 378) fX9_doIfHeld_121 (k377 hG) (by decide) (by decide) (by decide) rfl ?_
        refine E_aload_n fX9_doIfHeld_124 rfl (by have := (kr0_lt hi); omega) ?_
        refine E_getI fX9_doIfHeld_125 (kr0 hG hi) (kr0_lt hi) (by decide) (by decide) ?_
        refine E_aload_n fX9_doIfHeld_128 rfl (by have := (kr0_lt hi); omega) ?_
        refine E_getI fX9_doIfHeld_129 (kr0 hG hi) (kr0_lt hi) (by decide) (by decide) ?_
        refine E_iast (n := a) (K := 20) fX9_doIfHeld_132 (k378 hG) ⟨by decide, by decide⟩ (by decide) ha ha8 ?_
        refine E_goto (tg := 166) fX9_doIfHeld_133 (by decide) ?_
        exact R_vret fX9_doIfHeld_166 mX9_doIfHeld rfl ⟨none, _, rfl, rfl, by repeat first | exact Fr.rf | refine Fr.pI ?_ rfl | refine Fr.pL ?_ rfl⟩
      · by_cases e114_4 : (M.1 (5 + 3 * i) 1) = 114
        · refine E_lsw (off := 67) (tg := 71) fX9_doIfHeld_4 (by rw [e114_4]; rfl) (by decide) ?_
          refine E_aload_n fX9_doIfHeld_71 rfl (by decide) ?_
          refine E_getR (r' := 377) fX9_doIfHeld_72 (k0 hG) (by decide) (by decide) (by decide) rfl ?_
          refine E_aload_n fX9_doIfHeld_75 rfl (by have := (kr0_lt hi); omega) ?_
          refine E_getI fX9_doIfHeld_76 (kr0 hG hi) (kr0_lt hi) (by decide) (by decide) ?_
          refine E_iconst (v := 0) fX9_doIfHeld_79 (by decide) ?_
          obtain ⟨v2, M2, hR2, rfl, w2, rfl⟩ := write_ok (d := d) (M := M) hG (M.1 (5 + 3 * i) 2) 0
          refine E_callV (t := []) hR2 fX9_doIfHeld_80 mX5_write (rc_obj (k377 hG) (by decide) (by decide)) ⟨by decide, rfl⟩ rfl rfl (by decide) ?_
          refine E_goto (tg := 166) fX9_doIfHeld_83 (by decide) ?_
          exact R_vret fX9_doIfHeld_166 mX9_doIfHeld rfl ⟨none, _, rfl, rfl, by repeat first | exact Fr.rf | refine Fr.pI ?_ rfl | refine Fr.pL ?_ rfl⟩
        · by_cases e115_4 : (M.1 (5 + 3 * i) 1) = 115
          · refine E_lsw (off := 52) (tg := 56) fX9_doIfHeld_4 (by rw [e115_4]; rfl) (by decide) ?_
            refine E_aload_n fX9_doIfHeld_56 rfl (by decide) ?_
            refine E_getR (r' := 377) fX9_doIfHeld_57 (k0 hG) (by decide) (by decide) (by decide) rfl ?_
            refine E_aload_n fX9_doIfHeld_60 rfl (by have := (kr0_lt hi); omega) ?_
            refine E_getI fX9_doIfHeld_61 (kr0 hG hi) (kr0_lt hi) (by decide) (by decide) ?_
            refine E_iconst (v := 1) fX9_doIfHeld_64 (by decide) ?_
            obtain ⟨v3, M3, hR3, rfl, w3, rfl⟩ := write_ok (d := d) (M := M) hG (M.1 (5 + 3 * i) 2) 1
            refine E_callV (t := []) hR3 fX9_doIfHeld_65 mX5_write (rc_obj (k377 hG) (by decide) (by decide)) ⟨by decide, rfl⟩ rfl rfl (by decide) ?_
            refine E_goto (tg := 166) fX9_doIfHeld_68 (by decide) ?_
            exact R_vret fX9_doIfHeld_166 mX9_doIfHeld rfl ⟨none, _, rfl, rfl, by repeat first | exact Fr.rf | refine Fr.pI ?_ rfl | refine Fr.pL ?_ rfl⟩
          · refine E_lsw (off := 162) (tg := 166) fX9_doIfHeld_4 (by show Jvm.Op.lookupswitch.offset [(43, 132), (90, 82), (107, 113), (114, 67), (115, 52)] (162) _ = 162; rw [Jvm.Op.lookupswitch.offset_cons, if_neg (tI_ne (z := 43) e43_4 (by decide)), Jvm.Op.lookupswitch.offset_cons, if_neg (tI_ne (z := 90) e90_4 (by decide)), Jvm.Op.lookupswitch.offset_cons, if_neg (tI_ne (z := 107) e107_4 (by decide)), Jvm.Op.lookupswitch.offset_cons, if_neg (tI_ne (z := 114) e114_4 (by decide)), Jvm.Op.lookupswitch.offset_cons, if_neg (tI_ne (z := 115) e115_4 (by decide)), Jvm.Op.lookupswitch.offset_nil]) (by decide) ?_
            exact R_vret fX9_doIfHeld_166 mX9_doIfHeld rfl ⟨none, _, rfl, rfl, by repeat first | exact Fr.rf | refine Fr.pI ?_ rfl | refine Fr.pL ?_ rfl⟩
theorem doRung_ok (hG : Core G) {i : Nat} (hi : i < 40) (hK : RKc M (5 + 3 * i)) (hA : AI M) (ix z el : Int32) : ∃ v M', Ret G (d + 3) 97 [.ref 0, .int ix, .ref (5 + 3 * i), .int z, .int el] M v M' ∧ (v = none ∧ AI M' ∧ Fr rgB M M') := by
  refine X_start (d := d + 2) (by decide) mX9_doRung ?_
  show E _ _ _ (0, [some (.ref 0), some (.int ix), some (.ref (5 + 3 * i)), some (.int z), some (.int el)], [], M, 0) _
  refine E_aload_n fX9_doRung_0 rfl (by have := (kr0_lt hi); omega) ?_
  refine E_getI fX9_doRung_1 (kr0 hG hi) (kr0_lt hi) (by decide) (by decide) ?_
  by_cases e60_4 : (M.1 (5 + 3 * i) 1) = 60
  · refine E_lsw (off := 75) (tg := 79) fX9_doRung_4 (by rw [e60_4]; rfl) (by decide) ?_
    obtain ⟨b, hb8, hb⟩ := hK.1 (Or.inl e60_4)
    refine E_aload_n fX9_doRung_79 rfl (by decide) ?_
    refine E_getR (r' := 377) fX9_doRung_80 (k0 hG) (by decide) (by decide) (by decide) rfl ?_
    refine E_aload_n fX9_doRung_83 rfl (by have := (kr0_lt hi); omega) ?_
    refine E_getI fX9_doRung_84 (kr0 hG hi) (kr0_lt hi) (by decide) (by decide) ?_
    refine E_iload_n fX9_doRung_87 rfl ?_
    refine E_ifeq (tg := 119) fX9_doRung_88 (by decide) (fun c_88 => ?_) (fun c_88 => ?_)
    · refine E_iconst (v := 0) fX9_doRung_119 (by decide) ?_
      obtain ⟨v1, M1, hR1, rfl, w1, rfl⟩ := write_ok (d := d + 1) (M := M) hG (M.1 (5 + 3 * i) 2) 0
      refine E_callV (t := []) hR1 fX9_doRung_120 mX5_write (rc_obj (k377 hG) (by decide) (by decide)) ⟨by decide, rfl⟩ rfl rfl (by decide) ?_
      refine E_goto (tg := 185) fX9_doRung_123 (by decide) ?_
      exact R_vret fX9_doRung_185 mX9_doRung rfl ⟨none, _, rfl, rfl, hA.rw (by repeat first | exact Fr.rf | refine Fr.pI ?_ rfl | refine Fr.pL ?_ rfl), Fr.mono (p := rwB) (by repeat first | exact Fr.rf | refine Fr.pI ?_ rfl | refine Fr.pL ?_ rfl) rwB_rgB⟩
    · refine E_aload_n fX9_doRung_91 rfl (by decide) ?_
      refine E_getR (r' := 377) fX9_doRung_92 (k0 hG) (by decide) (by decide) (by decide) rfl ?_
      refine E_getR (r' := 378) fX9_doRung_95 (k377 hG) (by decide) (by decide) (by decide) rfl ?_
      refine E_aload_n fX9_doRung_98 rfl (by have := (kr0_lt hi); omega) ?_
      refine E_getI fX9_doRung_99 (kr0 hG hi) (kr0_lt hi) (by decide) (by decide) ?_
      refine E_iald (n := b) (K := 20) fX9_doRung_102 (k378 hG) ⟨by decide, by decide⟩ (by decide) hb hb8 ?_
      refine E_aload_n fX9_doRung_103 rfl (by decide) ?_
      refine E_getR (r' := 377) fX9_doRung_104 (k0 hG) (by decide) (by decide) (by decide) rfl ?_
      refine E_getR (r' := 378) fX9_doRung_107 (k377 hG) (by decide) (by decide) (by decide) rfl ?_
      refine E_iconst (v := 0) fX9_doRung_110 (by decide) ?_
      refine E_iald (n := 0) (K := 20) fX9_doRung_111 (k378 hG) ⟨by decide, by decide⟩ (by decide) rfl (by decide) ?_
      refine E_icge (tg := 119) fX9_doRung_112 (by decide) (fun c_112 => ?_) (fun c_112 => ?_)
      · refine E_iconst (v := 0) fX9_doRung_119 (by decide) ?_
        obtain ⟨v2, M2, hR2, rfl, w2, rfl⟩ := write_ok (d := d + 1) (M := M) hG (M.1 (5 + 3 * i) 2) 0
        refine E_callV (t := []) hR2 fX9_doRung_120 mX5_write (rc_obj (k377 hG) (by decide) (by decide)) ⟨by decide, rfl⟩ rfl rfl (by decide) ?_
        refine E_goto (tg := 185) fX9_doRung_123 (by decide) ?_
        exact R_vret fX9_doRung_185 mX9_doRung rfl ⟨none, _, rfl, rfl, hA.rw (by repeat first | exact Fr.rf | refine Fr.pI ?_ rfl | refine Fr.pL ?_ rfl), Fr.mono (p := rwB) (by repeat first | exact Fr.rf | refine Fr.pI ?_ rfl | refine Fr.pL ?_ rfl) rwB_rgB⟩
      · refine E_iconst (v := 1) fX9_doRung_115 (by decide) ?_
        refine E_goto (tg := 120) fX9_doRung_116 (by decide) ?_
        obtain ⟨v3, M3, hR3, rfl, w3, rfl⟩ := write_ok (d := d + 1) (M := M) hG (M.1 (5 + 3 * i) 2) 1
        refine E_callV (t := []) hR3 fX9_doRung_120 mX5_write (rc_obj (k377 hG) (by decide) (by decide)) ⟨by decide, rfl⟩ rfl rfl (by decide) ?_
        refine E_goto (tg := 185) fX9_doRung_123 (by decide) ?_
        exact R_vret fX9_doRung_185 mX9_doRung rfl ⟨none, _, rfl, rfl, hA.rw (by repeat first | exact Fr.rf | refine Fr.pI ?_ rfl | refine Fr.pL ?_ rfl), Fr.mono (p := rwB) (by repeat first | exact Fr.rf | refine Fr.pI ?_ rfl | refine Fr.pL ?_ rfl) rwB_rgB⟩
  · by_cases e61_4 : (M.1 (5 + 3 * i) 1) = 61
    · refine E_lsw (off := 60) (tg := 64) fX9_doRung_4 (by rw [e61_4]; rfl) (by decide) ?_
      refine E_aload_n fX9_doRung_64 rfl (by decide) ?_
      refine E_getR (r' := 377) fX9_doRung_65 (k0 hG) (by decide) (by decide) (by decide) rfl ?_
      refine E_aload_n fX9_doRung_68 rfl (by have := (kr0_lt hi); omega) ?_
      refine E_getI fX9_doRung_69 (kr0 hG hi) (kr0_lt hi) (by decide) (by decide) ?_
      refine E_iload_n fX9_doRung_72 rfl ?_
      obtain ⟨v4, M4, hR4, rfl, w4, rfl⟩ := write_ok (d := d + 1) (M := M) hG (M.1 (5 + 3 * i) 2) z
      refine E_callV (t := []) hR4 fX9_doRung_73 mX5_write (rc_obj (k377 hG) (by decide) (by decide)) ⟨by decide, rfl⟩ rfl rfl (by decide) ?_
      refine E_goto (tg := 185) fX9_doRung_76 (by decide) ?_
      exact R_vret fX9_doRung_185 mX9_doRung rfl ⟨none, _, rfl, rfl, hA.rw (by repeat first | exact Fr.rf | refine Fr.pI ?_ rfl | refine Fr.pL ?_ rfl), Fr.mono (p := rwB) (by repeat first | exact Fr.rf | refine Fr.pI ?_ rfl | refine Fr.pL ?_ rfl) rwB_rgB⟩
    · by_cases e65_4 : (M.1 (5 + 3 * i) 1) = 65
      · refine E_lsw (off := 134) (tg := 138) fX9_doRung_4 (by rw [e65_4]; rfl) (by decide) ?_
        refine E_iload_n fX9_doRung_138 rfl ?_
        refine E_ifeq (tg := 159) fX9_doRung_139 (by decide) (fun c_139 => ?_) (fun c_139 => ?_)
        · refine E_aload_n fX9_doRung_159 rfl (by decide) ?_
          refine E_getR (r' := 377) fX9_doRung_160 (k0 hG) (by decide) (by decide) (by decide) rfl ?_
          refine E_getR (r' := 383) fX9_doRung_163 (k377 hG) (by decide) (by decide) (by decide) rfl ?_
          refine E_aload_n fX9_doRung_166 rfl (by have := (kr0_lt hi); omega) ?_
          refine E_getI fX9_doRung_167 (kr0 hG hi) (kr0_lt hi) (by decide) (by decide) ?_
          obtain ⟨a, ha8, ha⟩ := hK.2.1 (Or.inr (Or.inr (Or.inr (Or.inr (Or.inr (Or.inr (e65_4)))))))
          obtain ⟨v1, M1, hR1, rfl, hA1, hF1⟩ := vanish_ok (d := d) (M := M) hG ha8 hA
          refine E_callV (t := []) (show Ret G (d + 2) _ [.ref 383, .int (M.1 (5 + 3 * i) 2)] M none M1 by rw [ha]; exact hR1) fX9_doRung_170 mX0_vanish (rc_obj (k383 hG) (by decide) (by decide)) ⟨by decide, rfl⟩ rfl rfl (by decide) ?_
          refine E_goto (tg := 185) fX9_doRung_173 (by decide) ?_
          exact R_vret fX9_doRung_185 mX9_doRung rfl ⟨none, _, rfl, rfl, by first | exact hA1 | exact hA.rw hF, by first | exact hF1.rg | exact hF.mono rwB_rgB⟩
        · refine E_aload_n fX9_doRung_142 rfl (by decide) ?_
          refine E_getR (r' := 377) fX9_doRung_143 (k0 hG) (by decide) (by decide) (by decide) rfl ?_
          refine E_getR (r' := 383) fX9_doRung_146 (k377 hG) (by decide) (by decide) (by decide) rfl ?_
          refine E_aload_n fX9_doRung_149 rfl (by have := (kr0_lt hi); omega) ?_
          refine E_getI fX9_doRung_150 (kr0 hG hi) (kr0_lt hi) (by decide) (by decide) ?_
          obtain ⟨a, ha8, ha⟩ := hK.2.1 (Or.inr (Or.inr (Or.inr (Or.inr (Or.inr (Or.inr (e65_4)))))))
          obtain ⟨v1, M1, hR1, rfl, hA1, hF1⟩ := appear_ok (d := d) (M := M) hG ha8 hA
          refine E_callV (t := []) (show Ret G (d + 2) _ [.ref 383, .int (M.1 (5 + 3 * i) 2)] M none M1 by rw [ha]; exact hR1) fX9_doRung_153 mX0_appear (rc_obj (k383 hG) (by decide) (by decide)) ⟨by decide, rfl⟩ rfl rfl (by decide) ?_
          refine E_goto (tg := 185) fX9_doRung_156 (by decide) ?_
          exact R_vret fX9_doRung_185 mX9_doRung rfl ⟨none, _, rfl, rfl, by first | exact hA1 | exact hA.rw hF, by first | exact hF1.rg | exact hF.mono rwB_rgB⟩
      · by_cases e67_4 : (M.1 (5 + 3 * i) 1) = 67
        · refine E_lsw (off := 122) (tg := 126) fX9_doRung_4 (by rw [e67_4]; rfl) (by decide) ?_
          refine E_aload_n fX9_doRung_126 rfl (by decide) ?_
          refine E_iload_n fX9_doRung_127 rfl ?_
          refine E_aload_n fX9_doRung_128 rfl (by have := (kr0_lt hi); omega) ?_
          refine E_iload_n fX9_doRung_129 rfl ?_
          refine E_iload fX9_doRung_130 rfl ?_
          obtain ⟨a, ha8, ha⟩ := hK.2.1 (by first | exact Or.inl e84_4 | exact Or.inr (Or.inl e82_4) | exact Or.inr (Or.inr (Or.inl e67_4)))
          obtain ⟨v1, M1, hR1, rfl, hF⟩ := runTimer_ok (d := d) (M := M) hG hi ha8 ha ix z el
          refine E_callV (t := []) hR1 fX9_doRung_132 mX9_runTimer (rc_obj (k0 hG) (by decide) (by decide)) ⟨by decide, rfl⟩ rfl rfl (by decide) ?_
          refine E_goto (tg := 185) fX9_doRung_135 (by decide) ?_
          exact R_vret fX9_doRung_185 mX9_doRung rfl ⟨none, _, rfl, rfl, by first | exact hA1 | exact hA.rw hF, by first | exact hF1.rg | exact hF.mono rwB_rgB⟩
        · by_cases e82_4 : (M.1 (5 + 3 * i) 1) = 82
          · refine E_lsw (off := 122) (tg := 126) fX9_doRung_4 (by rw [e82_4]; rfl) (by decide) ?_
            refine E_aload_n fX9_doRung_126 rfl (by decide) ?_
            refine E_iload_n fX9_doRung_127 rfl ?_
            refine E_aload_n fX9_doRung_128 rfl (by have := (kr0_lt hi); omega) ?_
            refine E_iload_n fX9_doRung_129 rfl ?_
            refine E_iload fX9_doRung_130 rfl ?_
            obtain ⟨a, ha8, ha⟩ := hK.2.1 (by first | exact Or.inl e84_4 | exact Or.inr (Or.inl e82_4) | exact Or.inr (Or.inr (Or.inl e67_4)))
            obtain ⟨v1, M1, hR1, rfl, hF⟩ := runTimer_ok (d := d) (M := M) hG hi ha8 ha ix z el
            refine E_callV (t := []) hR1 fX9_doRung_132 mX9_runTimer (rc_obj (k0 hG) (by decide) (by decide)) ⟨by decide, rfl⟩ rfl rfl (by decide) ?_
            refine E_goto (tg := 185) fX9_doRung_135 (by decide) ?_
            exact R_vret fX9_doRung_185 mX9_doRung rfl ⟨none, _, rfl, rfl, by first | exact hA1 | exact hA.rw hF, by first | exact hF1.rg | exact hF.mono rwB_rgB⟩
          · by_cases e84_4 : (M.1 (5 + 3 * i) 1) = 84
            · refine E_lsw (off := 122) (tg := 126) fX9_doRung_4 (by rw [e84_4]; rfl) (by decide) ?_
              refine E_aload_n fX9_doRung_126 rfl (by decide) ?_
              refine E_iload_n fX9_doRung_127 rfl ?_
              refine E_aload_n fX9_doRung_128 rfl (by have := (kr0_lt hi); omega) ?_
              refine E_iload_n fX9_doRung_129 rfl ?_
              refine E_iload fX9_doRung_130 rfl ?_
              obtain ⟨a, ha8, ha⟩ := hK.2.1 (by first | exact Or.inl e84_4 | exact Or.inr (Or.inl e82_4) | exact Or.inr (Or.inr (Or.inl e67_4)))
              obtain ⟨v1, M1, hR1, rfl, hF⟩ := runTimer_ok (d := d) (M := M) hG hi ha8 ha ix z el
              refine E_callV (t := []) hR1 fX9_doRung_132 mX9_runTimer (rc_obj (k0 hG) (by decide) (by decide)) ⟨by decide, rfl⟩ rfl rfl (by decide) ?_
              refine E_goto (tg := 185) fX9_doRung_135 (by decide) ?_
              exact R_vret fX9_doRung_185 mX9_doRung rfl ⟨none, _, rfl, rfl, by first | exact hA1 | exact hA.rw hF, by first | exact hF1.rg | exact hF.mono rwB_rgB⟩
            · refine E_lsw (off := 172) (tg := 176) fX9_doRung_4 (by show Jvm.Op.lookupswitch.offset [(60, 75), (61, 60), (65, 134), (67, 122), (82, 122), (84, 122)] (172) _ = 172; rw [Jvm.Op.lookupswitch.offset_cons, if_neg (tI_ne (z := 60) e60_4 (by decide)), Jvm.Op.lookupswitch.offset_cons, if_neg (tI_ne (z := 61) e61_4 (by decide)), Jvm.Op.lookupswitch.offset_cons, if_neg (tI_ne (z := 65) e65_4 (by decide)), Jvm.Op.lookupswitch.offset_cons, if_neg (tI_ne (z := 67) e67_4 (by decide)), Jvm.Op.lookupswitch.offset_cons, if_neg (tI_ne (z := 82) e82_4 (by decide)), Jvm.Op.lookupswitch.offset_cons, if_neg (tI_ne (z := 84) e84_4 (by decide)), Jvm.Op.lookupswitch.offset_nil]) (by decide) ?_
              refine E_iload_n fX9_doRung_176 rfl ?_
              refine E_ifeq (tg := 185) fX9_doRung_177 (by decide) (fun c_177 => ?_) (fun c_177 => ?_)
              · exact R_vret fX9_doRung_185 mX9_doRung rfl ⟨none, _, rfl, rfl, hA.rw (by repeat first | exact Fr.rf | refine Fr.pI ?_ rfl | refine Fr.pL ?_ rfl), Fr.mono (p := rwB) (by repeat first | exact Fr.rf | refine Fr.pI ?_ rfl | refine Fr.pL ?_ rfl) rwB_rgB⟩
              · refine E_aload_n fX9_doRung_180 rfl (by decide) ?_
                refine E_aload_n fX9_doRung_181 rfl (by have := (kr0_lt hi); omega) ?_
                obtain ⟨v1, M1, hR1, rfl, hF⟩ := doIfHeld_ok (d := d) (M := M) hG hi hK
                refine E_callV (t := []) hR1 fX9_doRung_182 mX9_doIfHeld (rc_obj (k0 hG) (by decide) (by decide)) ⟨by decide, rfl⟩ rfl rfl (by decide) ?_
                exact R_vret fX9_doRung_185 mX9_doRung rfl ⟨none, _, rfl, rfl, by first | exact hA1 | exact hA.rw hF, by first | exact hF1.rg | exact hF.mono rwB_rgB⟩
end SP7
