/-! ALARMS: shelving, letters, soundness, clearing-/
section SP4
variable {G : MG} {d : Nat} {M : Mem}
/-- a unit of shelving less -/
theorem ai_dec {M : Mem} {n i s : Nat} (h : AIn M n) (hi : i < 8) (hs : M.1 384 i = nI (s + 1)) (hs2 : s + 1 < 2 ^ 31) : (∀ q, q < 8 → ∃ z, z < 2 ^ 31 ∧ (pI M 384 i (nI s)).1 384 q = nI z) ∧ (∀ q, q < 8 → (pI M 384 i (nI s)).1 384 q ≠ 0 → ¬ inR M n q) ∧ (∀ q, q < 8 → q ≠ i → isB1 (M.1 383 0) (nI q) → (pI M 384 i (nI s)).1 384 q = 0 → inR M n q) := by
  obtain ⟨hn, hl, h3, h4, h5, h6, h7⟩ := h
  refine ⟨fun q hq => ?_, fun q hq hz => ?_, fun q hq hne hb hz => ?_⟩
  · by_cases e : q = i
    · subst e; exact ⟨s, by omega, pI_at⟩
    · rw [pI_ne (Or.inr e)]; exact h5 q hq
  · by_cases e : q = i
    · subst e
      exact h6 q hq (by rw [hs]; exact fun z => absurd (nI_inj (b := 0) hs2 (by omega) z) (by omega))
    · rw [pI_ne (Or.inr e)] at hz; exact h6 q hq hz
  · rw [pI_ne (Or.inr hne)] at hz
    exact h7 q hq hb hz
theorem shortenShelving_ok (hG : Core G) (hA : AI M) : ∃ v M', Ret G (d + 2) 9 [.ref 383] M v M' ∧ (v = none ∧ AI M' ∧ AFr M M') := by
  have loop : ∀ m i M1, i + m = 8 → AI M1 → AFr M M1 → E G (d + 1) 9 (2, [some (.ref 383), some (.int (nI i))], [], M1, 0) (fun r => ∃ v M', r = (.inl v, M', 0) ∧ (v = none ∧ AI M' ∧ AFr M M')) := by
    intro m
    induction m with
    | zero =>
      intro i M1 hi hA1 hF
      have e : i = 8 := by omega
      subst e
      refine E_iload_n fX0_shortenShelving_2 rfl ?_
      refine E_bipush (v := 8) fX0_shortenShelving_3 (by decide) ?_
      refine E_icge (tg := 58) fX0_shortenShelving_5 (by decide) (fun c_5 => ?_) (fun c => absurd (by decide) c)
      exact R_vret fX0_shortenShelving_58 mX0_shortenShelving rfl ⟨none, _, rfl, rfl, hA1, hF⟩
    | succ m ih =>
      intro i M1 hi hA1 hF
      have hlt : i < 8 := by omega
      obtain ⟨n, hn, hl, h3, h4, h5, h6, h7⟩ := id hA1
      refine E_iload_n fX0_shortenShelving_2 rfl ?_
      refine E_bipush (v := 8) fX0_shortenShelving_3 (by decide) ?_
      refine E_icge (tg := 58) fX0_shortenShelving_5 (by decide) (fun c => absurd c (by rw [show (8 : Int32) = nI 8 from rfl]; exact nI_ge hlt (by omega))) (fun c_5 => ?_)
      refine E_aload_n fX0_shortenShelving_8 rfl (by decide) ?_
      refine E_getR (r' := 384) fX0_shortenShelving_9 (k383 hG) (by decide) (by decide) (by decide) rfl ?_
      refine E_iload_n fX0_shortenShelving_12 rfl ?_
      refine E_iald (n := i) (K := 20) fX0_shortenShelving_13 (k384 hG) ⟨by decide, by decide⟩ (by decide) rfl (by show i < 8; omega) ?_
      refine E_ifle (tg := 52) fX0_shortenShelving_14 (by decide) (fun c_14 => ?_) (fun c_14 => ?_)
      · refine E_iinc (v := nI (i + 1)) (L' := [some (.ref 383), some (.int (nI (i + 1)))]) fX0_shortenShelving_52 rfl (inc1 _) rfl ?_
        refine E_goto (tg := 2) fX0_shortenShelving_55 (by decide) ?_
        exact ih (i + 1) _ (by omega) hA1 hF
      · obtain ⟨s1, hs1, hs2⟩ := h5 i hlt
        obtain ⟨s, rfl⟩ : ∃ s, s1 = s + 1 := ⟨s1 - 1, by
          have : s1 ≠ 0 := fun z => c_14 (by rw [hs2, z]; exact Int32.le_refl _)
          omega⟩
        obtain ⟨g1, g2, g3⟩ := ai_dec ⟨hn, hl, h3, h4, h5, h6, h7⟩ hlt hs2 hs1
        refine E_aload_n fX0_shortenShelving_17 rfl (by decide) ?_
        refine E_getR (r' := 384) fX0_shortenShelving_18 (k383 hG) (by decide) (by decide) (by decide) rfl ?_
        refine E_iload_n fX0_shortenShelving_21 rfl ?_
        refine E_dup2 fX0_shortenShelving_22 rfl rfl ?_
        refine E_iald (n := i) (K := 20) fX0_shortenShelving_23 (k384 hG) ⟨by decide, by decide⟩ (by decide) rfl (by show i < 8; omega) ?_
        refine E_iconst (v := 1) fX0_shortenShelving_24 (by decide) ?_
        refine E_isub fX0_shortenShelving_25 ?_
        have e9 : M1.1 384 i - 1 = nI s := by rw [hs2]; exact nI_pred s
        rw [e9]
        refine E_iast (n := i) (K := 20) fX0_shortenShelving_26 (k384 hG) ⟨by decide, by decide⟩ (by decide) rfl (by show i < 8; omega) ?_
        refine E_aload_n fX0_shortenShelving_27 rfl (by decide) ?_
        refine E_getR (r' := 384) fX0_shortenShelving_28 (k383 hG) (by decide) (by decide) (by decide) rfl ?_
        refine E_iload_n fX0_shortenShelving_31 rfl ?_
        refine E_iald (n := i) (K := 20) fX0_shortenShelving_32 (k384 hG) ⟨by decide, by decide⟩ (by decide) rfl (by show i < 8; omega) ?_
        refine E_ifne (tg := 52) fX0_shortenShelving_33 (by decide) (fun c_33 => ?_) (fun c_33 => ?_)
        · refine E_iinc (v := nI (i + 1)) (L' := [some (.ref 383), some (.int (nI (i + 1)))]) fX0_shortenShelving_52 rfl (inc1 _) rfl ?_
          refine E_goto (tg := 2) fX0_shortenShelving_55 (by decide) ?_
          exact ih (i + 1) _ (by omega) ⟨n, hn, hl, h3, h4, g1, g2, fun q hq hb hz => by
                  by_cases e : q = i
                  · subst e
                    first | exact absurd hz c_33 | exact absurd hb (bI_0.mp c_44)
                  · exact g3 q hq e hb hz⟩ (hF.tr (AFr.rf.pI (by omega)))
        · refine E_aload_n fX0_shortenShelving_36 rfl (by decide) ?_
          refine E_getI fX0_shortenShelving_37 (k383 hG) (by decide) (by decide) (by decide) ?_
          refine E_iload_n fX0_shortenShelving_40 rfl ?_
          refine E_callS (t := []) (isSet_ok ((pI M1 384 i (nI s)).1 383 0) (nI i)) fX0_shortenShelving_41 (by decide) mX9_isSet ⟨rfl, rfl⟩ rfl rfl (by decide) ?_
          refine E_ifeq (tg := 52) fX0_shortenShelving_44 (by decide) (fun c_44 => ?_) (fun c_44 => ?_)
          · refine E_iinc (v := nI (i + 1)) (L' := [some (.ref 383), some (.int (nI (i + 1)))]) fX0_shortenShelving_52 rfl (inc1 _) rfl ?_
            refine E_goto (tg := 2) fX0_shortenShelving_55 (by decide) ?_
            exact ih (i + 1) _ (by omega) ⟨n, hn, hl, h3, h4, g1, g2, fun q hq hb hz => by
                    by_cases e : q = i
                    · subst e
                      first | exact absurd hz c_33 | exact absurd hb (bI_0.mp c_44)
                    · exact g3 q hq e hb hz⟩ (hF.tr (AFr.rf.pI (by omega)))
          · refine E_aload_n fX0_shortenShelving_47 rfl (by decide) ?_
            refine E_iload_n fX0_shortenShelving_48 rfl ?_
            refine E_callV (t := []) (enterRow_ok hG hn (show (pI M1 384 i (nI s)).1 383 4 = nI n from hl)) fX0_shortenShelving_49 mX0_enterRow (rc_obj (k383 hG) (by decide) (by decide)) ⟨by decide, rfl⟩ rfl rfl (by decide) ?_
            refine E_iinc (v := nI (i + 1)) (L' := [some (.ref 383), some (.int (nI (i + 1)))]) fX0_shortenShelving_52 rfl (inc1 _) rfl ?_
            refine E_goto (tg := 2) fX0_shortenShelving_55 (by decide) ?_
            exact ih (i + 1) _ (by omega) (ain_ent (M := (pI M1 384 i (nI s))) hn hl h3 h4 g1 g2 hlt c_33 g3) (hF.tr ((AFr.rf.pI (by omega)).tr entR_fr))
  refine X_start (d := d + 1) (by decide) mX0_shortenShelving ?_
  show E _ _ _ (0, [some (.ref 383), none], [], M, 0) _
  refine E_iconst (v := 0) fX0_shortenShelving_0 (by decide) ?_
  refine E_istore_n (L' := [some (.ref 383), some (.int 0)]) fX0_shortenShelving_1 rfl (Nat.le_of_ble_eq_true rfl) ?_
  exact loop 8 0 M (by omega) hA AFr.rf
/-- the letter of the alarm k -/
def ltr (M : Mem) (n k : Nat) : Int32 := if 0 < M.1 384 k then 115 else if isB1 (M.1 383 0) (nI k) then (if isB1 (M.1 383 1) (nI k) then 97 else 116) else if 0 < cnt (M.1 385) (nI k) n then 114 else 110
theorem letterOf_ok (hG : Core G) {n k : Nat} (hn : n ≤ 8) (hk : k < 8) (hl : M.1 383 4 = nI n) : Ret G (d + 2) 10 [.ref 383, .int (nI k)] M (some (.int (ltr M n k))) M := by
  refine R_start (d := d + 1) (by decide) mX0_letterOf ?_
  show E _ _ _ (0, [some (.ref 383), some (.int (nI k))], [], M, 0) _
  refine E_aload_n fX0_letterOf_0 rfl (by decide) ?_
  refine E_getR (r' := 384) fX0_letterOf_1 (k383 hG) (by decide) (by decide) (by decide) rfl ?_
  refine E_iload_n fX0_letterOf_4 rfl ?_
  refine E_iald (n := k) (K := 20) fX0_letterOf_5 (k384 hG) ⟨by decide, by decide⟩ (by decide) rfl (by show k < 8; omega) ?_
  refine E_ifle (tg := 12) fX0_letterOf_6 (by decide) (fun c_6 => ?_) (fun c_6 => ?_)
  · refine E_aload_n fX0_letterOf_12 rfl (by decide) ?_
    refine E_getI fX0_letterOf_13 (k383 hG) (by decide) (by decide) (by decide) ?_
    refine E_iload_n fX0_letterOf_16 rfl ?_
    refine E_callS (t := []) (isSet_ok (M.1 383 0) (nI k)) fX0_letterOf_17 (by decide) mX9_isSet ⟨rfl, rfl⟩ rfl rfl (by decide) ?_
    refine E_ifeq (tg := 42) fX0_letterOf_20 (by decide) (fun c_20 => ?_) (fun c_20 => ?_)
    · refine E_aload_n fX0_letterOf_42 rfl (by decide) ?_
      refine E_iload_n fX0_letterOf_43 rfl ?_
      refine E_callV (t := []) (timesInRow_ok hG hn hl) fX0_letterOf_44 mX0_timesInRow (rc_obj (k383 hG) (by decide) (by decide)) ⟨by decide, rfl⟩ rfl rfl (by decide) ?_
      refine E_ifle (tg := 55) fX0_letterOf_47 (by decide) (fun c_47 => ?_) (fun c_47 => ?_)
      · refine E_bipush (v := 110) fX0_letterOf_55 (by decide) ?_
        exact R_iret fX0_letterOf_57 mX0_letterOf rfl (by unfold ltr; rw [if_neg (Int32.not_lt.mpr c_6), if_neg (bI_0.mp c_20), if_neg (fun z => nI_nle z (by have := cnt_le (f := M.1 385) (x := nI k) n; omega) c_47)])
      · refine E_bipush (v := 114) fX0_letterOf_50 (by decide) ?_
        refine E_goto (tg := 57) fX0_letterOf_52 (by decide) ?_
        exact R_iret fX0_letterOf_57 mX0_letterOf rfl (by unfold ltr; rw [if_neg (Int32.not_lt.mpr c_6), if_neg (bI_0.mp c_20), if_pos (by
            rcases Nat.eq_zero_or_pos (cnt (M.1 385) (nI k) n) with z | z
            · rw [z] at c_47; exact absurd (Int32.le_refl _) c_47
            · exact z)])
    · refine E_aload_n fX0_letterOf_23 rfl (by decide) ?_
      refine E_getI fX0_letterOf_24 (k383 hG) (by decide) (by decide) (by decide) ?_
      refine E_iload_n fX0_letterOf_27 rfl ?_
      refine E_callS (t := []) (isSet_ok (M.1 383 1) (nI k)) fX0_letterOf_28 (by decide) mX9_isSet ⟨rfl, rfl⟩ rfl rfl (by decide) ?_
      refine E_ifeq (tg := 39) fX0_letterOf_31 (by decide) (fun c_31 => ?_) (fun c_31 => ?_)
      · refine E_bipush (v := 116) fX0_letterOf_39 (by decide) ?_
        exact R_iret fX0_letterOf_41 mX0_letterOf rfl (by unfold ltr; rw [if_neg (Int32.not_lt.mpr c_6), if_pos (bI_n0.mp c_20), if_neg (bI_0.mp c_31)])
      · refine E_bipush (v := 97) fX0_letterOf_34 (by decide) ?_
        refine E_goto (tg := 41) fX0_letterOf_36 (by decide) ?_
        exact R_iret fX0_letterOf_41 mX0_letterOf rfl (by unfold ltr; rw [if_neg (Int32.not_lt.mpr c_6), if_pos (bI_n0.mp c_20), if_pos (bI_n0.mp c_31)])
  · refine E_bipush (v := 115) fX0_letterOf_9 (by decide) ?_
    exact R_iret fX0_letterOf_11 mX0_letterOf rfl (by rw [show ltr M n k = 115 from if_pos (Int32.not_le.mp c_6)])
theorem areSound_ok (hG : Core G) (hA : AI M) : Ret G (d + 2) 11 [.ref 383] M (some (.int 1)) M := by
  obtain ⟨n, hn, hl, h3, h4, h5, h6, h7⟩ := id hA
  have loop : ∀ m i o, i + m = 8 → E G (d + 1) 11 (2, [some (.ref 383), some (.int (nI i)), o], [], M, 0) (fun r => r = (.inl (some (.int 1)), M, 0)) := by
    intro m
    induction m with
    | zero =>
      intro i o hi
      have e : i = 8 := by omega
      subst e
      refine E_iload_n fX0_areSound_2 rfl ?_
      refine E_bipush (v := 8) fX0_areSound_3 (by decide) ?_
      refine E_icge (tg := 51) fX0_areSound_5 (by decide) (fun c_5 => ?_) (fun c => absurd (by decide) c)
      refine E_iconst (v := 1) fX0_areSound_51 (by decide) ?_
      exact R_iret fX0_areSound_52 mX0_areSound rfl rfl
    | succ m ih =>
      intro i o hi
      have hlt : i < 8 := by omega
      have hc := ain_cnt (k := i) ⟨hn, hl, h3, h4, h5, h6, h7⟩
      refine E_iload_n fX0_areSound_2 rfl ?_
      refine E_bipush (v := 8) fX0_areSound_3 (by decide) ?_
      refine E_icge (tg := 51) fX0_areSound_5 (by decide) (fun c => absurd c (by rw [show (8 : Int32) = nI 8 from rfl]; exact nI_ge hlt (by omega))) (fun c_5 => ?_)
      refine E_aload_n fX0_areSound_8 rfl (by decide) ?_
      refine E_iload_n fX0_areSound_9 rfl ?_
      refine E_callV (t := []) (timesInRow_ok (k := i) hG hn hl) fX0_areSound_10 mX0_timesInRow (rc_obj (k383 hG) (by decide) (by decide)) ⟨by decide, rfl⟩ rfl rfl (by decide) ?_
      refine E_istore_n (L' := [some (.ref 383), some (.int (nI i)), some (.int (nI (cnt (M.1 385) (nI i) n)))]) fX0_areSound_13 rfl (Nat.le_of_ble_eq_true rfl) ?_
      refine E_iload_n fX0_areSound_14 rfl ?_
      refine E_iconst (v := 1) fX0_areSound_15 (by decide) ?_
      refine E_icgt (tg := 43) fX0_areSound_16 (by decide) (fun c => absurd c (by rcases hc with ⟨e, -⟩ | ⟨e, -⟩ <;> rw [e] <;> decide)) (fun c_16 => ?_)
      refine E_iload_n fX0_areSound_19 rfl ?_
      refine E_ifne (tg := 45) fX0_areSound_20 (by decide) (fun c_20 => ?_) (fun c_20 => ?_)
      · refine E_iinc (v := nI (i + 1)) (L' := [some (.ref 383), some (.int (nI (i + 1))), some (.int (nI (cnt (M.1 385) (nI i) n)))]) fX0_areSound_45 rfl (inc1 _) rfl ?_
        refine E_goto (tg := 2) fX0_areSound_48 (by decide) ?_
        exact ih (i + 1) _ (by omega)
      · refine E_aload_n fX0_areSound_23 rfl (by decide) ?_
        refine E_getI fX0_areSound_24 (k383 hG) (by decide) (by decide) (by decide) ?_
        refine E_iload_n fX0_areSound_27 rfl ?_
        refine E_callS (t := []) (isSet_ok (M.1 383 0) (nI i)) fX0_areSound_28 (by decide) mX9_isSet ⟨rfl, rfl⟩ rfl rfl (by decide) ?_
        refine E_ifeq (tg := 45) fX0_areSound_31 (by decide) (fun c_31 => ?_) (fun c_31 => ?_)
        · refine E_iinc (v := nI (i + 1)) (L' := [some (.ref 383), some (.int (nI (i + 1))), some (.int (nI (cnt (M.1 385) (nI i) n)))]) fX0_areSound_45 rfl (inc1 _) rfl ?_
          refine E_goto (tg := 2) fX0_areSound_48 (by decide) ?_
          exact ih (i + 1) _ (by omega)
        · refine E_aload_n fX0_areSound_34 rfl (by decide) ?_
          refine E_getR (r' := 384) fX0_areSound_35 (k383 hG) (by decide) (by decide) (by decide) rfl ?_
          refine E_iload_n fX0_areSound_38 rfl ?_
          refine E_iald (n := i) (K := 20) fX0_areSound_39 (k384 hG) ⟨by decide, by decide⟩ (by decide) rfl (by show i < 8; omega) ?_
          refine E_ifne (tg := 45) fX0_areSound_40 (by decide) (fun c_40 => ?_) (fun c => absurd (h7 i hlt (bI_n0.mp c_31) c) (hc.resolve_left (fun z => by rw [z.1] at c_20; exact absurd c_20 (by decide))).2)
          refine E_iinc (v := nI (i + 1)) (L' := [some (.ref 383), some (.int (nI (i + 1))), some (.int (nI (cnt (M.1 385) (nI i) n)))]) fX0_areSound_45 rfl (inc1 _) rfl ?_
          refine E_goto (tg := 2) fX0_areSound_48 (by decide) ?_
          exact ih (i + 1) _ (by omega)
  refine R_start (d := d + 1) (by decide) mX0_areSound ?_
  show E _ _ _ (0, [some (.ref 383), none, none], [], M, 0) _
  refine E_iconst (v := 0) fX0_areSound_0 (by decide) ?_
  refine E_istore_n (L' := [some (.ref 383), some (.int 0), none]) fX0_areSound_1 rfl (Nat.le_of_ble_eq_true rfl) ?_
  exact loop 8 0 _ (by omega)
end SP4
