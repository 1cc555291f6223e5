section SP16
variable {G : MG} {d : Nat} {M : Mem}
theorem i2c_nI (x : Int32) : ∃ n, n < 65536 ∧ (x.toUInt32 % 65536).toInt32 = nI n := by
  refine ⟨x.toUInt32.toNat % 65536, Nat.mod_lt _ (by decide), ?_⟩
  apply Int32.toBitVec_inj.mp
  apply BitVec.eq_of_toNat_eq
  show ((x.toUInt32 % 65536).toBitVec).toNat = (BitVec.ofNat 32 (x.toUInt32.toNat % 65536)).toNat
  rw [BitVec.toNat_ofNat, Nat.mod_eq_of_lt (a := x.toUInt32.toNat % 65536) (by omega)]
  rfl
theorem ret3 {n : Nat} (h : n < 65536) : retOk 3 (nI n) = true := by
  show decide (0 ≤ nI n ∧ nI n ≤ 65535) = true
  exact decide_eq_true ⟨nI_pos' (by omega), nI_le (b := 65535) (by omega) (by decide)⟩
theorem fit2 {n : Nat} (h : n < 65536) : fitF 2 (nI n) = true := by
  show decide (0 ≤ nI n ∧ nI n ≤ 65535) = true
  exact decide_eq_true ⟨nI_pos' (by omega), nI_le (b := 65535) (by omega) (by decide)⟩
theorem len_0 : (nI (strN 0)) >>> ((0 : Int32) &&& 31) = nI 12 := by decide +kernel
theorem isLatin1_0  : Ret G (d + 1) 110 [.ref 2000] M (some (.int 1)) M := by
  refine R_start (d := d + 0) (by decide) mJ0_isLatin1_aae02 ?_
  show E _ _ _ (0, [some (.ref 2000)], [], M, 0) _
  refine E_gets (v := .int 1) fJ0_isLatin1_aae02_0 rfl ?_
  refine E_ifeq (tg := 17) fJ0_isLatin1_aae02_3 (by decide) (fun c => absurd c (by decide)) (fun c_3 => ?_)
  refine E_aload_n fJ0_isLatin1_aae02_6 rfl (by decide) ?_
  refine E_getS (v := .int 0) fJ0_isLatin1_aae02_7 ⟨by decide, by decide⟩ rfl ?_
  refine E_ifne (tg := 17) fJ0_isLatin1_aae02_10 (by decide) (fun c => absurd c (by decide)) (fun c_10 => ?_)
  refine E_iconst (v := 1) fJ0_isLatin1_aae02_13 (by decide) ?_
  refine E_goto (tg := 18) fJ0_isLatin1_aae02_14 (by decide) ?_
  exact R_iret fJ0_isLatin1_aae02_18 mJ0_isLatin1_aae02 rfl rfl
theorem coder_0  : Ret G (d + 1) 109 [.ref 2000] M (some (.int 0)) M := by
  refine R_start (d := d + 0) (by decide) mJ0_coder_7d493 ?_
  show E _ _ _ (0, [some (.ref 2000)], [], M, 0) _
  refine E_gets (v := .int 1) fJ0_coder_7d493_0 rfl ?_
  refine E_ifeq (tg := 13) fJ0_coder_7d493_3 (by decide) (fun c => absurd c (by decide)) (fun c_3 => ?_)
  refine E_aload_n fJ0_coder_7d493_6 rfl (by decide) ?_
  refine E_getS (v := .int 0) fJ0_coder_7d493_7 ⟨by decide, by decide⟩ rfl ?_
  refine E_goto (tg := 14) fJ0_coder_7d493_10 (by decide) ?_
  exact R_iret fJ0_coder_7d493_14 mJ0_coder_7d493 rfl rfl
theorem length_0  : Ret G (d + 2) 105 [.ref 2000] M (some (.int (nI 12))) M := by
  refine R_start (d := d + 1) (by decide) mJ0_length_8abf5 ?_
  show E _ _ _ (0, [some (.ref 2000)], [], M, 0) _
  refine E_aload_n fJ0_length_8abf5_0 rfl (by decide) ?_
  refine E_getS (v := .ref 3000) fJ0_length_8abf5_1 ⟨by decide, by decide⟩ rfl ?_
  refine E_blen (j := 0) fJ0_length_8abf5_4 rfl (by decide) ?_
  refine E_aload_n fJ0_length_8abf5_5 rfl (by decide) ?_
  refine E_callV (t := [.int (nI (strN 0))]) (coder_0 (d := d)) fJ0_length_8abf5_6 mJ0_coder_7d493 (rc_str ⟨by decide, by decide⟩) ⟨by decide, rfl⟩ rfl rfl (Nat.le_of_ble_eq_true rfl) ?_
  refine E_ishr fJ0_length_8abf5_9 ?_
  exact R_iret fJ0_length_8abf5_10 mJ0_length_8abf5 rfl (by rw [len_0])
theorem len_1 : (nI (strN 1)) >>> ((0 : Int32) &&& 31) = nI 4 := by decide +kernel
theorem isLatin1_1  : Ret G (d + 1) 110 [.ref 2001] M (some (.int 1)) M := by
  refine R_start (d := d + 0) (by decide) mJ0_isLatin1_aae02 ?_
  show E _ _ _ (0, [some (.ref 2001)], [], M, 0) _
  refine E_gets (v := .int 1) fJ0_isLatin1_aae02_0 rfl ?_
  refine E_ifeq (tg := 17) fJ0_isLatin1_aae02_3 (by decide) (fun c => absurd c (by decide)) (fun c_3 => ?_)
  refine E_aload_n fJ0_isLatin1_aae02_6 rfl (by decide) ?_
  refine E_getS (v := .int 0) fJ0_isLatin1_aae02_7 ⟨by decide, by decide⟩ rfl ?_
  refine E_ifne (tg := 17) fJ0_isLatin1_aae02_10 (by decide) (fun c => absurd c (by decide)) (fun c_10 => ?_)
  refine E_iconst (v := 1) fJ0_isLatin1_aae02_13 (by decide) ?_
  refine E_goto (tg := 18) fJ0_isLatin1_aae02_14 (by decide) ?_
  exact R_iret fJ0_isLatin1_aae02_18 mJ0_isLatin1_aae02 rfl rfl
theorem coder_1  : Ret G (d + 1) 109 [.ref 2001] M (some (.int 0)) M := by
  refine R_start (d := d + 0) (by decide) mJ0_coder_7d493 ?_
  show E _ _ _ (0, [some (.ref 2001)], [], M, 0) _
  refine E_gets (v := .int 1) fJ0_coder_7d493_0 rfl ?_
  refine E_ifeq (tg := 13) fJ0_coder_7d493_3 (by decide) (fun c => absurd c (by decide)) (fun c_3 => ?_)
  refine E_aload_n fJ0_coder_7d493_6 rfl (by decide) ?_
  refine E_getS (v := .int 0) fJ0_coder_7d493_7 ⟨by decide, by decide⟩ rfl ?_
  refine E_goto (tg := 14) fJ0_coder_7d493_10 (by decide) ?_
  exact R_iret fJ0_coder_7d493_14 mJ0_coder_7d493 rfl rfl
theorem length_1  : Ret G (d + 2) 105 [.ref 2001] M (some (.int (nI 4))) M := by
  refine R_start (d := d + 1) (by decide) mJ0_length_8abf5 ?_
  show E _ _ _ (0, [some (.ref 2001)], [], M, 0) _
  refine E_aload_n fJ0_length_8abf5_0 rfl (by decide) ?_
  refine E_getS (v := .ref 3001) fJ0_length_8abf5_1 ⟨by decide, by decide⟩ rfl ?_
  refine E_blen (j := 1) fJ0_length_8abf5_4 rfl (by decide) ?_
  refine E_aload_n fJ0_length_8abf5_5 rfl (by decide) ?_
  refine E_callV (t := [.int (nI (strN 1))]) (coder_1 (d := d)) fJ0_length_8abf5_6 mJ0_coder_7d493 (rc_str ⟨by decide, by decide⟩) ⟨by decide, rfl⟩ rfl rfl (Nat.le_of_ble_eq_true rfl) ?_
  refine E_ishr fJ0_length_8abf5_9 ?_
  exact R_iret fJ0_length_8abf5_10 mJ0_length_8abf5 rfl (by rw [len_1])
theorem len_2 : (nI (strN 2)) >>> ((0 : Int32) &&& 31) = nI 5 := by decide +kernel
theorem isLatin1_2  : Ret G (d + 1) 110 [.ref 2002] M (some (.int 1)) M := by
  refine R_start (d := d + 0) (by decide) mJ0_isLatin1_aae02 ?_
  show E _ _ _ (0, [some (.ref 2002)], [], M, 0) _
  refine E_gets (v := .int 1) fJ0_isLatin1_aae02_0 rfl ?_
  refine E_ifeq (tg := 17) fJ0_isLatin1_aae02_3 (by decide) (fun c => absurd c (by decide)) (fun c_3 => ?_)
  refine E_aload_n fJ0_isLatin1_aae02_6 rfl (by decide) ?_
  refine E_getS (v := .int 0) fJ0_isLatin1_aae02_7 ⟨by decide, by decide⟩ rfl ?_
  refine E_ifne (tg := 17) fJ0_isLatin1_aae02_10 (by decide) (fun c => absurd c (by decide)) (fun c_10 => ?_)
  refine E_iconst (v := 1) fJ0_isLatin1_aae02_13 (by decide) ?_
  refine E_goto (tg := 18) fJ0_isLatin1_aae02_14 (by decide) ?_
  exact R_iret fJ0_isLatin1_aae02_18 mJ0_isLatin1_aae02 rfl rfl
theorem coder_2  : Ret G (d + 1) 109 [.ref 2002] M (some (.int 0)) M := by
  refine R_start (d := d + 0) (by decide) mJ0_coder_7d493 ?_
  show E _ _ _ (0, [some (.ref 2002)], [], M, 0) _
  refine E_gets (v := .int 1) fJ0_coder_7d493_0 rfl ?_
  refine E_ifeq (tg := 13) fJ0_coder_7d493_3 (by decide) (fun c => absurd c (by decide)) (fun c_3 => ?_)
  refine E_aload_n fJ0_coder_7d493_6 rfl (by decide) ?_
  refine E_getS (v := .int 0) fJ0_coder_7d493_7 ⟨by decide, by decide⟩ rfl ?_
  refine E_goto (tg := 14) fJ0_coder_7d493_10 (by decide) ?_
  exact R_iret fJ0_coder_7d493_14 mJ0_coder_7d493 rfl rfl
theorem length_2  : Ret G (d + 2) 105 [.ref 2002] M (some (.int (nI 5))) M := by
  refine R_start (d := d + 1) (by decide) mJ0_length_8abf5 ?_
  show E _ _ _ (0, [some (.ref 2002)], [], M, 0) _
  refine E_aload_n fJ0_length_8abf5_0 rfl (by decide) ?_
  refine E_getS (v := .ref 3002) fJ0_length_8abf5_1 ⟨by decide, by decide⟩ rfl ?_
  refine E_blen (j := 2) fJ0_length_8abf5_4 rfl (by decide) ?_
  refine E_aload_n fJ0_length_8abf5_5 rfl (by decide) ?_
  refine E_callV (t := [.int (nI (strN 2))]) (coder_2 (d := d)) fJ0_length_8abf5_6 mJ0_coder_7d493 (rc_str ⟨by decide, by decide⟩) ⟨by decide, rfl⟩ rfl rfl (Nat.le_of_ble_eq_true rfl) ?_
  refine E_ishr fJ0_length_8abf5_9 ?_
  exact R_iret fJ0_length_8abf5_10 mJ0_length_8abf5 rfl (by rw [len_2])
theorem len_3 : (nI (strN 3)) >>> ((0 : Int32) &&& 31) = nI 4 := by decide +kernel
theorem isLatin1_3  : Ret G (d + 1) 110 [.ref 2003] M (some (.int 1)) M := by
  refine R_start (d := d + 0) (by decide) mJ0_isLatin1_aae02 ?_
  show E _ _ _ (0, [some (.ref 2003)], [], M, 0) _
  refine E_gets (v := .int 1) fJ0_isLatin1_aae02_0 rfl ?_
  refine E_ifeq (tg := 17) fJ0_isLatin1_aae02_3 (by decide) (fun c => absurd c (by decide)) (fun c_3 => ?_)
  refine E_aload_n fJ0_isLatin1_aae02_6 rfl (by decide) ?_
  refine E_getS (v := .int 0) fJ0_isLatin1_aae02_7 ⟨by decide, by decide⟩ rfl ?_
  refine E_ifne (tg := 17) fJ0_isLatin1_aae02_10 (by decide) (fun c => absurd c (by decide)) (fun c_10 => ?_)
  refine E_iconst (v := 1) fJ0_isLatin1_aae02_13 (by decide) ?_
  refine E_goto (tg := 18) fJ0_isLatin1_aae02_14 (by decide) ?_
  exact R_iret fJ0_isLatin1_aae02_18 mJ0_isLatin1_aae02 rfl rfl
theorem coder_3  : Ret G (d + 1) 109 [.ref 2003] M (some (.int 0)) M := by
  refine R_start (d := d + 0) (by decide) mJ0_coder_7d493 ?_
  show E _ _ _ (0, [some (.ref 2003)], [], M, 0) _
  refine E_gets (v := .int 1) fJ0_coder_7d493_0 rfl ?_
  refine E_ifeq (tg := 13) fJ0_coder_7d493_3 (by decide) (fun c => absurd c (by decide)) (fun c_3 => ?_)
  refine E_aload_n fJ0_coder_7d493_6 rfl (by decide) ?_
  refine E_getS (v := .int 0) fJ0_coder_7d493_7 ⟨by decide, by decide⟩ rfl ?_
  refine E_goto (tg := 14) fJ0_coder_7d493_10 (by decide) ?_
  exact R_iret fJ0_coder_7d493_14 mJ0_coder_7d493 rfl rfl
theorem length_3  : Ret G (d + 2) 105 [.ref 2003] M (some (.int (nI 4))) M := by
  refine R_start (d := d + 1) (by decide) mJ0_length_8abf5 ?_
  show E _ _ _ (0, [some (.ref 2003)], [], M, 0) _
  refine E_aload_n fJ0_length_8abf5_0 rfl (by decide) ?_
  refine E_getS (v := .ref 3003) fJ0_length_8abf5_1 ⟨by decide, by decide⟩ rfl ?_
  refine E_blen (j := 3) fJ0_length_8abf5_4 rfl (by decide) ?_
  refine E_aload_n fJ0_length_8abf5_5 rfl (by decide) ?_
  refine E_callV (t := [.int (nI (strN 3))]) (coder_3 (d := d)) fJ0_length_8abf5_6 mJ0_coder_7d493 (rc_str ⟨by decide, by decide⟩) ⟨by decide, rfl⟩ rfl rfl (Nat.le_of_ble_eq_true rfl) ?_
  refine E_ishr fJ0_length_8abf5_9 ?_
  exact R_iret fJ0_length_8abf5_10 mJ0_length_8abf5 rfl (by rw [len_3])
theorem len_4 : (nI (strN 4)) >>> ((0 : Int32) &&& 31) = nI 3 := by decide +kernel
theorem isLatin1_4  : Ret G (d + 1) 110 [.ref 2004] M (some (.int 1)) M := by
  refine R_start (d := d + 0) (by decide) mJ0_isLatin1_aae02 ?_
  show E _ _ _ (0, [some (.ref 2004)], [], M, 0) _
  refine E_gets (v := .int 1) fJ0_isLatin1_aae02_0 rfl ?_
  refine E_ifeq (tg := 17) fJ0_isLatin1_aae02_3 (by decide) (fun c => absurd c (by decide)) (fun c_3 => ?_)
  refine E_aload_n fJ0_isLatin1_aae02_6 rfl (by decide) ?_
  refine E_getS (v := .int 0) fJ0_isLatin1_aae02_7 ⟨by decide, by decide⟩ rfl ?_
  refine E_ifne (tg := 17) fJ0_isLatin1_aae02_10 (by decide) (fun c => absurd c (by decide)) (fun c_10 => ?_)
  refine E_iconst (v := 1) fJ0_isLatin1_aae02_13 (by decide) ?_
  refine E_goto (tg := 18) fJ0_isLatin1_aae02_14 (by decide) ?_
  exact R_iret fJ0_isLatin1_aae02_18 mJ0_isLatin1_aae02 rfl rfl
theorem coder_4  : Ret G (d + 1) 109 [.ref 2004] M (some (.int 0)) M := by
  refine R_start (d := d + 0) (by decide) mJ0_coder_7d493 ?_
  show E _ _ _ (0, [some (.ref 2004)], [], M, 0) _
  refine E_gets (v := .int 1) fJ0_coder_7d493_0 rfl ?_
  refine E_ifeq (tg := 13) fJ0_coder_7d493_3 (by decide) (fun c => absurd c (by decide)) (fun c_3 => ?_)
  refine E_aload_n fJ0_coder_7d493_6 rfl (by decide) ?_
  refine E_getS (v := .int 0) fJ0_coder_7d493_7 ⟨by decide, by decide⟩ rfl ?_
  refine E_goto (tg := 14) fJ0_coder_7d493_10 (by decide) ?_
  exact R_iret fJ0_coder_7d493_14 mJ0_coder_7d493 rfl rfl
theorem length_4  : Ret G (d + 2) 105 [.ref 2004] M (some (.int (nI 3))) M := by
  refine R_start (d := d + 1) (by decide) mJ0_length_8abf5 ?_
  show E _ _ _ (0, [some (.ref 2004)], [], M, 0) _
  refine E_aload_n fJ0_length_8abf5_0 rfl (by decide) ?_
  refine E_getS (v := .ref 3004) fJ0_length_8abf5_1 ⟨by decide, by decide⟩ rfl ?_
  refine E_blen (j := 4) fJ0_length_8abf5_4 rfl (by decide) ?_
  refine E_aload_n fJ0_length_8abf5_5 rfl (by decide) ?_
  refine E_callV (t := [.int (nI (strN 4))]) (coder_4 (d := d)) fJ0_length_8abf5_6 mJ0_coder_7d493 (rc_str ⟨by decide, by decide⟩) ⟨by decide, rfl⟩ rfl rfl (Nat.le_of_ble_eq_true rfl) ?_
  refine E_ishr fJ0_length_8abf5_9 ?_
  exact R_iret fJ0_length_8abf5_10 mJ0_length_8abf5 rfl (by rw [len_4])
theorem canEncode_ok (ch : Int32) : Ret G (d + 1) 113 [.int ch] M (some (.int (bI (0 ≤ ch ∧ ch ≤ 255)))) M := by
  refine R_start (d := d + 0) (by decide) mJ1_canEncode_9a6ad ?_
  show E _ _ _ (0, [some (.int ch)], [], M, 0) _
  refine E_iload_n fJ1_canEncode_9a6ad_0 rfl ?_
  refine E_iflt (tg := 15) fJ1_canEncode_9a6ad_1 (by decide) (fun c_1 => ?_) (fun c_1 => ?_)
  · refine E_iconst (v := 0) fJ1_canEncode_9a6ad_15 (by decide) ?_
    exact R_iret fJ1_canEncode_9a6ad_16 mJ1_canEncode_9a6ad rfl (by first | rw [bI_f fun z => absurd c_1 (Int32.not_lt.mpr z.1)] | rw [bI_f fun z => absurd c_8 (Int32.not_lt.mpr z.2)])
  · refine E_iload_n fJ1_canEncode_9a6ad_4 rfl ?_
    refine E_sipush (v := 255) fJ1_canEncode_9a6ad_5 (by decide) ?_
    refine E_icgt (tg := 15) fJ1_canEncode_9a6ad_8 (by decide) (fun c_8 => ?_) (fun c_8 => ?_)
    · refine E_iconst (v := 0) fJ1_canEncode_9a6ad_15 (by decide) ?_
      exact R_iret fJ1_canEncode_9a6ad_16 mJ1_canEncode_9a6ad rfl (by first | rw [bI_f fun z => absurd c_1 (Int32.not_lt.mpr z.1)] | rw [bI_f fun z => absurd c_8 (Int32.not_lt.mpr z.2)])
    · refine E_iconst (v := 1) fJ1_canEncode_9a6ad_11 (by decide) ?_
      refine E_goto (tg := 16) fJ1_canEncode_9a6ad_12 (by decide) ?_
      exact R_iret fJ1_canEncode_9a6ad_16 mJ1_canEncode_9a6ad rfl (by rw [bI_t ⟨Int32.not_lt.mp c_1, Int32.not_lt.mp c_8⟩])
theorem indexOfChar_0 (ch : Int32) : ∃ v M', Ret G (d + 1) 115 [.ref 3000, .int ch, .int 0, .int (nI 12)] M v M' ∧ (M' = M ∧ ∃ x, v = some (.int x)) := by
  have loop : ∀ m i b, i + m = 12 → E G (d) 115 (7, [some (.ref 3000), some (.int ch), some (.int 0), some (.int (nI 12)), some (.int b), some (.int (nI i))], [], M, 0) (fun r => ∃ v M', r = (.inl v, M', 0) ∧ (M' = M ∧ ∃ x, v = some (.int x))) := by
    intro m
    induction m with
    | zero =>
      intro i b hi 
      have e : i = 12 := by omega
      refine E_iload fJ1_indexOfChar_4cfef_7 rfl ?_
      refine E_iload_n fJ1_indexOfChar_4cfef_9 rfl ?_
      refine E_icge (tg := 31) fJ1_indexOfChar_4cfef_10 (by decide) (fun c_10 => ?_) (fun c => absurd (by rw [e]; exact Int32.le_refl _) c)
      refine E_iconst (v := (-1)) fJ1_indexOfChar_4cfef_31 (by decide) ?_
      exact R_iret fJ1_indexOfChar_4cfef_32 mJ1_indexOfChar_4cfef rfl ⟨_, _, rfl, rfl, _, rfl⟩
    | succ m ih =>
      intro i b hi 
      have hlt : i < 12 := by omega
      refine E_iload fJ1_indexOfChar_4cfef_7 rfl ?_
      refine E_iload_n fJ1_indexOfChar_4cfef_9 rfl ?_
      refine E_icge (tg := 31) fJ1_indexOfChar_4cfef_10 (by decide) (fun c => absurd c (nI_ge hlt (by decide))) (fun c_10 => ?_)
      refine E_aload_n fJ1_indexOfChar_4cfef_13 rfl (by decide) ?_
      refine E_iload fJ1_indexOfChar_4cfef_14 rfl ?_
      refine E_bald (j := 0) (n := i) fJ1_indexOfChar_4cfef_16 rfl (by decide) rfl (show i < strN 0 from hlt) (by decide) ?_
      refine E_iload fJ1_indexOfChar_4cfef_17 rfl ?_
      refine E_icne (tg := 25) fJ1_indexOfChar_4cfef_19 (by decide) (fun c_19 => ?_) (fun c_19 => ?_)
      · refine E_iinc (v := nI (i + 1)) (L' := [some (.ref 3000), some (.int ch), some (.int 0), some (.int (nI 12)), some (.int b), some (.int (nI (i + 1)))]) fJ1_indexOfChar_4cfef_25 rfl (inc1 _) rfl ?_
        refine E_goto (tg := 7) fJ1_indexOfChar_4cfef_28 (by decide) ?_
        exact ih (i + 1) _ (by omega)
      · refine E_iload fJ1_indexOfChar_4cfef_22 rfl ?_
        exact R_iret fJ1_indexOfChar_4cfef_24 mJ1_indexOfChar_4cfef rfl ⟨_, _, rfl, rfl, _, rfl⟩
  refine X_start (d := d + 0) (by decide) mJ1_indexOfChar_4cfef ?_
  show E _ _ _ (0, [some (.ref 3000), some (.int ch), some (.int 0), some (.int (nI 12)), none, none], [], M, 0) _
  refine E_iload_n fJ1_indexOfChar_4cfef_0 rfl ?_
  refine E_i2b fJ1_indexOfChar_4cfef_1 ?_
  refine E_istore (L' := [some (.ref 3000), some (.int ch), some (.int 0), some (.int (nI 12)), some (.int ((ch : Int32).toInt8.toInt32)), none]) fJ1_indexOfChar_4cfef_2 rfl (Nat.le_of_ble_eq_true rfl) ?_
  refine E_iload_n fJ1_indexOfChar_4cfef_4 rfl ?_
  refine E_istore (L' := [some (.ref 3000), some (.int ch), some (.int 0), some (.int (nI 12)), some (.int ((ch : Int32).toInt8.toInt32)), some (.int 0)]) fJ1_indexOfChar_4cfef_5 rfl (Nat.le_of_ble_eq_true rfl) ?_
  exact loop 12 0 _ (by omega)
theorem indexOf4_0 (ch : Int32) : ∃ v M', Ret G (d + 2) 114 [.ref 3000, .int ch, .int 0, .int (nI 12)] M v M' ∧ (M' = M ∧ ∃ x, v = some (.int x)) := by
  refine X_start (d := d + 1) (by decide) mJ1_indexOf_4cfef ?_
  show E _ _ _ (0, [some (.ref 3000), some (.int ch), some (.int 0), some (.int (nI 12))], [], M, 0) _
  refine E_iload_n fJ1_indexOf_4cfef_0 rfl ?_
  refine E_callS (t := []) (canEncode_ok ch) fJ1_indexOf_4cfef_1 (by decide) mJ1_canEncode_9a6ad ⟨rfl, rfl⟩ rfl rfl (Nat.le_of_ble_eq_true rfl) ?_
  refine E_ifne (tg := 9) fJ1_indexOf_4cfef_4 (by decide) (fun c_4 => ?_) (fun c_4 => ?_)
  · refine E_iload_n fJ1_indexOf_4cfef_9 rfl ?_
    refine E_iconst (v := 0) fJ1_indexOf_4cfef_10 (by decide) ?_
    refine E_max fJ1_indexOf_4cfef_11 (by decide) ?_
    rw [if_neg (by decide)]
    refine E_istore_n (L' := [some (.ref 3000), some (.int ch), some (.int 0), some (.int (nI 12))]) fJ1_indexOf_4cfef_14 rfl (Nat.le_of_ble_eq_true rfl) ?_
    refine E_iload_n fJ1_indexOf_4cfef_15 rfl ?_
    refine E_aload_n fJ1_indexOf_4cfef_16 rfl (by decide) ?_
    refine E_blen (j := 0) fJ1_indexOf_4cfef_17 rfl (by decide) ?_
    refine E_min fJ1_indexOf_4cfef_18 (by decide) ?_
    rw [if_neg (by decide +kernel)]
    refine E_istore_n (L' := [some (.ref 3000), some (.int ch), some (.int 0), some (.int (nI 12))]) fJ1_indexOf_4cfef_21 rfl (Nat.le_of_ble_eq_true rfl) ?_
    refine E_iload_n fJ1_indexOf_4cfef_22 rfl ?_
    refine E_iload_n fJ1_indexOf_4cfef_23 rfl ?_
    refine E_iclt (tg := 29) fJ1_indexOf_4cfef_24 (by decide) (fun c_24 => ?_) (fun c => absurd (by decide +kernel) c)
    refine E_aload_n fJ1_indexOf_4cfef_29 rfl (by decide) ?_
    refine E_iload_n fJ1_indexOf_4cfef_30 rfl ?_
    refine E_iload_n fJ1_indexOf_4cfef_31 rfl ?_
    refine E_iload_n fJ1_indexOf_4cfef_32 rfl ?_
    obtain ⟨v1, M1, hR1, hM1, x1, rfl⟩ := indexOfChar_0 (d := d) (M := M) ch
    rw [hM1] at hR1
    refine E_callS (t := []) hR1 fJ1_indexOf_4cfef_33 (by decide) mJ1_indexOfChar_4cfef ⟨rfl, rfl⟩ rfl rfl (Nat.le_of_ble_eq_true rfl) ?_
    exact R_iret fJ1_indexOf_4cfef_36 mJ1_indexOf_4cfef rfl ⟨_, _, rfl, rfl, _, rfl⟩
  · refine E_iconst (v := (-1)) fJ1_indexOf_4cfef_7 (by decide) ?_
    exact R_iret fJ1_indexOf_4cfef_8 mJ1_indexOf_4cfef rfl ⟨_, _, rfl, rfl, _, rfl⟩
theorem indexOf3_0 (ch : Int32) : ∃ v M', Ret G (d + 3) 108 [.ref 2000, .int ch, .int 0] M v M' ∧ (M' = M ∧ ∃ x, v = some (.int x)) := by
  refine X_start (d := d + 2) (by decide) mJ0_indexOf_7cf53 ?_
  show E _ _ _ (0, [some (.ref 2000), some (.int ch), some (.int 0)], [], M, 0) _
  refine E_aload_n fJ0_indexOf_7cf53_0 rfl (by decide) ?_
  refine E_callV (t := []) (isLatin1_0 (d := d + 1)) fJ0_indexOf_7cf53_1 mJ0_isLatin1_aae02 (rc_str ⟨by decide, by decide⟩) ⟨by decide, rfl⟩ rfl rfl (Nat.le_of_ble_eq_true rfl) ?_
  refine E_ifeq (tg := 23) fJ0_indexOf_7cf53_4 (by decide) (fun c => absurd c (by decide)) (fun c_4 => ?_)
  refine E_aload_n fJ0_indexOf_7cf53_7 rfl (by decide) ?_
  refine E_getS (v := .ref 3000) fJ0_indexOf_7cf53_8 ⟨by decide, by decide⟩ rfl ?_
  refine E_iload_n fJ0_indexOf_7cf53_11 rfl ?_
  refine E_iload_n fJ0_indexOf_7cf53_12 rfl ?_
  refine E_aload_n fJ0_indexOf_7cf53_13 rfl (by decide) ?_
  refine E_callV (t := [.int 0, .int ch, .ref 3000]) (length_0 (d := d)) fJ0_indexOf_7cf53_14 mJ0_length_8abf5 (rc_str ⟨by decide, by decide⟩) ⟨by decide, rfl⟩ rfl rfl (Nat.le_of_ble_eq_true rfl) ?_
  obtain ⟨v1, M1, hR1, hM1, x1, rfl⟩ := indexOf4_0 (d := d) (M := M) ch
  rw [hM1] at hR1
  refine E_callS (t := []) hR1 fJ0_indexOf_7cf53_17 (by decide) mJ1_indexOf_4cfef ⟨rfl, rfl⟩ rfl rfl (Nat.le_of_ble_eq_true rfl) ?_
  refine E_goto (tg := 36) fJ0_indexOf_7cf53_20 (by decide) ?_
  exact R_iret fJ0_indexOf_7cf53_36 mJ0_indexOf_7cf53 rfl ⟨_, _, rfl, rfl, _, rfl⟩
theorem indexOf_0 (ch : Int32) : ∃ v M', Ret G (d + 4) 107 [.ref 2000, .int ch] M v M' ∧ (M' = M ∧ ∃ x, v = some (.int x)) := by
  refine X_start (d := d + 3) (by decide) mJ0_indexOf_0f7a4 ?_
  show E _ _ _ (0, [some (.ref 2000), some (.int ch)], [], M, 0) _
  refine E_aload_n fJ0_indexOf_0f7a4_0 rfl (by decide) ?_
  refine E_iload_n fJ0_indexOf_0f7a4_1 rfl ?_
  refine E_iconst (v := 0) fJ0_indexOf_0f7a4_2 (by decide) ?_
  obtain ⟨v1, M1, hR1, hM1, x1, rfl⟩ := indexOf3_0 (d := d) (M := M) ch
  rw [hM1] at hR1
  refine E_callV (t := []) hR1 fJ0_indexOf_0f7a4_3 mJ0_indexOf_7cf53 (rc_str ⟨by decide, by decide⟩) ⟨by decide, rfl⟩ rfl rfl (Nat.le_of_ble_eq_true rfl) ?_
  exact R_iret fJ0_indexOf_0f7a4_6 mJ0_indexOf_0f7a4 rfl ⟨_, _, rfl, rfl, _, rfl⟩
theorem indexOfChar_1 (ch : Int32) : ∃ v M', Ret G (d + 1) 115 [.ref 3001, .int ch, .int 0, .int (nI 4)] M v M' ∧ (M' = M ∧ ∃ x, v = some (.int x)) := by
  have loop : ∀ m i b, i + m = 4 → E G (d) 115 (7, [some (.ref 3001), some (.int ch), some (.int 0), some (.int (nI 4)), some (.int b), some (.int (nI i))], [], M, 0) (fun r => ∃ v M', r = (.inl v, M', 0) ∧ (M' = M ∧ ∃ x, v = some (.int x))) := by
    intro m
    induction m with
    | zero =>
      intro i b hi 
      have e : i = 4 := by omega
      refine E_iload fJ1_indexOfChar_4cfef_7 rfl ?_
      refine E_iload_n fJ1_indexOfChar_4cfef_9 rfl ?_
      refine E_icge (tg := 31) fJ1_indexOfChar_4cfef_10 (by decide) (fun c_10 => ?_) (fun c => absurd (by rw [e]; exact Int32.le_refl _) c)
      refine E_iconst (v := (-1)) fJ1_indexOfChar_4cfef_31 (by decide) ?_
      exact R_iret fJ1_indexOfChar_4cfef_32 mJ1_indexOfChar_4cfef rfl ⟨_, _, rfl, rfl, _, rfl⟩
    | succ m ih =>
      intro i b hi 
      have hlt : i < 4 := by omega
      refine E_iload fJ1_indexOfChar_4cfef_7 rfl ?_
      refine E_iload_n fJ1_indexOfChar_4cfef_9 rfl ?_
      refine E_icge (tg := 31) fJ1_indexOfChar_4cfef_10 (by decide) (fun c => absurd c (nI_ge hlt (by decide))) (fun c_10 => ?_)
      refine E_aload_n fJ1_indexOfChar_4cfef_13 rfl (by decide) ?_
      refine E_iload fJ1_indexOfChar_4cfef_14 rfl ?_
      refine E_bald (j := 1) (n := i) fJ1_indexOfChar_4cfef_16 rfl (by decide) rfl (show i < strN 1 from hlt) (by decide) ?_
      refine E_iload fJ1_indexOfChar_4cfef_17 rfl ?_
      refine E_icne (tg := 25) fJ1_indexOfChar_4cfef_19 (by decide) (fun c_19 => ?_) (fun c_19 => ?_)
      · refine E_iinc (v := nI (i + 1)) (L' := [some (.ref 3001), some (.int ch), some (.int 0), some (.int (nI 4)), some (.int b), some (.int (nI (i + 1)))]) fJ1_indexOfChar_4cfef_25 rfl (inc1 _) rfl ?_
        refine E_goto (tg := 7) fJ1_indexOfChar_4cfef_28 (by decide) ?_
        exact ih (i + 1) _ (by omega)
      · refine E_iload fJ1_indexOfChar_4cfef_22 rfl ?_
        exact R_iret fJ1_indexOfChar_4cfef_24 mJ1_indexOfChar_4cfef rfl ⟨_, _, rfl, rfl, _, rfl⟩
  refine X_start (d := d + 0) (by decide) mJ1_indexOfChar_4cfef ?_
  show E _ _ _ (0, [some (.ref 3001), some (.int ch), some (.int 0), some (.int (nI 4)), none, none], [], M, 0) _
  refine E_iload_n fJ1_indexOfChar_4cfef_0 rfl ?_
  refine E_i2b fJ1_indexOfChar_4cfef_1 ?_
  refine E_istore (L' := [some (.ref 3001), some (.int ch), some (.int 0), some (.int (nI 4)), some (.int ((ch : Int32).toInt8.toInt32)), none]) fJ1_indexOfChar_4cfef_2 rfl (Nat.le_of_ble_eq_true rfl) ?_
  refine E_iload_n fJ1_indexOfChar_4cfef_4 rfl ?_
  refine E_istore (L' := [some (.ref 3001), some (.int ch), some (.int 0), some (.int (nI 4)), some (.int ((ch : Int32).toInt8.toInt32)), some (.int 0)]) fJ1_indexOfChar_4cfef_5 rfl (Nat.le_of_ble_eq_true rfl) ?_
  exact loop 4 0 _ (by omega)
theorem indexOf4_1 (ch : Int32) : ∃ v M', Ret G (d + 2) 114 [.ref 3001, .int ch, .int 0, .int (nI 4)] M v M' ∧ (M' = M ∧ ∃ x, v = some (.int x)) := by
  refine X_start (d := d + 1) (by decide) mJ1_indexOf_4cfef ?_
  show E _ _ _ (0, [some (.ref 3001), some (.int ch), some (.int 0), some (.int (nI 4))], [], M, 0) _
  refine E_iload_n fJ1_indexOf_4cfef_0 rfl ?_
  refine E_callS (t := []) (canEncode_ok ch) fJ1_indexOf_4cfef_1 (by decide) mJ1_canEncode_9a6ad ⟨rfl, rfl⟩ rfl rfl (Nat.le_of_ble_eq_true rfl) ?_
  refine E_ifne (tg := 9) fJ1_indexOf_4cfef_4 (by decide) (fun c_4 => ?_) (fun c_4 => ?_)
  · refine E_iload_n fJ1_indexOf_4cfef_9 rfl ?_
    refine E_iconst (v := 0) fJ1_indexOf_4cfef_10 (by decide) ?_
    refine E_max fJ1_indexOf_4cfef_11 (by decide) ?_
    rw [if_neg (by decide)]
    refine E_istore_n (L' := [some (.ref 3001), some (.int ch), some (.int 0), some (.int (nI 4))]) fJ1_indexOf_4cfef_14 rfl (Nat.le_of_ble_eq_true rfl) ?_
    refine E_iload_n fJ1_indexOf_4cfef_15 rfl ?_
    refine E_aload_n fJ1_indexOf_4cfef_16 rfl (by decide) ?_
    refine E_blen (j := 1) fJ1_indexOf_4cfef_17 rfl (by decide) ?_
    refine E_min fJ1_indexOf_4cfef_18 (by decide) ?_
    rw [if_neg (by decide +kernel)]
    refine E_istore_n (L' := [some (.ref 3001), some (.int ch), some (.int 0), some (.int (nI 4))]) fJ1_indexOf_4cfef_21 rfl (Nat.le_of_ble_eq_true rfl) ?_
    refine E_iload_n fJ1_indexOf_4cfef_22 rfl ?_
    refine E_iload_n fJ1_indexOf_4cfef_23 rfl ?_
    refine E_iclt (tg := 29) fJ1_indexOf_4cfef_24 (by decide) (fun c_24 => ?_) (fun c => absurd (by decide +kernel) c)
    refine E_aload_n fJ1_indexOf_4cfef_29 rfl (by decide) ?_
    refine E_iload_n fJ1_indexOf_4cfef_30 rfl ?_
    refine E_iload_n fJ1_indexOf_4cfef_31 rfl ?_
    refine E_iload_n fJ1_indexOf_4cfef_32 rfl ?_
    obtain ⟨v1, M1, hR1, hM1, x1, rfl⟩ := indexOfChar_1 (d := d) (M := M) ch
    rw [hM1] at hR1
    refine E_callS (t := []) hR1 fJ1_indexOf_4cfef_33 (by decide) mJ1_indexOfChar_4cfef ⟨rfl, rfl⟩ rfl rfl (Nat.le_of_ble_eq_true rfl) ?_
    exact R_iret fJ1_indexOf_4cfef_36 mJ1_indexOf_4cfef rfl ⟨_, _, rfl, rfl, _, rfl⟩
  · refine E_iconst (v := (-1)) fJ1_indexOf_4cfef_7 (by decide) ?_
    exact R_iret fJ1_indexOf_4cfef_8 mJ1_indexOf_4cfef rfl ⟨_, _, rfl, rfl, _, rfl⟩
theorem indexOf3_1 (ch : Int32) : ∃ v M', Ret G (d + 3) 108 [.ref 2001, .int ch, .int 0] M v M' ∧ (M' = M ∧ ∃ x, v = some (.int x)) := by
  refine X_start (d := d + 2) (by decide) mJ0_indexOf_7cf53 ?_
  show E _ _ _ (0, [some (.ref 2001), some (.int ch), some (.int 0)], [], M, 0) _
  refine E_aload_n fJ0_indexOf_7cf53_0 rfl (by decide) ?_
  refine E_callV (t := []) (isLatin1_1 (d := d + 1)) fJ0_indexOf_7cf53_1 mJ0_isLatin1_aae02 (rc_str ⟨by decide, by decide⟩) ⟨by decide, rfl⟩ rfl rfl (Nat.le_of_ble_eq_true rfl) ?_
  refine E_ifeq (tg := 23) fJ0_indexOf_7cf53_4 (by decide) (fun c => absurd c (by decide)) (fun c_4 => ?_)
  refine E_aload_n fJ0_indexOf_7cf53_7 rfl (by decide) ?_
  refine E_getS (v := .ref 3001) fJ0_indexOf_7cf53_8 ⟨by decide, by decide⟩ rfl ?_
  refine E_iload_n fJ0_indexOf_7cf53_11 rfl ?_
  refine E_iload_n fJ0_indexOf_7cf53_12 rfl ?_
  refine E_aload_n fJ0_indexOf_7cf53_13 rfl (by decide) ?_
  refine E_callV (t := [.int 0, .int ch, .ref 3001]) (length_1 (d := d)) fJ0_indexOf_7cf53_14 mJ0_length_8abf5 (rc_str ⟨by decide, by decide⟩) ⟨by decide, rfl⟩ rfl rfl (Nat.le_of_ble_eq_true rfl) ?_
  obtain ⟨v1, M1, hR1, hM1, x1, rfl⟩ := indexOf4_1 (d := d) (M := M) ch
  rw [hM1] at hR1
  refine E_callS (t := []) hR1 fJ0_indexOf_7cf53_17 (by decide) mJ1_indexOf_4cfef ⟨rfl, rfl⟩ rfl rfl (Nat.le_of_ble_eq_true rfl) ?_
  refine E_goto (tg := 36) fJ0_indexOf_7cf53_20 (by decide) ?_
  exact R_iret fJ0_indexOf_7cf53_36 mJ0_indexOf_7cf53 rfl ⟨_, _, rfl, rfl, _, rfl⟩
theorem indexOf_1 (ch : Int32) : ∃ v M', Ret G (d + 4) 107 [.ref 2001, .int ch] M v M' ∧ (M' = M ∧ ∃ x, v = some (.int x)) := by
  refine X_start (d := d + 3) (by decide) mJ0_indexOf_0f7a4 ?_
  show E _ _ _ (0, [some (.ref 2001), some (.int ch)], [], M, 0) _
  refine E_aload_n fJ0_indexOf_0f7a4_0 rfl (by decide) ?_
  refine E_iload_n fJ0_indexOf_0f7a4_1 rfl ?_
  refine E_iconst (v := 0) fJ0_indexOf_0f7a4_2 (by decide) ?_
  obtain ⟨v1, M1, hR1, hM1, x1, rfl⟩ := indexOf3_1 (d := d) (M := M) ch
  rw [hM1] at hR1
  refine E_callV (t := []) hR1 fJ0_indexOf_0f7a4_3 mJ0_indexOf_7cf53 (rc_str ⟨by decide, by decide⟩) ⟨by decide, rfl⟩ rfl rfl (Nat.le_of_ble_eq_true rfl) ?_
  exact R_iret fJ0_indexOf_0f7a4_6 mJ0_indexOf_0f7a4 rfl ⟨_, _, rfl, rfl, _, rfl⟩
theorem indexOfChar_2 (ch : Int32) : ∃ v M', Ret G (d + 1) 115 [.ref 3002, .int ch, .int 0, .int (nI 5)] M v M' ∧ (M' = M ∧ ∃ x, v = some (.int x)) := by
  have loop : ∀ m i b, i + m = 5 → E G (d) 115 (7, [some (.ref 3002), some (.int ch), some (.int 0), some (.int (nI 5)), some (.int b), some (.int (nI i))], [], M, 0) (fun r => ∃ v M', r = (.inl v, M', 0) ∧ (M' = M ∧ ∃ x, v = some (.int x))) := by
    intro m
    induction m with
    | zero =>
      intro i b hi 
      have e : i = 5 := by omega
      refine E_iload fJ1_indexOfChar_4cfef_7 rfl ?_
      refine E_iload_n fJ1_indexOfChar_4cfef_9 rfl ?_
      refine E_icge (tg := 31) fJ1_indexOfChar_4cfef_10 (by decide) (fun c_10 => ?_) (fun c => absurd (by rw [e]; exact Int32.le_refl _) c)
      refine E_iconst (v := (-1)) fJ1_indexOfChar_4cfef_31 (by decide) ?_
      exact R_iret fJ1_indexOfChar_4cfef_32 mJ1_indexOfChar_4cfef rfl ⟨_, _, rfl, rfl, _, rfl⟩
    | succ m ih =>
      intro i b hi 
      have hlt : i < 5 := by omega
      refine E_iload fJ1_indexOfChar_4cfef_7 rfl ?_
      refine E_iload_n fJ1_indexOfChar_4cfef_9 rfl ?_
      refine E_icge (tg := 31) fJ1_indexOfChar_4cfef_10 (by decide) (fun c => absurd c (nI_ge hlt (by decide))) (fun c_10 => ?_)
      refine E_aload_n fJ1_indexOfChar_4cfef_13 rfl (by decide) ?_
      refine E_iload fJ1_indexOfChar_4cfef_14 rfl ?_
      refine E_bald (j := 2) (n := i) fJ1_indexOfChar_4cfef_16 rfl (by decide) rfl (show i < strN 2 from hlt) (by decide) ?_
      refine E_iload fJ1_indexOfChar_4cfef_17 rfl ?_
      refine E_icne (tg := 25) fJ1_indexOfChar_4cfef_19 (by decide) (fun c_19 => ?_) (fun c_19 => ?_)
      · refine E_iinc (v := nI (i + 1)) (L' := [some (.ref 3002), some (.int ch), some (.int 0), some (.int (nI 5)), some (.int b), some (.int (nI (i + 1)))]) fJ1_indexOfChar_4cfef_25 rfl (inc1 _) rfl ?_
        refine E_goto (tg := 7) fJ1_indexOfChar_4cfef_28 (by decide) ?_
        exact ih (i + 1) _ (by omega)
      · refine E_iload fJ1_indexOfChar_4cfef_22 rfl ?_
        exact R_iret fJ1_indexOfChar_4cfef_24 mJ1_indexOfChar_4cfef rfl ⟨_, _, rfl, rfl, _, rfl⟩
  refine X_start (d := d + 0) (by decide) mJ1_indexOfChar_4cfef ?_
  show E _ _ _ (0, [some (.ref 3002), some (.int ch), some (.int 0), some (.int (nI 5)), none, none], [], M, 0) _
  refine E_iload_n fJ1_indexOfChar_4cfef_0 rfl ?_
  refine E_i2b fJ1_indexOfChar_4cfef_1 ?_
  refine E_istore (L' := [some (.ref 3002), some (.int ch), some (.int 0), some (.int (nI 5)), some (.int ((ch : Int32).toInt8.toInt32)), none]) fJ1_indexOfChar_4cfef_2 rfl (Nat.le_of_ble_eq_true rfl) ?_
  refine E_iload_n fJ1_indexOfChar_4cfef_4 rfl ?_
  refine E_istore (L' := [some (.ref 3002), some (.int ch), some (.int 0), some (.int (nI 5)), some (.int ((ch : Int32).toInt8.toInt32)), some (.int 0)]) fJ1_indexOfChar_4cfef_5 rfl (Nat.le_of_ble_eq_true rfl) ?_
  exact loop 5 0 _ (by omega)
theorem indexOf4_2 (ch : Int32) : ∃ v M', Ret G (d + 2) 114 [.ref 3002, .int ch, .int 0, .int (nI 5)] M v M' ∧ (M' = M ∧ ∃ x, v = some (.int x)) := by
  refine X_start (d := d + 1) (by decide) mJ1_indexOf_4cfef ?_
  show E _ _ _ (0, [some (.ref 3002), some (.int ch), some (.int 0), some (.int (nI 5))], [], M, 0) _
  refine E_iload_n fJ1_indexOf_4cfef_0 rfl ?_
  refine E_callS (t := []) (canEncode_ok ch) fJ1_indexOf_4cfef_1 (by decide) mJ1_canEncode_9a6ad ⟨rfl, rfl⟩ rfl rfl (Nat.le_of_ble_eq_true rfl) ?_
  refine E_ifne (tg := 9) fJ1_indexOf_4cfef_4 (by decide) (fun c_4 => ?_) (fun c_4 => ?_)
  · refine E_iload_n fJ1_indexOf_4cfef_9 rfl ?_
    refine E_iconst (v := 0) fJ1_indexOf_4cfef_10 (by decide) ?_
    refine E_max fJ1_indexOf_4cfef_11 (by decide) ?_
    rw [if_neg (by decide)]
    refine E_istore_n (L' := [some (.ref 3002), some (.int ch), some (.int 0), some (.int (nI 5))]) fJ1_indexOf_4cfef_14 rfl (Nat.le_of_ble_eq_true rfl) ?_
    refine E_iload_n fJ1_indexOf_4cfef_15 rfl ?_
    refine E_aload_n fJ1_indexOf_4cfef_16 rfl (by decide) ?_
    refine E_blen (j := 2) fJ1_indexOf_4cfef_17 rfl (by decide) ?_
    refine E_min fJ1_indexOf_4cfef_18 (by decide) ?_
    rw [if_neg (by decide +kernel)]
    refine E_istore_n (L' := [some (.ref 3002), some (.int ch), some (.int 0), some (.int (nI 5))]) fJ1_indexOf_4cfef_21 rfl (Nat.le_of_ble_eq_true rfl) ?_
    refine E_iload_n fJ1_indexOf_4cfef_22 rfl ?_
    refine E_iload_n fJ1_indexOf_4cfef_23 rfl ?_
    refine E_iclt (tg := 29) fJ1_indexOf_4cfef_24 (by decide) (fun c_24 => ?_) (fun c => absurd (by decide +kernel) c)
    refine E_aload_n fJ1_indexOf_4cfef_29 rfl (by decide) ?_
    refine E_iload_n fJ1_indexOf_4cfef_30 rfl ?_
    refine E_iload_n fJ1_indexOf_4cfef_31 rfl ?_
    refine E_iload_n fJ1_indexOf_4cfef_32 rfl ?_
    obtain ⟨v1, M1, hR1, hM1, x1, rfl⟩ := indexOfChar_2 (d := d) (M := M) ch
    rw [hM1] at hR1
    refine E_callS (t := []) hR1 fJ1_indexOf_4cfef_33 (by decide) mJ1_indexOfChar_4cfef ⟨rfl, rfl⟩ rfl rfl (Nat.le_of_ble_eq_true rfl) ?_
    exact R_iret fJ1_indexOf_4cfef_36 mJ1_indexOf_4cfef rfl ⟨_, _, rfl, rfl, _, rfl⟩
  · refine E_iconst (v := (-1)) fJ1_indexOf_4cfef_7 (by decide) ?_
    exact R_iret fJ1_indexOf_4cfef_8 mJ1_indexOf_4cfef rfl ⟨_, _, rfl, rfl, _, rfl⟩
theorem indexOf3_2 (ch : Int32) : ∃ v M', Ret G (d + 3) 108 [.ref 2002, .int ch, .int 0] M v M' ∧ (M' = M ∧ ∃ x, v = some (.int x)) := by
  refine X_start (d := d + 2) (by decide) mJ0_indexOf_7cf53 ?_
  show E _ _ _ (0, [some (.ref 2002), some (.int ch), some (.int 0)], [], M, 0) _
  refine E_aload_n fJ0_indexOf_7cf53_0 rfl (by decide) ?_
  refine E_callV (t := []) (isLatin1_2 (d := d + 1)) fJ0_indexOf_7cf53_1 mJ0_isLatin1_aae02 (rc_str ⟨by decide, by decide⟩) ⟨by decide, rfl⟩ rfl rfl (Nat.le_of_ble_eq_true rfl) ?_
  refine E_ifeq (tg := 23) fJ0_indexOf_7cf53_4 (by decide) (fun c => absurd c (by decide)) (fun c_4 => ?_)
  refine E_aload_n fJ0_indexOf_7cf53_7 rfl (by decide) ?_
  refine E_getS (v := .ref 3002) fJ0_indexOf_7cf53_8 ⟨by decide, by decide⟩ rfl ?_
  refine E_iload_n fJ0_indexOf_7cf53_11 rfl ?_
  refine E_iload_n fJ0_indexOf_7cf53_12 rfl ?_
  refine E_aload_n fJ0_indexOf_7cf53_13 rfl (by decide) ?_
  refine E_callV (t := [.int 0, .int ch, .ref 3002]) (length_2 (d := d)) fJ0_indexOf_7cf53_14 mJ0_length_8abf5 (rc_str ⟨by decide, by decide⟩) ⟨by decide, rfl⟩ rfl rfl (Nat.le_of_ble_eq_true rfl) ?_
  obtain ⟨v1, M1, hR1, hM1, x1, rfl⟩ := indexOf4_2 (d := d) (M := M) ch
  rw [hM1] at hR1
  refine E_callS (t := []) hR1 fJ0_indexOf_7cf53_17 (by decide) mJ1_indexOf_4cfef ⟨rfl, rfl⟩ rfl rfl (Nat.le_of_ble_eq_true rfl) ?_
  refine E_goto (tg := 36) fJ0_indexOf_7cf53_20 (by decide) ?_
  exact R_iret fJ0_indexOf_7cf53_36 mJ0_indexOf_7cf53 rfl ⟨_, _, rfl, rfl, _, rfl⟩
theorem indexOf_2 (ch : Int32) : ∃ v M', Ret G (d + 4) 107 [.ref 2002, .int ch] M v M' ∧ (M' = M ∧ ∃ x, v = some (.int x)) := by
  refine X_start (d := d + 3) (by decide) mJ0_indexOf_0f7a4 ?_
  show E _ _ _ (0, [some (.ref 2002), some (.int ch)], [], M, 0) _
  refine E_aload_n fJ0_indexOf_0f7a4_0 rfl (by decide) ?_
  refine E_iload_n fJ0_indexOf_0f7a4_1 rfl ?_
  refine E_iconst (v := 0) fJ0_indexOf_0f7a4_2 (by decide) ?_
  obtain ⟨v1, M1, hR1, hM1, x1, rfl⟩ := indexOf3_2 (d := d) (M := M) ch
  rw [hM1] at hR1
  refine E_callV (t := []) hR1 fJ0_indexOf_0f7a4_3 mJ0_indexOf_7cf53 (rc_str ⟨by decide, by decide⟩) ⟨by decide, rfl⟩ rfl rfl (Nat.le_of_ble_eq_true rfl) ?_
  exact R_iret fJ0_indexOf_0f7a4_6 mJ0_indexOf_0f7a4 rfl ⟨_, _, rfl, rfl, _, rfl⟩
theorem indexOfChar_3 (ch : Int32) : ∃ v M', Ret G (d + 1) 115 [.ref 3003, .int ch, .int 0, .int (nI 4)] M v M' ∧ (M' = M ∧ ∃ x, v = some (.int x)) := by
  have loop : ∀ m i b, i + m = 4 → E G (d) 115 (7, [some (.ref 3003), some (.int ch), some (.int 0), some (.int (nI 4)), some (.int b), some (.int (nI i))], [], M, 0) (fun r => ∃ v M', r = (.inl v, M', 0) ∧ (M' = M ∧ ∃ x, v = some (.int x))) := by
    intro m
    induction m with
    | zero =>
      intro i b hi 
      have e : i = 4 := by omega
      refine E_iload fJ1_indexOfChar_4cfef_7 rfl ?_
      refine E_iload_n fJ1_indexOfChar_4cfef_9 rfl ?_
      refine E_icge (tg := 31) fJ1_indexOfChar_4cfef_10 (by decide) (fun c_10 => ?_) (fun c => absurd (by rw [e]; exact Int32.le_refl _) c)
      refine E_iconst (v := (-1)) fJ1_indexOfChar_4cfef_31 (by decide) ?_
      exact R_iret fJ1_indexOfChar_4cfef_32 mJ1_indexOfChar_4cfef rfl ⟨_, _, rfl, rfl, _, rfl⟩
    | succ m ih =>
      intro i b hi 
      have hlt : i < 4 := by omega
      refine E_iload fJ1_indexOfChar_4cfef_7 rfl ?_
      refine E_iload_n fJ1_indexOfChar_4cfef_9 rfl ?_
      refine E_icge (tg := 31) fJ1_indexOfChar_4cfef_10 (by decide) (fun c => absurd c (nI_ge hlt (by decide))) (fun c_10 => ?_)
      refine E_aload_n fJ1_indexOfChar_4cfef_13 rfl (by decide) ?_
      refine E_iload fJ1_indexOfChar_4cfef_14 rfl ?_
      refine E_bald (j := 3) (n := i) fJ1_indexOfChar_4cfef_16 rfl (by decide) rfl (show i < strN 3 from hlt) (by decide) ?_
      refine E_iload fJ1_indexOfChar_4cfef_17 rfl ?_
      refine E_icne (tg := 25) fJ1_indexOfChar_4cfef_19 (by decide) (fun c_19 => ?_) (fun c_19 => ?_)
      · refine E_iinc (v := nI (i + 1)) (L' := [some (.ref 3003), some (.int ch), some (.int 0), some (.int (nI 4)), some (.int b), some (.int (nI (i + 1)))]) fJ1_indexOfChar_4cfef_25 rfl (inc1 _) rfl ?_
        refine E_goto (tg := 7) fJ1_indexOfChar_4cfef_28 (by decide) ?_
        exact ih (i + 1) _ (by omega)
      · refine E_iload fJ1_indexOfChar_4cfef_22 rfl ?_
        exact R_iret fJ1_indexOfChar_4cfef_24 mJ1_indexOfChar_4cfef rfl ⟨_, _, rfl, rfl, _, rfl⟩
  refine X_start (d := d + 0) (by decide) mJ1_indexOfChar_4cfef ?_
  show E _ _ _ (0, [some (.ref 3003), some (.int ch), some (.int 0), some (.int (nI 4)), none, none], [], M, 0) _
  refine E_iload_n fJ1_indexOfChar_4cfef_0 rfl ?_
  refine E_i2b fJ1_indexOfChar_4cfef_1 ?_
  refine E_istore (L' := [some (.ref 3003), some (.int ch), some (.int 0), some (.int (nI 4)), some (.int ((ch : Int32).toInt8.toInt32)), none]) fJ1_indexOfChar_4cfef_2 rfl (Nat.le_of_ble_eq_true rfl) ?_
  refine E_iload_n fJ1_indexOfChar_4cfef_4 rfl ?_
  refine E_istore (L' := [some (.ref 3003), some (.int ch), some (.int 0), some (.int (nI 4)), some (.int ((ch : Int32).toInt8.toInt32)), some (.int 0)]) fJ1_indexOfChar_4cfef_5 rfl (Nat.le_of_ble_eq_true rfl) ?_
  exact loop 4 0 _ (by omega)
theorem indexOf4_3 (ch : Int32) : ∃ v M', Ret G (d + 2) 114 [.ref 3003, .int ch, .int 0, .int (nI 4)] M v M' ∧ (M' = M ∧ ∃ x, v = some (.int x)) := by
  refine X_start (d := d + 1) (by decide) mJ1_indexOf_4cfef ?_
  show E _ _ _ (0, [some (.ref 3003), some (.int ch), some (.int 0), some (.int (nI 4))], [], M, 0) _
  refine E_iload_n fJ1_indexOf_4cfef_0 rfl ?_
  refine E_callS (t := []) (canEncode_ok ch) fJ1_indexOf_4cfef_1 (by decide) mJ1_canEncode_9a6ad ⟨rfl, rfl⟩ rfl rfl (Nat.le_of_ble_eq_true rfl) ?_
  refine E_ifne (tg := 9) fJ1_indexOf_4cfef_4 (by decide) (fun c_4 => ?_) (fun c_4 => ?_)
  · refine E_iload_n fJ1_indexOf_4cfef_9 rfl ?_
    refine E_iconst (v := 0) fJ1_indexOf_4cfef_10 (by decide) ?_
    refine E_max fJ1_indexOf_4cfef_11 (by decide) ?_
    rw [if_neg (by decide)]
    refine E_istore_n (L' := [some (.ref 3003), some (.int ch), some (.int 0), some (.int (nI 4))]) fJ1_indexOf_4cfef_14 rfl (Nat.le_of_ble_eq_true rfl) ?_
    refine E_iload_n fJ1_indexOf_4cfef_15 rfl ?_
    refine E_aload_n fJ1_indexOf_4cfef_16 rfl (by decide) ?_
    refine E_blen (j := 3) fJ1_indexOf_4cfef_17 rfl (by decide) ?_
    refine E_min fJ1_indexOf_4cfef_18 (by decide) ?_
    rw [if_neg (by decide +kernel)]
    refine E_istore_n (L' := [some (.ref 3003), some (.int ch), some (.int 0), some (.int (nI 4))]) fJ1_indexOf_4cfef_21 rfl (Nat.le_of_ble_eq_true rfl) ?_
    refine E_iload_n fJ1_indexOf_4cfef_22 rfl ?_
    refine E_iload_n fJ1_indexOf_4cfef_23 rfl ?_
    refine E_iclt (tg := 29) fJ1_indexOf_4cfef_24 (by decide) (fun c_24 => ?_) (fun c => absurd (by decide +kernel) c)
    refine E_aload_n fJ1_indexOf_4cfef_29 rfl (by decide) ?_
    refine E_iload_n fJ1_indexOf_4cfef_30 rfl ?_
    refine E_iload_n fJ1_indexOf_4cfef_31 rfl ?_
    refine E_iload_n fJ1_indexOf_4cfef_32 rfl ?_
    obtain ⟨v1, M1, hR1, hM1, x1, rfl⟩ := indexOfChar_3 (d := d) (M := M) ch
    rw [hM1] at hR1
    refine E_callS (t := []) hR1 fJ1_indexOf_4cfef_33 (by decide) mJ1_indexOfChar_4cfef ⟨rfl, rfl⟩ rfl rfl (Nat.le_of_ble_eq_true rfl) ?_
    exact R_iret fJ1_indexOf_4cfef_36 mJ1_indexOf_4cfef rfl ⟨_, _, rfl, rfl, _, rfl⟩
  · refine E_iconst (v := (-1)) fJ1_indexOf_4cfef_7 (by decide) ?_
    exact R_iret fJ1_indexOf_4cfef_8 mJ1_indexOf_4cfef rfl ⟨_, _, rfl, rfl, _, rfl⟩
theorem indexOf3_3 (ch : Int32) : ∃ v M', Ret G (d + 3) 108 [.ref 2003, .int ch, .int 0] M v M' ∧ (M' = M ∧ ∃ x, v = some (.int x)) := by
  refine X_start (d := d + 2) (by decide) mJ0_indexOf_7cf53 ?_
  show E _ _ _ (0, [some (.ref 2003), some (.int ch), some (.int 0)], [], M, 0) _
  refine E_aload_n fJ0_indexOf_7cf53_0 rfl (by decide) ?_
  refine E_callV (t := []) (isLatin1_3 (d := d + 1)) fJ0_indexOf_7cf53_1 mJ0_isLatin1_aae02 (rc_str ⟨by decide, by decide⟩) ⟨by decide, rfl⟩ rfl rfl (Nat.le_of_ble_eq_true rfl) ?_
  refine E_ifeq (tg := 23) fJ0_indexOf_7cf53_4 (by decide) (fun c => absurd c (by decide)) (fun c_4 => ?_)
  refine E_aload_n fJ0_indexOf_7cf53_7 rfl (by decide) ?_
  refine E_getS (v := .ref 3003) fJ0_indexOf_7cf53_8 ⟨by decide, by decide⟩ rfl ?_
  refine E_iload_n fJ0_indexOf_7cf53_11 rfl ?_
  refine E_iload_n fJ0_indexOf_7cf53_12 rfl ?_
  refine E_aload_n fJ0_indexOf_7cf53_13 rfl (by decide) ?_
  refine E_callV (t := [.int 0, .int ch, .ref 3003]) (length_3 (d := d)) fJ0_indexOf_7cf53_14 mJ0_length_8abf5 (rc_str ⟨by decide, by decide⟩) ⟨by decide, rfl⟩ rfl rfl (Nat.le_of_ble_eq_true rfl) ?_
  obtain ⟨v1, M1, hR1, hM1, x1, rfl⟩ := indexOf4_3 (d := d) (M := M) ch
  rw [hM1] at hR1
  refine E_callS (t := []) hR1 fJ0_indexOf_7cf53_17 (by decide) mJ1_indexOf_4cfef ⟨rfl, rfl⟩ rfl rfl (Nat.le_of_ble_eq_true rfl) ?_
  refine E_goto (tg := 36) fJ0_indexOf_7cf53_20 (by decide) ?_
  exact R_iret fJ0_indexOf_7cf53_36 mJ0_indexOf_7cf53 rfl ⟨_, _, rfl, rfl, _, rfl⟩
theorem indexOf_3 (ch : Int32) : ∃ v M', Ret G (d + 4) 107 [.ref 2003, .int ch] M v M' ∧ (M' = M ∧ ∃ x, v = some (.int x)) := by
  refine X_start (d := d + 3) (by decide) mJ0_indexOf_0f7a4 ?_
  show E _ _ _ (0, [some (.ref 2003), some (.int ch)], [], M, 0) _
  refine E_aload_n fJ0_indexOf_0f7a4_0 rfl (by decide) ?_
  refine E_iload_n fJ0_indexOf_0f7a4_1 rfl ?_
  refine E_iconst (v := 0) fJ0_indexOf_0f7a4_2 (by decide) ?_
  obtain ⟨v1, M1, hR1, hM1, x1, rfl⟩ := indexOf3_3 (d := d) (M := M) ch
  rw [hM1] at hR1
  refine E_callV (t := []) hR1 fJ0_indexOf_0f7a4_3 mJ0_indexOf_7cf53 (rc_str ⟨by decide, by decide⟩) ⟨by decide, rfl⟩ rfl rfl (Nat.le_of_ble_eq_true rfl) ?_
  exact R_iret fJ0_indexOf_0f7a4_6 mJ0_indexOf_0f7a4 rfl ⟨_, _, rfl, rfl, _, rfl⟩
theorem indexOfChar_4 (ch : Int32) : ∃ v M', Ret G (d + 1) 115 [.ref 3004, .int ch, .int 0, .int (nI 3)] M v M' ∧ (M' = M ∧ ∃ x, v = some (.int x)) := by
  have loop : ∀ m i b, i + m = 3 → E G (d) 115 (7, [some (.ref 3004), some (.int ch), some (.int 0), some (.int (nI 3)), some (.int b), some (.int (nI i))], [], M, 0) (fun r => ∃ v M', r = (.inl v, M', 0) ∧ (M' = M ∧ ∃ x, v = some (.int x))) := by
    intro m
    induction m with
    | zero =>
      intro i b hi 
      have e : i = 3 := by omega
      refine E_iload fJ1_indexOfChar_4cfef_7 rfl ?_
      refine E_iload_n fJ1_indexOfChar_4cfef_9 rfl ?_
      refine E_icge (tg := 31) fJ1_indexOfChar_4cfef_10 (by decide) (fun c_10 => ?_) (fun c => absurd (by rw [e]; exact Int32.le_refl _) c)
      refine E_iconst (v := (-1)) fJ1_indexOfChar_4cfef_31 (by decide) ?_
      exact R_iret fJ1_indexOfChar_4cfef_32 mJ1_indexOfChar_4cfef rfl ⟨_, _, rfl, rfl, _, rfl⟩
    | succ m ih =>
      intro i b hi 
      have hlt : i < 3 := by omega
      refine E_iload fJ1_indexOfChar_4cfef_7 rfl ?_
      refine E_iload_n fJ1_indexOfChar_4cfef_9 rfl ?_
      refine E_icge (tg := 31) fJ1_indexOfChar_4cfef_10 (by decide) (fun c => absurd c (nI_ge hlt (by decide))) (fun c_10 => ?_)
      refine E_aload_n fJ1_indexOfChar_4cfef_13 rfl (by decide) ?_
      refine E_iload fJ1_indexOfChar_4cfef_14 rfl ?_
      refine E_bald (j := 4) (n := i) fJ1_indexOfChar_4cfef_16 rfl (by decide) rfl (show i < strN 4 from hlt) (by decide) ?_
      refine E_iload fJ1_indexOfChar_4cfef_17 rfl ?_
      refine E_icne (tg := 25) fJ1_indexOfChar_4cfef_19 (by decide) (fun c_19 => ?_) (fun c_19 => ?_)
      · refine E_iinc (v := nI (i + 1)) (L' := [some (.ref 3004), some (.int ch), some (.int 0), some (.int (nI 3)), some (.int b), some (.int (nI (i + 1)))]) fJ1_indexOfChar_4cfef_25 rfl (inc1 _) rfl ?_
        refine E_goto (tg := 7) fJ1_indexOfChar_4cfef_28 (by decide) ?_
        exact ih (i + 1) _ (by omega)
      · refine E_iload fJ1_indexOfChar_4cfef_22 rfl ?_
        exact R_iret fJ1_indexOfChar_4cfef_24 mJ1_indexOfChar_4cfef rfl ⟨_, _, rfl, rfl, _, rfl⟩
  refine X_start (d := d + 0) (by decide) mJ1_indexOfChar_4cfef ?_
  show E _ _ _ (0, [some (.ref 3004), some (.int ch), some (.int 0), some (.int (nI 3)), none, none], [], M, 0) _
  refine E_iload_n fJ1_indexOfChar_4cfef_0 rfl ?_
  refine E_i2b fJ1_indexOfChar_4cfef_1 ?_
  refine E_istore (L' := [some (.ref 3004), some (.int ch), some (.int 0), some (.int (nI 3)), some (.int ((ch : Int32).toInt8.toInt32)), none]) fJ1_indexOfChar_4cfef_2 rfl (Nat.le_of_ble_eq_true rfl) ?_
  refine E_iload_n fJ1_indexOfChar_4cfef_4 rfl ?_
  refine E_istore (L' := [some (.ref 3004), some (.int ch), some (.int 0), some (.int (nI 3)), some (.int ((ch : Int32).toInt8.toInt32)), some (.int 0)]) fJ1_indexOfChar_4cfef_5 rfl (Nat.le_of_ble_eq_true rfl) ?_
  exact loop 3 0 _ (by omega)
theorem indexOf4_4 (ch : Int32) : ∃ v M', Ret G (d + 2) 114 [.ref 3004, .int ch, .int 0, .int (nI 3)] M v M' ∧ (M' = M ∧ ∃ x, v = some (.int x)) := by
  refine X_start (d := d + 1) (by decide) mJ1_indexOf_4cfef ?_
  show E _ _ _ (0, [some (.ref 3004), some (.int ch), some (.int 0), some (.int (nI 3))], [], M, 0) _
  refine E_iload_n fJ1_indexOf_4cfef_0 rfl ?_
  refine E_callS (t := []) (canEncode_ok ch) fJ1_indexOf_4cfef_1 (by decide) mJ1_canEncode_9a6ad ⟨rfl, rfl⟩ rfl rfl (Nat.le_of_ble_eq_true rfl) ?_
  refine E_ifne (tg := 9) fJ1_indexOf_4cfef_4 (by decide) (fun c_4 => ?_) (fun c_4 => ?_)
  · refine E_iload_n fJ1_indexOf_4cfef_9 rfl ?_
    refine E_iconst (v := 0) fJ1_indexOf_4cfef_10 (by decide) ?_
    refine E_max fJ1_indexOf_4cfef_11 (by decide) ?_
    rw [if_neg (by decide)]
    refine E_istore_n (L' := [some (.ref 3004), some (.int ch), some (.int 0), some (.int (nI 3))]) fJ1_indexOf_4cfef_14 rfl (Nat.le_of_ble_eq_true rfl) ?_
    refine E_iload_n fJ1_indexOf_4cfef_15 rfl ?_
    refine E_aload_n fJ1_indexOf_4cfef_16 rfl (by decide) ?_
    refine E_blen (j := 4) fJ1_indexOf_4cfef_17 rfl (by decide) ?_
    refine E_min fJ1_indexOf_4cfef_18 (by decide) ?_
    rw [if_neg (by decide +kernel)]
    refine E_istore_n (L' := [some (.ref 3004), some (.int ch), some (.int 0), some (.int (nI 3))]) fJ1_indexOf_4cfef_21 rfl (Nat.le_of_ble_eq_true rfl) ?_
    refine E_iload_n fJ1_indexOf_4cfef_22 rfl ?_
    refine E_iload_n fJ1_indexOf_4cfef_23 rfl ?_
    refine E_iclt (tg := 29) fJ1_indexOf_4cfef_24 (by decide) (fun c_24 => ?_) (fun c => absurd (by decide +kernel) c)
    refine E_aload_n fJ1_indexOf_4cfef_29 rfl (by decide) ?_
    refine E_iload_n fJ1_indexOf_4cfef_30 rfl ?_
    refine E_iload_n fJ1_indexOf_4cfef_31 rfl ?_
    refine E_iload_n fJ1_indexOf_4cfef_32 rfl ?_
    obtain ⟨v1, M1, hR1, hM1, x1, rfl⟩ := indexOfChar_4 (d := d) (M := M) ch
    rw [hM1] at hR1
    refine E_callS (t := []) hR1 fJ1_indexOf_4cfef_33 (by decide) mJ1_indexOfChar_4cfef ⟨rfl, rfl⟩ rfl rfl (Nat.le_of_ble_eq_true rfl) ?_
    exact R_iret fJ1_indexOf_4cfef_36 mJ1_indexOf_4cfef rfl ⟨_, _, rfl, rfl, _, rfl⟩
  · refine E_iconst (v := (-1)) fJ1_indexOf_4cfef_7 (by decide) ?_
    exact R_iret fJ1_indexOf_4cfef_8 mJ1_indexOf_4cfef rfl ⟨_, _, rfl, rfl, _, rfl⟩
theorem indexOf3_4 (ch : Int32) : ∃ v M', Ret G (d + 3) 108 [.ref 2004, .int ch, .int 0] M v M' ∧ (M' = M ∧ ∃ x, v = some (.int x)) := by
  refine X_start (d := d + 2) (by decide) mJ0_indexOf_7cf53 ?_
  show E _ _ _ (0, [some (.ref 2004), some (.int ch), some (.int 0)], [], M, 0) _
  refine E_aload_n fJ0_indexOf_7cf53_0 rfl (by decide) ?_
  refine E_callV (t := []) (isLatin1_4 (d := d + 1)) fJ0_indexOf_7cf53_1 mJ0_isLatin1_aae02 (rc_str ⟨by decide, by decide⟩) ⟨by decide, rfl⟩ rfl rfl (Nat.le_of_ble_eq_true rfl) ?_
  refine E_ifeq (tg := 23) fJ0_indexOf_7cf53_4 (by decide) (fun c => absurd c (by decide)) (fun c_4 => ?_)
  refine E_aload_n fJ0_indexOf_7cf53_7 rfl (by decide) ?_
  refine E_getS (v := .ref 3004) fJ0_indexOf_7cf53_8 ⟨by decide, by decide⟩ rfl ?_
  refine E_iload_n fJ0_indexOf_7cf53_11 rfl ?_
  refine E_iload_n fJ0_indexOf_7cf53_12 rfl ?_
  refine E_aload_n fJ0_indexOf_7cf53_13 rfl (by decide) ?_
  refine E_callV (t := [.int 0, .int ch, .ref 3004]) (length_4 (d := d)) fJ0_indexOf_7cf53_14 mJ0_length_8abf5 (rc_str ⟨by decide, by decide⟩) ⟨by decide, rfl⟩ rfl rfl (Nat.le_of_ble_eq_true rfl) ?_
  obtain ⟨v1, M1, hR1, hM1, x1, rfl⟩ := indexOf4_4 (d := d) (M := M) ch
  rw [hM1] at hR1
  refine E_callS (t := []) hR1 fJ0_indexOf_7cf53_17 (by decide) mJ1_indexOf_4cfef ⟨rfl, rfl⟩ rfl rfl (Nat.le_of_ble_eq_true rfl) ?_
  refine E_goto (tg := 36) fJ0_indexOf_7cf53_20 (by decide) ?_
  exact R_iret fJ0_indexOf_7cf53_36 mJ0_indexOf_7cf53 rfl ⟨_, _, rfl, rfl, _, rfl⟩
theorem indexOf_4 (ch : Int32) : ∃ v M', Ret G (d + 4) 107 [.ref 2004, .int ch] M v M' ∧ (M' = M ∧ ∃ x, v = some (.int x)) := by
  refine X_start (d := d + 3) (by decide) mJ0_indexOf_0f7a4 ?_
  show E _ _ _ (0, [some (.ref 2004), some (.int ch)], [], M, 0) _
  refine E_aload_n fJ0_indexOf_0f7a4_0 rfl (by decide) ?_
  refine E_iload_n fJ0_indexOf_0f7a4_1 rfl ?_
  refine E_iconst (v := 0) fJ0_indexOf_0f7a4_2 (by decide) ?_
  obtain ⟨v1, M1, hR1, hM1, x1, rfl⟩ := indexOf3_4 (d := d) (M := M) ch
  rw [hM1] at hR1
  refine E_callV (t := []) hR1 fJ0_indexOf_0f7a4_3 mJ0_indexOf_7cf53 (rc_str ⟨by decide, by decide⟩) ⟨by decide, rfl⟩ rfl rfl (Nat.le_of_ble_eq_true rfl) ?_
  exact R_iret fJ0_indexOf_0f7a4_6 mJ0_indexOf_0f7a4 rfl ⟨_, _, rfl, rfl, _, rfl⟩
theorem checkIndex3_ok {i n : Nat} (hi : i < n) (hn : n < 2 ^ 31) : Ret G (d + 1) 116 [.int (nI i), .int (nI n), .ref 9999] M (some (.int (nI i))) M := by
  refine R_start (d := d + 0) (by decide) mJ3_checkIndex_8e157 ?_
  show E _ _ _ (0, [some (.int (nI i)), some (.int (nI n)), some (.ref 9999)], [], M, 0) _
  refine E_iload_n fJ3_checkIndex_8e157_0 rfl ?_
  refine E_iflt (tg := 9) fJ3_checkIndex_8e157_1 (by decide) (fun c => absurd c (nI_pos (by omega))) (fun c_1 => ?_)
  refine E_iload_n fJ3_checkIndex_8e157_4 rfl ?_
  refine E_iload_n fJ3_checkIndex_8e157_5 rfl ?_
  refine E_iclt (tg := 16) fJ3_checkIndex_8e157_6 (by decide) (fun c_6 => ?_) (fun c => absurd (nI_lt hi hn) c)
  refine E_iload_n fJ3_checkIndex_8e157_16 rfl ?_
  exact R_iret fJ3_checkIndex_8e157_17 mJ3_checkIndex_8e157 rfl rfl
theorem checkIndex_ok {i n : Nat} (hi : i < n) (hn : n < 2 ^ 31) : Ret G (d + 2) 111 [.int (nI i), .int (nI n)] M (none) M := by
  refine R_start (d := d + 1) (by decide) mJ0_checkIndex_df160 ?_
  show E _ _ _ (0, [some (.int (nI i)), some (.int (nI n))], [], M, 0) _
  refine E_iload_n fJ0_checkIndex_df160_0 rfl ?_
  refine E_iload_n fJ0_checkIndex_df160_1 rfl ?_
  refine E_gets (v := .ref 9999) fJ0_checkIndex_df160_2 rfl ?_
  refine E_callS (t := []) (checkIndex3_ok (d := d) hi hn) fJ0_checkIndex_df160_5 (by decide) mJ3_checkIndex_8e157 ⟨rfl, rfl⟩ rfl rfl (Nat.le_of_ble_eq_true rfl) ?_
  refine E_pop fJ0_checkIndex_df160_8 rfl ?_
  exact R_vret fJ0_checkIndex_df160_9 mJ0_checkIndex_df160 rfl rfl
theorem charAt1_0 {i : Nat} (hi : i < 12) : ∃ v M', Ret G (d + 3) 112 [.ref 3000, .int (nI i)] M v M' ∧ (M' = M ∧ ∃ x, x < 65536 ∧ v = some (.int (nI x))) := by
  refine X_start (d := d + 2) (by decide) mJ1_charAt_3b067 ?_
  show E _ _ _ (0, [some (.ref 3000), some (.int (nI i))], [], M, 0) _
  refine E_iload_n fJ1_charAt_3b067_0 rfl ?_
  refine E_aload_n fJ1_charAt_3b067_1 rfl (by decide) ?_
  refine E_blen (j := 0) fJ1_charAt_3b067_2 rfl (by decide) ?_
  refine E_callS (t := []) (checkIndex_ok (d := d) (n := strN 0) hi (by decide)) fJ1_charAt_3b067_3 (by decide) mJ0_checkIndex_df160 ⟨rfl, rfl⟩ rfl rfl (Nat.le_of_ble_eq_true rfl) ?_
  refine E_aload_n fJ1_charAt_3b067_6 rfl (by decide) ?_
  refine E_iload_n fJ1_charAt_3b067_7 rfl ?_
  refine E_bald (j := 0) (n := i) fJ1_charAt_3b067_8 rfl (by decide) rfl (show i < strN 0 from hi) (by decide) ?_
  refine E_sipush (v := 255) fJ1_charAt_3b067_9 (by decide) ?_
  refine E_iand fJ1_charAt_3b067_12 ?_
  refine E_i2c fJ1_charAt_3b067_13 ?_
  obtain ⟨x, hx, ex⟩ := i2c_nI (strI 0 i &&& 255)
  rw [ex]
  exact R_iret fJ1_charAt_3b067_14 mJ1_charAt_3b067 (ret3 hx) ⟨_, _, rfl, rfl, x, hx, rfl⟩
theorem charAt_0 {i : Nat} (hi : i < 12) : ∃ v M', Ret G (d + 4) 106 [.ref 2000, .int (nI i)] M v M' ∧ (M' = M ∧ ∃ x, x < 65536 ∧ v = some (.int (nI x))) := by
  refine X_start (d := d + 3) (by decide) mJ0_charAt_5068e ?_
  show E _ _ _ (0, [some (.ref 2000), some (.int (nI i))], [], M, 0) _
  refine E_aload_n fJ0_charAt_5068e_0 rfl (by decide) ?_
  refine E_callV (t := []) (isLatin1_0 (d := d + 2)) fJ0_charAt_5068e_1 mJ0_isLatin1_aae02 (rc_str ⟨by decide, by decide⟩) ⟨by decide, rfl⟩ rfl rfl (Nat.le_of_ble_eq_true rfl) ?_
  refine E_ifeq (tg := 16) fJ0_charAt_5068e_4 (by decide) (fun c => absurd c (by decide)) (fun c_4 => ?_)
  refine E_aload_n fJ0_charAt_5068e_7 rfl (by decide) ?_
  refine E_getS (v := .ref 3000) fJ0_charAt_5068e_8 ⟨by decide, by decide⟩ rfl ?_
  refine E_iload_n fJ0_charAt_5068e_11 rfl ?_
  obtain ⟨v1, M1, hR1, hM1, x, hx, rfl⟩ := charAt1_0 (d := d) (M := M) hi
  rw [hM1] at hR1
  refine E_callS (t := []) hR1 fJ0_charAt_5068e_12 (by decide) mJ1_charAt_3b067 ⟨rfl, rfl⟩ rfl rfl (Nat.le_of_ble_eq_true rfl) ?_
  exact R_iret fJ0_charAt_5068e_15 mJ0_charAt_5068e (ret3 hx) ⟨_, _, rfl, rfl, x, hx, rfl⟩
theorem charAt1_1 {i : Nat} (hi : i < 4) : ∃ v M', Ret G (d + 3) 112 [.ref 3001, .int (nI i)] M v M' ∧ (M' = M ∧ ∃ x, x < 65536 ∧ v = some (.int (nI x))) := by
  refine X_start (d := d + 2) (by decide) mJ1_charAt_3b067 ?_
  show E _ _ _ (0, [some (.ref 3001), some (.int (nI i))], [], M, 0) _
  refine E_iload_n fJ1_charAt_3b067_0 rfl ?_
  refine E_aload_n fJ1_charAt_3b067_1 rfl (by decide) ?_
  refine E_blen (j := 1) fJ1_charAt_3b067_2 rfl (by decide) ?_
  refine E_callS (t := []) (checkIndex_ok (d := d) (n := strN 1) hi (by decide)) fJ1_charAt_3b067_3 (by decide) mJ0_checkIndex_df160 ⟨rfl, rfl⟩ rfl rfl (Nat.le_of_ble_eq_true rfl) ?_
  refine E_aload_n fJ1_charAt_3b067_6 rfl (by decide) ?_
  refine E_iload_n fJ1_charAt_3b067_7 rfl ?_
  refine E_bald (j := 1) (n := i) fJ1_charAt_3b067_8 rfl (by decide) rfl (show i < strN 1 from hi) (by decide) ?_
  refine E_sipush (v := 255) fJ1_charAt_3b067_9 (by decide) ?_
  refine E_iand fJ1_charAt_3b067_12 ?_
  refine E_i2c fJ1_charAt_3b067_13 ?_
  obtain ⟨x, hx, ex⟩ := i2c_nI (strI 1 i &&& 255)
  rw [ex]
  exact R_iret fJ1_charAt_3b067_14 mJ1_charAt_3b067 (ret3 hx) ⟨_, _, rfl, rfl, x, hx, rfl⟩
theorem charAt_1 {i : Nat} (hi : i < 4) : ∃ v M', Ret G (d + 4) 106 [.ref 2001, .int (nI i)] M v M' ∧ (M' = M ∧ ∃ x, x < 65536 ∧ v = some (.int (nI x))) := by
  refine X_start (d := d + 3) (by decide) mJ0_charAt_5068e ?_
  show E _ _ _ (0, [some (.ref 2001), some (.int (nI i))], [], M, 0) _
  refine E_aload_n fJ0_charAt_5068e_0 rfl (by decide) ?_
  refine E_callV (t := []) (isLatin1_1 (d := d + 2)) fJ0_charAt_5068e_1 mJ0_isLatin1_aae02 (rc_str ⟨by decide, by decide⟩) ⟨by decide, rfl⟩ rfl rfl (Nat.le_of_ble_eq_true rfl) ?_
  refine E_ifeq (tg := 16) fJ0_charAt_5068e_4 (by decide) (fun c => absurd c (by decide)) (fun c_4 => ?_)
  refine E_aload_n fJ0_charAt_5068e_7 rfl (by decide) ?_
  refine E_getS (v := .ref 3001) fJ0_charAt_5068e_8 ⟨by decide, by decide⟩ rfl ?_
  refine E_iload_n fJ0_charAt_5068e_11 rfl ?_
  obtain ⟨v1, M1, hR1, hM1, x, hx, rfl⟩ := charAt1_1 (d := d) (M := M) hi
  rw [hM1] at hR1
  refine E_callS (t := []) hR1 fJ0_charAt_5068e_12 (by decide) mJ1_charAt_3b067 ⟨rfl, rfl⟩ rfl rfl (Nat.le_of_ble_eq_true rfl) ?_
  exact R_iret fJ0_charAt_5068e_15 mJ0_charAt_5068e (ret3 hx) ⟨_, _, rfl, rfl, x, hx, rfl⟩
theorem charAt1_2 {i : Nat} (hi : i < 5) : ∃ v M', Ret G (d + 3) 112 [.ref 3002, .int (nI i)] M v M' ∧ (M' = M ∧ ∃ x, x < 65536 ∧ v = some (.int (nI x))) := by
  refine X_start (d := d + 2) (by decide) mJ1_charAt_3b067 ?_
  show E _ _ _ (0, [some (.ref 3002), some (.int (nI i))], [], M, 0) _
  refine E_iload_n fJ1_charAt_3b067_0 rfl ?_
  refine E_aload_n fJ1_charAt_3b067_1 rfl (by decide) ?_
  refine E_blen (j := 2) fJ1_charAt_3b067_2 rfl (by decide) ?_
  refine E_callS (t := []) (checkIndex_ok (d := d) (n := strN 2) hi (by decide)) fJ1_charAt_3b067_3 (by decide) mJ0_checkIndex_df160 ⟨rfl, rfl⟩ rfl rfl (Nat.le_of_ble_eq_true rfl) ?_
  refine E_aload_n fJ1_charAt_3b067_6 rfl (by decide) ?_
  refine E_iload_n fJ1_charAt_3b067_7 rfl ?_
  refine E_bald (j := 2) (n := i) fJ1_charAt_3b067_8 rfl (by decide) rfl (show i < strN 2 from hi) (by decide) ?_
  refine E_sipush (v := 255) fJ1_charAt_3b067_9 (by decide) ?_
  refine E_iand fJ1_charAt_3b067_12 ?_
  refine E_i2c fJ1_charAt_3b067_13 ?_
  obtain ⟨x, hx, ex⟩ := i2c_nI (strI 2 i &&& 255)
  rw [ex]
  exact R_iret fJ1_charAt_3b067_14 mJ1_charAt_3b067 (ret3 hx) ⟨_, _, rfl, rfl, x, hx, rfl⟩
theorem charAt_2 {i : Nat} (hi : i < 5) : ∃ v M', Ret G (d + 4) 106 [.ref 2002, .int (nI i)] M v M' ∧ (M' = M ∧ ∃ x, x < 65536 ∧ v = some (.int (nI x))) := by
  refine X_start (d := d + 3) (by decide) mJ0_charAt_5068e ?_
  show E _ _ _ (0, [some (.ref 2002), some (.int (nI i))], [], M, 0) _
  refine E_aload_n fJ0_charAt_5068e_0 rfl (by decide) ?_
  refine E_callV (t := []) (isLatin1_2 (d := d + 2)) fJ0_charAt_5068e_1 mJ0_isLatin1_aae02 (rc_str ⟨by decide, by decide⟩) ⟨by decide, rfl⟩ rfl rfl (Nat.le_of_ble_eq_true rfl) ?_
  refine E_ifeq (tg := 16) fJ0_charAt_5068e_4 (by decide) (fun c => absurd c (by decide)) (fun c_4 => ?_)
  refine E_aload_n fJ0_charAt_5068e_7 rfl (by decide) ?_
  refine E_getS (v := .ref 3002) fJ0_charAt_5068e_8 ⟨by decide, by decide⟩ rfl ?_
  refine E_iload_n fJ0_charAt_5068e_11 rfl ?_
  obtain ⟨v1, M1, hR1, hM1, x, hx, rfl⟩ := charAt1_2 (d := d) (M := M) hi
  rw [hM1] at hR1
  refine E_callS (t := []) hR1 fJ0_charAt_5068e_12 (by decide) mJ1_charAt_3b067 ⟨rfl, rfl⟩ rfl rfl (Nat.le_of_ble_eq_true rfl) ?_
  exact R_iret fJ0_charAt_5068e_15 mJ0_charAt_5068e (ret3 hx) ⟨_, _, rfl, rfl, x, hx, rfl⟩
end SP16
