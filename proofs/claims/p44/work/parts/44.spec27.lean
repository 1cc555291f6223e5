/-! THE MAKING MACHINE: the constructors over the list of the block's cells made so far; a cell: its kind and what lies in it (references by place in the block, null where nothing was put yet) -/
abbrev CE : Type := Nat × List Value
abbrev CB : Type := List CE
def dflt (c : Nat) : CE := (c, (List.range (nF c)).map fun k => if fTy c k = 3 then .long 0 else if fTy c k = 4 then .null else .int 0)
def okv (a b : Nat) (v : Value) : Bool := match v with
  | .int x => decide (fTy a b < 3) && fitF (fTy a b) x
  | .ref x => decide (fTy a b = 4) && decide (x < 410)
  | _ => false
def cH (i : Instr) (a b : Nat) (B : CB) (st : List Value) : Option (CB × List Value) := match i with
  | .new _ => if a < 10 then some (B ++ [dflt a], .ref B.length :: st) else none
  | .newarray _ => match st with
    | .int n :: t => if n = nI (aLen a) ∧ 20 ≤ a ∧ a ≤ 27 then some (B ++ [(a, List.replicate (aLen a) (.int 0))], .ref B.length :: t) else none
    | _ => none
  | .anewarray _ => match st with
    | .int n :: t => if n = nI (aLen a) ∧ 28 ≤ a ∧ a ≤ 31 then some (B ++ [(a, List.replicate (aLen a) .null)], .ref B.length :: t) else none
    | _ => none
  | .putfield _ => match st with
    | v :: .ref r :: t => match B[r]? with
      | some (k, fs) => if k = a ∧ a < 10 ∧ b < fs.length ∧ okv a b v = true then some (B.set r (k, fs.set b v), t) else none
      | none => none
    | _ => none
  | .getfield _ => match st with
    | .ref r :: t => match B[r]? with
      | some (k, fs) => if k = a ∧ a < 10 ∧ fTy a b = 4 then (match fs[b]? with
        | some (.ref x) => if x < 410 then some (B, .ref x :: t) else none
        | _ => none) else none
      | none => none
    | _ => none
  | .aastore => match st with
    | .ref x :: .int j :: .ref r :: t => match B[r]?, B[x]? with
      | some (k, vs), some (k2, _) => if 28 ≤ k ∧ k ≤ 31 ∧ k2 = (if k = 28 then 3 else if k = 29 then 6 else if k = 30 then 8 else 7) ∧ 0 ≤ j ∧ j.toNatClampNeg < vs.length then some (B.set r (k, vs.set j.toNatClampNeg (.ref x)), t) else none
      | _, _ => none
    | _ => none
  | _ => none
abbrev CS : Type := Nat × Loc1 × List Value × CB
/-- a step: on, an end, or a call of a constructor -/
def cstep (nP : Nat → Nat) (cds : Nat → List CR) (k : Nat) (s : CS) : Option (CS ⊕ (CB ⊕ (Nat × List Value × CS))) := match fet (cds k) s.1 with
  | none => none
  | some (i, a, b) => match opS i s.2.2.1 with
    | some st => some (.inl (s.1 + ilen i, s.2.1, st, s.2.2.2))
    | none => match opL i s.2.1 s.2.2.1 with
      | some (L, st) => some (.inl (s.1 + ilen i, L, st, s.2.2.2))
      | none => match opB i s.1 s.2.2.1 with
        | some (pc, st) => some (.inl (pc, s.2.1, st, s.2.2.2))
        | none => match cH i a b s.2.2.2 s.2.2.1 with
          | some (B, st) => some (.inl (s.1 + (match i with | .newarray _ => 2 | .anewarray _ => 3 | .aastore => 1 | _ => 3), s.2.1, st, B))
          | none => match i with
            | .return_ => match s.2.2.1 with
              | [] => some (.inr (.inl s.2.2.2))
              | _ => none
            | .invokespecial _ =>
              let As := (s.2.2.1.take (nP a)).reverse
              if As.length = nP a ∧ (b = 1 ∨ b = 2) then (match s.2.2.1.drop (nP a) with
                | .ref r :: t => match s.2.2.2[r]? with
                  | some (k2, _) => if (k2 = a ∨ a = 10) ∧ catS t ≤ 8 ∧ As.all (fun v => v.category == 1) = true then some (.inr (.inr (a, .ref r :: As, (s.1 + 3, s.2.1, t, s.2.2.2)))) else none
                  | none => none
                | _ => none) else none
            | _ => none
def cloop (nP : Nat → Nat) (cds : Nat → List CR) (call : Nat → List Value → CB → Option CB) (k : Nat) : Nat → CS → Option CB
  | 0, _ => none
  | f + 1, s => match cstep nP cds k s with
    | none => none
    | some (.inl s') => cloop nP cds call k f s'
    | some (.inr (.inl B)) => some B
    | some (.inr (.inr q)) => match call q.1 q.2.1 q.2.2.2.2.2 with
      | none => none
      | some B => cloop nP cds call k f (q.2.2.1, q.2.2.2.1, q.2.2.2.2.1, B)
def crun (nP mL : Nat → Nat) (cds : Nat → List CR) : Nat → Nat → List Value → CB → Option CB
  | 0 => fun _ _ _ => none
  | d + 1 => fun k As B => cloop nP cds (crun nP mL cds d) k 1000 (0, entL As (mL k), [], B)
def cR0 : List CR := [(0, .aload_n 0, 0, 0), (1, .invokespecial 3, 10, 1), (4, .aload_n 0, 0, 0), (5, .bipush 8, 0, 0), (7, .newarray .int, 20, 0), (9, .putfield 9, 0, 2), (12, .aload_n 0, 0, 0), (13, .bipush 8, 0, 0), (15, .newarray .int, 20, 0), (17, .putfield 15, 0, 3), (20, .return_, 0, 0)]
def cR1 : List CR := [(0, .aload_n 0, 0, 0), (1, .invokespecial 3, 10, 1), (4, .aload_n 0, 0, 0), (5, .bipush 8, 0, 0), (7, .newarray .int, 20, 0), (9, .putfield 9, 1, 2), (12, .aload_n 0, 0, 0), (13, .iconst 2, 0, 0), (14, .putfield 15, 1, 5), (17, .return_, 0, 0)]
def cR2 : List CR := [(0, .aload_n 0, 0, 0), (1, .invokespecial 3, 10, 1), (4, .aload_n 0, 0, 0), (5, .bipush 40, 0, 0), (7, .anewarray 9, 28, 0), (10, .putfield 11, 2, 3), (13, .aload_n 0, 0, 0), (14, .bipush 12, 0, 0), (16, .anewarray 17, 29, 0), (19, .putfield 19, 2, 4), (22, .aload_n 0, 0, 0), (23, .bipush 16, 0, 0), (25, .anewarray 23, 30, 0), (28, .putfield 25, 2, 5), (31, .iconst 0, 0, 0), (32, .istore_n 1, 0, 0), (33, .iload_n 1, 0, 0), (34, .bipush 40, 0, 0), (36, .if_icmp .ge 22, 0, 0), (39, .aload_n 0, 0, 0), (40, .getfield 11, 2, 3), (43, .iload_n 1, 0, 0), (44, .new 9, 3, 0), (47, .dup, 0, 0), (48, .invokespecial 29, 3, 2), (51, .aastore, 0, 0), (52, .iinc 1 1, 0, 0), (55, .goto (-22), 0, 0), (58, .iconst 0, 0, 0), (59, .istore_n 1, 0, 0), (60, .iload_n 1, 0, 0), (61, .bipush 12, 0, 0), (63, .if_icmp .ge 22, 0, 0), (66, .aload_n 0, 0, 0), (67, .getfield 19, 2, 4), (70, .iload_n 1, 0, 0), (71, .new 17, 6, 0), (74, .dup, 0, 0), (75, .invokespecial 30, 6, 2), (78, .aastore, 0, 0), (79, .iinc 1 1, 0, 0), (82, .goto (-22), 0, 0), (85, .iconst 0, 0, 0), (86, .istore_n 1, 0, 0), (87, .iload_n 1, 0, 0), (88, .bipush 16, 0, 0), (90, .if_icmp .ge 22, 0, 0), (93, .aload_n 0, 0, 0), (94, .getfield 25, 2, 5), (97, .iload_n 1, 0, 0), (98, .new 23, 8, 0), (101, .dup, 0, 0), (102, .invokespecial 31, 8, 2), (105, .aastore, 0, 0), (106, .iinc 1 1, 0, 0), (109, .goto (-22), 0, 0), (112, .return_, 0, 0)]
def cR3 : List CR := [(0, .aload_n 0, 0, 0), (1, .invokespecial 3, 10, 1), (4, .aload_n 0, 0, 0), (5, .iconst 4, 0, 0), (6, .newarray .char, 26, 0), (8, .putfield 9, 3, 5), (11, .aload_n 0, 0, 0), (12, .iconst 4, 0, 0), (13, .newarray .int, 24, 0), (15, .putfield 15, 3, 6), (18, .return_, 0, 0)]
def cR4 : List CR := [(0, .aload_n 0, 0, 0), (1, .invokespecial 1, 10, 1), (4, .aload_n 0, 0, 0), (5, .new 7, 5, 0), (8, .dup, 0, 0), (9, .invokespecial 9, 5, 2), (12, .putfield 10, 4, 0), (15, .aload_n 0, 0, 0), (16, .iconst 1, 0, 0), (17, .putfield 16, 4, 1), (20, .return_, 0, 0)]
def cR5 : List CR := [(0, .aload_n 0, 0, 0), (1, .invokespecial 3, 10, 1), (4, .aload_n 0, 0, 0), (5, .iconst 1, 0, 0), (6, .putfield 9, 5, 1), (9, .aload_n 0, 0, 0), (10, .bipush 8, 0, 0), (12, .newarray .int, 20, 0), (14, .putfield 15, 5, 4), (17, .aload_n 0, 0, 0), (18, .bipush 8, 0, 0), (20, .newarray .int, 20, 0), (22, .putfield 19, 5, 5), (25, .aload_n 0, 0, 0), (26, .bipush 12, 0, 0), (28, .newarray .int, 21, 0), (30, .putfield 22, 5, 6), (33, .aload_n 0, 0, 0), (34, .bipush 40, 0, 0), (36, .newarray .int, 22, 0), (38, .putfield 25, 5, 7), (41, .aload_n 0, 0, 0), (42, .iconst 2, 0, 0), (43, .newarray .int, 23, 0), (45, .putfield 28, 5, 8), (48, .aload_n 0, 0, 0), (49, .new 31, 0, 0), (52, .dup, 0, 0), (53, .invokespecial 33, 0, 2), (56, .putfield 34, 5, 9), (59, .return_, 0, 0)]
def cR6 : List CR := [(0, .aload_n 0, 0, 0), (1, .invokespecial 3, 10, 1), (4, .aload_n 0, 0, 0), (5, .iconst 3, 0, 0), (6, .newarray .char, 27, 0), (8, .putfield 9, 6, 1), (11, .aload_n 0, 0, 0), (12, .iconst 3, 0, 0), (13, .newarray .int, 25, 0), (15, .putfield 15, 6, 2), (18, .aload_n 0, 0, 0), (19, .iconst 3, 0, 0), (20, .newarray .int, 25, 0), (22, .putfield 19, 6, 3), (25, .return_, 0, 0)]
def cR7 : List CR := [(0, .aload_n 0, 0, 0), (1, .invokespecial 3, 10, 1), (4, .aload_n 0, 0, 0), (5, .bipush 40, 0, 0), (7, .putfield 9, 7, 1), (10, .aload_n 0, 0, 0), (11, .iload_n 1, 0, 0), (12, .putfield 15, 7, 0), (15, .return_, 0, 0)]
def cR8 : List CR := [(0, .aload_n 0, 0, 0), (1, .invokespecial 1, 10, 1), (4, .return_, 0, 0)]
def cR9 : List CR := [(0, .aload_n 0, 0, 0), (1, .invokespecial 1, 10, 1), (4, .aload_n 0, 0, 0), (5, .new 7, 2, 0), (8, .dup, 0, 0), (9, .invokespecial 9, 2, 1), (12, .putfield 10, 9, 0), (15, .aload_n 0, 0, 0), (16, .new 7, 2, 0), (19, .dup, 0, 0), (20, .invokespecial 9, 2, 1), (23, .putfield 16, 9, 1), (26, .aload_n 0, 0, 0), (27, .new 19, 5, 0), (30, .dup, 0, 0), (31, .invokespecial 21, 5, 2), (34, .putfield 22, 9, 2), (37, .aload_n 0, 0, 0), (38, .new 19, 5, 0), (41, .dup, 0, 0), (42, .invokespecial 21, 5, 2), (45, .putfield 26, 9, 3), (48, .aload_n 0, 0, 0), (49, .new 29, 4, 0), (52, .dup, 0, 0), (53, .invokespecial 31, 4, 2), (56, .putfield 32, 9, 4), (59, .aload_n 0, 0, 0), (60, .new 36, 1, 0), (63, .dup, 0, 0), (64, .invokespecial 38, 1, 2), (67, .putfield 39, 9, 5), (70, .aload_n 0, 0, 0), (71, .iconst 2, 0, 0), (72, .anewarray 43, 31, 0), (75, .dup, 0, 0), (76, .iconst 0, 0, 0), (77, .new 43, 7, 0), (80, .dup, 0, 0), (81, .bipush 10, 0, 0), (83, .invokespecial 45, 7, 1), (86, .aastore, 0, 0), (87, .dup, 0, 0), (88, .iconst 1, 0, 0), (89, .new 43, 7, 0), (92, .dup, 0, 0), (93, .iconst 0, 0, 0), (94, .invokespecial 45, 7, 1), (97, .aastore, 0, 0), (98, .putfield 48, 9, 6), (101, .aload_n 0, 0, 0), (102, .iconst (-1), 0, 0), (103, .putfield 52, 9, 10), (106, .return_, 0, 0)]
def cR10 : List CR := [(0, .return_, 0, 0)]
def cdC (k : Nat) : List CR := [cR0, cR1, cR2, cR3, cR4, cR5, cR6, cR7, cR8, cR9, cR10].getD k []
def nPC (k : Nat) : Nat := if k = 7 then 1 else 0
def mLC (k : Nat) : Nat := if k = 7 then 2 else if k = 2 then 2 else 1
/-- a fresh controller -/
def v0 : Mem := (fun c s => if c = 0 ∧ s = 10 then -1 else if (c = 377 ∨ c = 386 ∨ c = 396) ∧ s = 1 then 1 else if c = 395 ∧ s = 1 then 1 else if c = 405 ∧ s = 5 then 2 else if (c = 408 ∨ c = 409) ∧ s = 1 then 40 else if c = 408 ∧ s = 0 then 10 else 0, fun _ => 0)
def finE (c : Nat) : CE := if kdAll c < 10 then (kdAll c, (List.range (nF (kdAll c))).map fun f => fval v0 c (kdAll c) f) else if kdAll c ≤ 27 then (kdAll c, List.replicate (aLen (kdAll c)) (.int 0)) else (kdAll c, (List.range (aLen (kdAll c))).map fun i => .ref (c + aOff (kdAll c) i))
def finB : CB := (List.range 410).map finE
theorem crun_all : crun nPC mLC cdC 5 9 [.ref 0] [dflt 9] = some finB := by decide +kernel
