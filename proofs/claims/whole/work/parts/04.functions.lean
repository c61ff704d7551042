/-! the methods as functions over states, by program out of the bytecode -/
def f_X1_make (a1 : Int32) (a2 : Int32) (σ : St) : Option (Int32 × St) :=
  (if (gi σ 10) < (20000 : Int32) then if (gi σ 10) < 0 ∨ 20000 ≤ (gi σ 10).toNatClampNeg then none else bnd (some (sr σ 2 (upd (gr σ 2) (gi σ 10).toNatClampNeg a1))) fun σ3 => if (gi σ3 10) < 0 ∨ 20000 ≤ (gi σ3 10).toNatClampNeg then none else bnd (some (sr σ3 3 (upd (gr σ3 3) (gi σ3 10).toNatClampNeg a2))) fun σ6 => some ((gi (si σ6 10 ((gi σ6 10) + (1 : Int32))) 10) - (1 : Int32), si σ6 10 ((gi σ6 10) + (1 : Int32))) else some ((-1 : Int32), σ))
def f_X1_firstOf (a1 : Int32) (σ : St) : Option (Int32) :=
  (bnd (if a1 < 0 then some ((0 : Int32)) else (if (gi σ 10) ≤ a1 then some ((0 : Int32)) else if a1 < 0 ∨ 20000 ≤ a1.toNatClampNeg then none else some (gr σ 2 a1.toNatClampNeg))) fun v2 => some v2)
def f_X1_secondOf (a1 : Int32) (σ : St) : Option (Int32) :=
  (bnd (if a1 < 0 then some ((0 : Int32)) else (if (gi σ 10) ≤ a1 then some ((0 : Int32)) else if a1 < 0 ∨ 20000 ≤ a1.toNatClampNeg then none else some (gr σ 3 a1.toNatClampNeg))) fun v2 => some v2)
def f_X10_rest (a1 : Int32) (a2 : Int32) : Option (Int32) :=
  (bnd (if a2 ≤ 0 then some ((0 : Int32)) else if a2 = 0 then none else some (a1 - a1 / a2 * a2)) fun v2 => some v2)
def f_X2_draw (a1 : Int32) (σ : St) : Option (Int32 × St) :=
  bnd (some (si σ 112 (((gi σ 112) * (1103515245 : Int32)) + (12345 : Int32)))) fun σ1 => (bnd (f_X10_rest (((gi σ1 112).toUInt32 >>> ((16 : Int32).toUInt32 &&& Int32.toUInt32 31)).toInt32) a1) fun r4 => some (r4, σ1))
def f_X9_alphabetOf (a1 : Int32) : Option (Int32) :=
  (if a1 < (97 : Int32) then (bnd (if a1 < (48 : Int32) then some ((-1 : Int32)) else (if (57 : Int32) < a1 then some ((-1 : Int32)) else some ((1 : Int32)))) fun v3 => some v3) else (if (122 : Int32) < a1 then (bnd (if a1 < (48 : Int32) then some ((-1 : Int32)) else (if (57 : Int32) < a1 then some ((-1 : Int32)) else some ((1 : Int32)))) fun v9 => some v9) else some (0 : Int32)))
def f_X9_toNextToken_L8 : Nat → St → Option (St)
  | 0, _ => none
  | n2 + 1, σ1 => (if (gi σ1 81) ≤ (gi σ1 82) then some (σ1) else if (gi σ1 82) < 0 ∨ 400 ≤ (gi σ1 82).toNatClampNeg then none else (if (gr σ1 11 (gi σ1 82).toNatClampNeg) = (32 : Int32) then (f_X9_toNextToken_L8 n2 (si σ1 82 ((gi σ1 82) + (1 : Int32)))) else some (σ1)))
def f_X9_toNextToken_L89 (c18 : Int32) : Nat → St → Option (St)
  | 0, _ => none
  | n20 + 1, σ19 => (if (gi σ19 81) ≤ (gi σ19 83) then some (σ19) else (if c18 = (-1 : Int32) then some (σ19) else if (gi σ19 83) < 0 ∨ 400 ≤ (gi σ19 83).toNatClampNeg then none else (bnd (f_X9_alphabetOf (gr σ19 11 (gi σ19 83).toNatClampNeg)) fun r30 => (if r30 = c18 then (f_X9_toNextToken_L89 c18 n20 (si σ19 83 ((gi σ19 83) + (1 : Int32)))) else some (σ19)))))
def f_X9_toNextToken (σ : St) : Option (St) :=
  (bnd (f_X9_toNextToken_L8 FU (si σ 82 (gi σ 83))) fun σ7 => (if (gi (si σ7 83 (gi σ7 82)) 82) < (gi (si σ7 83 (gi σ7 82)) 81) then if (gi (si σ7 83 (gi σ7 82)) 82) < 0 ∨ 400 ≤ (gi (si σ7 83 (gi σ7 82)) 82).toNatClampNeg then none else (bnd (f_X9_alphabetOf (gr (si σ7 83 (gi σ7 82)) 11 (gi (si σ7 83 (gi σ7 82)) 82).toNatClampNeg)) fun r15 => bnd (some (si (si σ7 83 (gi σ7 82)) 83 ((gi (si σ7 83 (gi σ7 82)) 83) + (1 : Int32)))) fun σ16 => (bnd (f_X9_toNextToken_L89 r15 FU σ16) fun σ25 => some σ25)) else some (si σ7 83 (gi σ7 82))))
def f_X9_toFirstToken (σ : St) : Option (St) :=
  (bnd (f_X9_toNextToken (si σ 83 (0 : Int32))) fun σ2 => some σ2)
def f_X9_isAtEnd (σ : St) : Option (Int32) :=
  (bnd (if (gi σ 82) < (gi σ 81) then some ((0 : Int32)) else some ((1 : Int32))) fun v2 => (if ¬ (v2 = 0 ∨ v2 = 1) then none else some v2))
def f_X9_isToken_L23 (c2 : Nat) (σ5 : St) : Nat → Int32 → Option ((Int32) ⊕ (Unit))
  | 0, _ => none
  | n6 + 1, v4 => (if (gi σ5 83) ≤ v4 then some (.inr (())) else if v4 < 0 ∨ 400 ≤ v4.toNatClampNeg then none else if (v4 - (gi σ5 82)) < 0 ∨ zSl.getD c2 0 ≤ (v4 - (gi σ5 82)).toNatClampNeg then none else (if (gr σ5 11 v4.toNatClampNeg) = (sCh c2 (v4 - (gi σ5 82))) then (f_X9_isToken_L23 c2 σ5 n6 (v4 + (1 : Int32))) else some (.inl (0 : Int32))))
def f_X9_isToken (a1 : Nat) (σ : St) : Option (Int32) :=
  (if ((gi σ 83) - (gi σ 82)) = (sLen a1) then (bndR id (f_X9_isToken_L23 a1 σ FU (gi σ 82)) fun u11 => some (1 : Int32)) else some (0 : Int32))
def f_X5_readToken (a1 : Nat) (σ : St) : Option (Int32 × St) :=
  (bnd (f_X9_isToken a1 σ) fun r2 => (if r2 = 0 then some ((0 : Int32), σ) else (bnd (f_X9_toNextToken σ) fun σ5 => some ((1 : Int32), σ5))))
def f_X5_readKind_L2 (c1 : Nat) : Nat → Int32 → St → Option ((Int32 × St) ⊕ (St))
  | 0, _, _ => none
  | n5 + 1, v3, σ4 => (if (6 : Int32) ≤ v3 then some (.inr (σ4)) else if v3 < 0 ∨ 6 ≤ v3.toNatClampNeg then none else (bnd2 (f_X5_readToken v3.toNatClampNeg σ4) fun r14 σ15 => (if r14 = 0 then (f_X5_readKind_L2 c1 n5 (v3 + (1 : Int32)) σ15) else if v3 < 0 ∨ 6 ≤ v3.toNatClampNeg then none else some (.inl ((1 : Int32), sp σ15 (8 * c1) v3.toNatClampNeg)))))
def f_X5_readKind (a1 : Nat) (σ : St) : Option (Int32 × St) :=
  (bndR id (f_X5_readKind_L2 a1 FU (0 : Int32) σ) fun σ10 => some ((0 : Int32), σ10))
def f_X9_valueOfNumber_L45 (σ11 : St) : Nat → Int32 → Int32 → Option (Int32)
  | 0, _, _ => none
  | n12 + 1, v9, v10 => (if (gi σ11 83) ≤ v10 then some (v9) else if v10 < 0 ∨ 400 ≤ v10.toNatClampNeg then none else (f_X9_valueOfNumber_L45 σ11 n12 ((v9 * (10 : Int32)) + ((gr σ11 11 v10.toNatClampNeg) - (48 : Int32))) (v10 + (1 : Int32))))
def f_X9_valueOfNumber (σ : St) : Option (Int32) :=
  (bnd (f_X9_isAtEnd σ) fun r2 => (if r2 = 0 then if (gi σ 82) < 0 ∨ 400 ≤ (gi σ 82).toNatClampNeg then none else (bnd (f_X9_alphabetOf (gr σ 11 (gi σ 82).toNatClampNeg)) fun r6 => (if r6 = (1 : Int32) then (if ((gi σ 83) - (gi σ 82)) ≤ (4 : Int32) then (bnd (f_X9_valueOfNumber_L45 σ FU (0 : Int32) (gi σ 82)) fun o17 => some o17) else some (-1 : Int32)) else some (-1 : Int32))) else some (-1 : Int32)))
def f_X5_readNumber (a1 : Int32) (a2 : Int32) (σ : St) : Option (Int32 × St) :=
  (bnd (f_X9_valueOfNumber σ) fun r2 => (if r2 < a1 then some ((-1 : Int32), σ) else (if r2 ≤ a2 then (bnd (f_X9_toNextToken σ) fun σ6 => some (r2, σ6)) else some ((-1 : Int32), σ))))
def f_X5_readCards (a1 : Nat) (σ : St) : Option (Int32 × St) :=
  (bnd2 (f_X5_readNumber (1 : Int32) (400 : Int32) σ) fun r2 σ3 => (bnd (if (gi (si σ3 (8 * a1 + 1) r2) (8 * a1 + 1)) = (-1 : Int32) then some ((0 : Int32)) else some ((1 : Int32))) fun v5 => (if ¬ (v5 = 0 ∨ v5 = 1) then none else some (v5, si σ3 (8 * a1 + 1) r2))))
def f_X5_readStart (a1 : Nat) (σ : St) : Option (Int32 × St) :=
  (bnd2 (f_X5_readToken 7 σ) fun r2 σ3 => (bnd2 (f_X5_readNumber (0 : Int32) (9999 : Int32) σ3) fun r5 σ6 => (bnd (if r2 = 0 then some (r5) else some (-r5)) fun v8 => (bnd (if r5 = (-1 : Int32) then some ((0 : Int32)) else some ((1 : Int32))) fun v11 => (if ¬ (v11 = 0 ∨ v11 = 1) then none else some (v11, si σ6 (8 * a1 + 2) v8))))))
def f_X5_readStep (a1 : Nat) (σ : St) : Option (Int32 × St) :=
  if 6 ≤ gp σ (8 * a1) then none else (bnd2 (if (kStp (gp σ (8 * a1))) = 0 then some ((0 : Int32), σ) else (bnd2 (f_X5_readNumber (0 : Int32) (999 : Int32) σ) fun r7 σ8 => some (r7, σ8))) fun v3 σ4 => (bnd (if (gi (si σ4 (8 * a1 + 3) v3) (8 * a1 + 3)) = (-1 : Int32) then some ((0 : Int32)) else some ((1 : Int32))) fun v10 => (if ¬ (v10 = 0 ∨ v10 = 1) then none else some (v10, si σ4 (8 * a1 + 3) v3))))
def f_X5_readLength (a1 : Nat) (σ : St) : Option (Int32 × St) :=
  if 6 ≤ gp σ (8 * a1) then none else (bnd2 (if (kLen (gp σ (8 * a1))) = 0 then some ((0 : Int32), σ) else (bnd2 (f_X5_readNumber (1 : Int32) (99 : Int32) σ) fun r7 σ8 => some (r7, σ8))) fun v3 σ4 => (bnd (if (gi (si σ4 (8 * a1 + 4) v3) (8 * a1 + 4)) = (-1 : Int32) then some ((0 : Int32)) else some ((1 : Int32))) fun v10 => (if ¬ (v10 = 0 ∨ v10 = 1) then none else some (v10, si σ4 (8 * a1 + 4) v3))))
def f_X5_readDivisor (a1 : Nat) (σ : St) : Option (Int32 × St) :=
  (bnd2 (f_X5_readToken 8 σ) fun r2 σ3 => (bnd2 (if r2 = 0 then some ((0 : Int32), σ3) else (bnd2 (f_X5_readNumber (1 : Int32) (99 : Int32) σ3) fun r9 σ10 => some (r9, σ10))) fun v5 σ6 => (bnd (if (gi (si σ6 (8 * a1 + 5) v5) (8 * a1 + 5)) = (-1 : Int32) then some ((0 : Int32)) else some ((1 : Int32))) fun v12 => (if ¬ (v12 = 0 ∨ v12 = 1) then none else some (v12, si σ6 (8 * a1 + 5) v5)))))
def f_X5_readRun (a1 : Nat) (σ : St) : Option (Int32 × St) :=
  (bnd2 (f_X5_readKind a1 σ) fun r2 σ3 => (bnd2 (if r2 = 0 then some ((0 : Int32), σ3) else (bnd2 (f_X5_readCards a1 σ3) fun r9 σ10 => (if r9 = 0 then some ((0 : Int32), σ10) else (bnd2 (f_X5_readStart a1 σ10) fun r13 σ14 => (if r13 = 0 then some ((0 : Int32), σ14) else (bnd2 (f_X5_readStep a1 σ14) fun r17 σ18 => (if r17 = 0 then some ((0 : Int32), σ18) else (bnd2 (f_X5_readLength a1 σ18) fun r21 σ22 => (if r21 = 0 then some ((0 : Int32), σ22) else (bnd2 (f_X5_readDivisor a1 σ22) fun r25 σ26 => (if r25 = 0 then some ((0 : Int32), σ26) else (bnd2 (f_X5_readToken 6 σ26) fun r29 σ30 => (if r29 = 0 then some ((0 : Int32), σ30) else some ((1 : Int32), σ30)))))))))))))) fun v5 σ6 => (if ¬ (v5 = 0 ∨ v5 = 1) then none else some (v5, σ6))))
def f_X5_readText_L12 : Nat → St → Option ((Int32 × St) ⊕ (St))
  | 0, _ => none
  | n4 + 1, σ3 => (bnd (f_X9_isAtEnd σ3) fun r11 => (if r11 = 0 then (if (50 : Int32) ≤ (gi σ3 98) then some (.inr (σ3)) else if (gi σ3 98) < 0 ∨ 50 ≤ (gi σ3 98).toNatClampNeg then none else (bnd2 (f_X5_readRun (64 + (gi σ3 98).toNatClampNeg) σ3) fun r16 σ17 => (if r16 = 0 then some (.inl (gi σ17 82, σ17)) else (f_X5_readText_L12 n4 (si σ17 98 ((gi σ17 98) + (1 : Int32))))))) else some (.inr (σ3))))
def f_X5_readText (σ : St) : Option (Int32 × St) :=
  (bnd (f_X9_toFirstToken (si σ 98 (0 : Int32))) fun σ2 => (bndR id (f_X5_readText_L12 FU σ2) fun σ9 => some ((-1 : Int32), σ9)))
def f_X5_cardsOfAllRuns_L4 (σ3 : St) : Nat → Int32 → Int32 → Option (Int32)
  | 0, _, _ => none
  | n4 + 1, v1, v2 => (if (gi σ3 98) ≤ v2 then some (v1) else if v2 < 0 ∨ 50 ≤ v2.toNatClampNeg then none else (f_X5_cardsOfAllRuns_L4 σ3 n4 (v1 + (gi σ3 (8 * (64 + v2.toNatClampNeg) + 1))) (v2 + (1 : Int32))))
def f_X5_cardsOfAllRuns (σ : St) : Option (Int32) :=
  (bnd (f_X5_cardsOfAllRuns_L4 σ FU (0 : Int32) (0 : Int32)) fun o9 => some o9)
def f_X6_insert (a0 : Nat) (a1 : Int32) (a2 : Int32) (σ : St) : Option (St) :=
  (if (800 : Int32) ≤ (gi σ (8 * a0 + 1)) then some σ else (if a1 < 0 then some σ else (if a1 ≤ (gi σ (8 * a0 + 1)) then if a1 < 0 then none else if (a1 + (1 : Int32)) < 0 then none else if ((gi σ (8 * a0 + 1)) - a1) < 0 then none else if 800 < a1.toNatClampNeg + ((gi σ (8 * a0 + 1)) - a1).toNatClampNeg then none else if 800 < (a1 + (1 : Int32)).toNatClampNeg + ((gi σ (8 * a0 + 1)) - a1).toNatClampNeg then none else bnd (some (sr σ (a0 + 16) (va_cpy (gr σ (a0 + 16)) (gr σ (a0 + 16)) a1.toNatClampNeg (a1 + (1 : Int32)).toNatClampNeg ((gi σ (8 * a0 + 1)) - a1).toNatClampNeg))) fun σ9 => if a1 < 0 ∨ 800 ≤ a1.toNatClampNeg then none else bnd (some (sr σ9 (a0 + 16) (upd (gr σ9 (a0 + 16)) a1.toNatClampNeg a2))) fun σ12 => bnd (some (si σ12 (8 * a0 + 1) ((gi σ12 (8 * a0 + 1)) + (1 : Int32)))) fun σ14 => some σ14 else some σ)))
def f_X6_append (a0 : Nat) (a1 : Int32) (σ : St) : Option (St) :=
  (bnd (f_X6_insert a0 (gi σ (8 * a0 + 1)) a1 σ) fun σ2 => some σ2)
def f_X6_takeOut (a0 : Nat) (a1 : Int32) (σ : St) : Option (Int32 × St) :=
  (if a1 < 0 then some ((-1 : Int32), σ) else (if a1 < (gi σ (8 * a0 + 1)) then if a1 < 0 ∨ 800 ≤ a1.toNatClampNeg then none else bnd (some (si σ (8 * a0 + 1) ((gi σ (8 * a0 + 1)) - (1 : Int32)))) fun σ4 => if (a1 + (1 : Int32)) < 0 then none else if a1 < 0 then none else if ((gi σ4 (8 * a0 + 1)) - a1) < 0 then none else if 800 < (a1 + (1 : Int32)).toNatClampNeg + ((gi σ4 (8 * a0 + 1)) - a1).toNatClampNeg then none else if 800 < a1.toNatClampNeg + ((gi σ4 (8 * a0 + 1)) - a1).toNatClampNeg then none else bnd (some (sr σ4 (a0 + 16) (va_cpy (gr σ4 (a0 + 16)) (gr σ4 (a0 + 16)) (a1 + (1 : Int32)).toNatClampNeg a1.toNatClampNeg ((gi σ4 (8 * a0 + 1)) - a1).toNatClampNeg))) fun σ11 => some (gr σ (a0 + 16) a1.toNatClampNeg, σ11) else some ((-1 : Int32), σ)))
def f_X6_reverse_L2 (c1 : Nat) : Nat → Int32 → St → Option (St)
  | 0, _, _ => none
  | n5 + 1, v3, σ4 => (if ((gi σ4 (8 * c1 + 1)) / (2 : Int32)) ≤ v3 then some (σ4) else if v3 < 0 ∨ 800 ≤ v3.toNatClampNeg then none else if (((gi σ4 (8 * c1 + 1)) - (1 : Int32)) - v3) < 0 ∨ 800 ≤ (((gi σ4 (8 * c1 + 1)) - (1 : Int32)) - v3).toNatClampNeg then none else if v3 < 0 ∨ 800 ≤ v3.toNatClampNeg then none else bnd (some (sr σ4 (c1 + 16) (upd (gr σ4 (c1 + 16)) v3.toNatClampNeg (gr σ4 (c1 + 16) (((gi σ4 (8 * c1 + 1)) - (1 : Int32)) - v3).toNatClampNeg)))) fun σ15 => if (((gi σ15 (8 * c1 + 1)) - (1 : Int32)) - v3) < 0 ∨ 800 ≤ (((gi σ15 (8 * c1 + 1)) - (1 : Int32)) - v3).toNatClampNeg then none else bnd (some (sr σ15 (c1 + 16) (upd (gr σ15 (c1 + 16)) (((gi σ15 (8 * c1 + 1)) - (1 : Int32)) - v3).toNatClampNeg (gr σ4 (c1 + 16) v3.toNatClampNeg)))) fun σ18 => (f_X6_reverse_L2 c1 n5 (v3 + (1 : Int32)) σ18))
def f_X6_reverse (a0 : Nat) (σ : St) : Option (St) :=
  (bnd (f_X6_reverse_L2 a0 FU (0 : Int32) σ) fun σ10 => some σ10)
def f_X6_become_L29 (c1 : Nat) (c3 : Nat) (c5 : Int32) (σ8 : St) : Nat → Int32 → Int32 → Option (Int32)
  | 0, _, _ => none
  | n9 + 1, v6, v7 => (if c5 ≤ v7 then some (v6) else if v7 < 0 ∨ 800 ≤ v7.toNatClampNeg then none else if v7 < 0 ∨ 800 ≤ v7.toNatClampNeg then none else (bnd (if (gr σ8 (c1 + 16) v7.toNatClampNeg) = (gr σ8 (c3 + 16) v7.toNatClampNeg) then some (v6) else some (v6 + (1 : Int32))) fun v19 => (f_X6_become_L29 c1 c3 c5 σ8 n9 v19 (v7 + (1 : Int32)))))
def f_X6_become (a0 : Nat) (a1 : Nat) (σ : St) : Option (Int32 × St) :=
  (bnd (f_X6_become_L29 a0 a1 (if (gi σ (8 * a1 + 1)) < (gi σ (8 * a0 + 1)) then (gi σ (8 * a1 + 1)) else (gi σ (8 * a0 + 1))) σ FU ((if (gi σ (8 * a0 + 1)) < (gi σ (8 * a1 + 1)) then (gi σ (8 * a1 + 1)) else (gi σ (8 * a0 + 1))) - (if (gi σ (8 * a1 + 1)) < (gi σ (8 * a0 + 1)) then (gi σ (8 * a1 + 1)) else (gi σ (8 * a0 + 1)))) (0 : Int32)) fun o14 => if (0 : Int32) < 0 then none else if (0 : Int32) < 0 then none else if (gi σ (8 * a1 + 1)) < 0 then none else if 800 < (0 : Int32).toNatClampNeg + (gi σ (8 * a1 + 1)).toNatClampNeg then none else if 800 < (0 : Int32).toNatClampNeg + (gi σ (8 * a1 + 1)).toNatClampNeg then none else bnd (some (sr σ (a0 + 16) (va_cpy (gr σ (a1 + 16)) (gr σ (a0 + 16)) (0 : Int32).toNatClampNeg (0 : Int32).toNatClampNeg (gi σ (8 * a1 + 1)).toNatClampNeg))) fun σ28 => bnd (some (si σ28 (8 * a0 + 1) (gi σ28 (8 * a1 + 1)))) fun σ30 => some (o14, σ30))
def f_X7_firstOf (a0 : Nat) (a1 : Int32) (σ : St) : Option (Int32 × St) :=
  if 6 ≤ gp σ (8 * a0) then none else if (kOrd (gp σ (8 * a0))) < 0 ∨ 6 ≤ (kOrd (gp σ (8 * a0))).toNatClampNeg then none else (if (zSwK.getD (kOrd (gp σ (8 * a0))).toNatClampNeg 0) = 1 then some ((gi σ (8 * a0 + 2)) + (a1 * (gi σ (8 * a0 + 3))), σ) else (if (zSwK.getD (kOrd (gp σ (8 * a0))).toNatClampNeg 0) = 2 then some ((gi σ (8 * a0 + 2)) - (a1 * (gi σ (8 * a0 + 3))), σ) else (if (zSwK.getD (kOrd (gp σ (8 * a0))).toNatClampNeg 0) = 3 then (bnd (if (a1 - a1 / (2 : Int32) * (2 : Int32)) = 0 then some (gi σ (8 * a0 + 2)) else some ((gi σ (8 * a0 + 2)) + (gi σ (8 * a0 + 3)))) fun v6 => some (v6, σ)) else (if (zSwK.getD (kOrd (gp σ (8 * a0))).toNatClampNeg 0) = 4 then (bnd (f_X10_rest a1 (gi σ (8 * a0 + 4))) fun r11 => some ((gi σ (8 * a0 + 2)) + ((gi σ (8 * a0 + 3)) * r11), σ)) else (if (zSwK.getD (kOrd (gp σ (8 * a0))).toNatClampNeg 0) = 5 then (bnd2 (f_X2_draw ((gi σ (8 * a0 + 3)) + (1 : Int32)) σ) fun r14 σ15 => some ((gi σ (8 * a0 + 2)) + r14, σ15)) else some (gi σ (8 * a0 + 2), σ))))))
def f_X7_secondOf (a0 : Nat) (a1 : Int32) (σ : St) : Option (Int32) :=
  (bnd (f_X10_rest a1 (gi σ (8 * a0 + 5))) fun r2 => some r2)
def f_X8_clear (σ : St) : Option (St) :=
  some (si σ 59 (0 : Int32))
def f_X8_take_L3 (c1 : Nat) (c3 : Int32) : Nat → Int32 → St → Option (St)
  | 0, _, _ => none
  | n6 + 1, v4, σ5 => (if c3 ≤ v4 then some (σ5) else if ¬ (gp σ5 57 = 8 ∨ gp σ5 57 = 9) then none else (if (3200 : Int32) ≤ (gi σ5 59) then some (σ5) else if ¬ (gp σ5 57 = 8 ∨ gp σ5 57 = 9) then none else if v4 < 0 ∨ 800 ≤ v4.toNatClampNeg then none else if (gi σ5 59) < 0 ∨ 3200 ≤ (gi σ5 59).toNatClampNeg then none else bnd (some (sr σ5 (gp σ5 57) (upd (gr σ5 (gp σ5 57)) (gi σ5 59).toNatClampNeg (gr σ5 (c1 + 16) v4.toNatClampNeg)))) fun σ18 => (f_X8_take_L3 c1 c3 n6 (v4 + (1 : Int32)) (si σ18 59 ((gi σ18 59) + (1 : Int32))))))
def f_X8_take (a1 : Nat) (a2 : Int32) (a3 : Int32) (σ : St) : Option (St) :=
  (bnd (f_X8_take_L3 a1 a3 FU a2 σ) fun σ11 => some σ11)
def f_X8_layBack_L6 (c1 : Int32) (c2 : Nat) (c4 : Int32) (c5 : Int32) : Nat → Int32 → Int32 → St → Option (Int32 × St)
  | 0, _, _, _ => none
  | n9 + 1, v6, v7, σ8 => (if c5 ≤ v7 then some (v6, σ8) else if ¬ (gp σ8 57 = 8 ∨ gp σ8 57 = 9) then none else if ((c1 + v7) - c4) < 0 ∨ 3200 ≤ ((c1 + v7) - c4).toNatClampNeg then none else if v7 < 0 ∨ 800 ≤ v7.toNatClampNeg then none else (bnd2 (if (gr σ8 (c2 + 16) v7.toNatClampNeg) = (gr σ8 (gp σ8 57) ((c1 + v7) - c4).toNatClampNeg) then some (v6, σ8) else if v7 < 0 ∨ 800 ≤ v7.toNatClampNeg then none else bnd (some (sr σ8 (c2 + 16) (upd (gr σ8 (c2 + 16)) v7.toNatClampNeg (gr σ8 (gp σ8 57) ((c1 + v7) - c4).toNatClampNeg)))) fun σ25 => some (v6 + (1 : Int32), σ25)) fun v21 σ22 => (f_X8_layBack_L6 c1 c2 c4 c5 n9 v21 (v7 + (1 : Int32)) σ22)))
def f_X8_layBack (a1 : Int32) (a2 : Nat) (a3 : Int32) (a4 : Int32) (σ : St) : Option (Int32 × St) :=
  (bnd2 (f_X8_layBack_L6 a1 a2 a3 a4 FU (0 : Int32) a3 σ) fun o15 σ14 => some (o15, σ14))
def f_X8_firstAt (a1 : Int32) (σ : St) : Option (Int32) :=
  if ¬ (gp σ 57 = 8 ∨ gp σ 57 = 9) then none else if a1 < 0 ∨ 3200 ≤ a1.toNatClampNeg then none else (bnd (f_X1_firstOf (gr σ (gp σ 57) a1.toNatClampNeg) σ) fun r4 => some r4)
def f_X8_isWrongPair (a1 : Int32) (a2 : Int32) (a3 : Nat) (σ : St) : Option (Int32) :=
  (bnd (f_X1_firstOf a1 σ) fun r2 => (bnd (f_X1_firstOf a2 σ) fun r4 => if (oOrd a3) < 0 ∨ 4 ≤ (oOrd a3).toNatClampNeg then none else (if (zSwO.getD (oOrd a3).toNatClampNeg 0) = 1 then (bnd (f_X1_secondOf a1 σ) fun r7 => (bnd (f_X1_secondOf a2 σ) fun r9 => (bnd (if r7 ≤ r9 then some ((0 : Int32)) else some ((1 : Int32))) fun v11 => (if ¬ (v11 = 0 ∨ v11 = 1) then none else some v11)))) else (if (zSwO.getD (oOrd a3).toNatClampNeg 0) = 2 then (bnd (if r4 < r2 then some ((1 : Int32)) else (if r2 = r4 then (bnd (f_X1_secondOf a1 σ) fun r21 => (bnd (f_X1_secondOf a2 σ) fun r23 => (if r21 ≤ r23 then some ((0 : Int32)) else some ((1 : Int32))))) else some ((0 : Int32)))) fun v17 => (if ¬ (v17 = 0 ∨ v17 = 1) then none else some v17)) else (if (zSwO.getD (oOrd a3).toNatClampNeg 0) = 3 then (bnd (if r4 ≤ r2 then some ((0 : Int32)) else some ((1 : Int32))) fun v29 => (if ¬ (v29 = 0 ∨ v29 = 1) then none else some v29)) else (bnd (if r2 ≤ r4 then some ((0 : Int32)) else some ((1 : Int32))) fun v35 => (if ¬ (v35 = 0 ∨ v35 = 1) then none else some v35)))))))
def f_X8_merge_L12 (c1 : Int32) (c2 : Int32) (c3 : Nat) : Nat → Int32 → Int32 → Int32 → Int32 → St → Option (Int32 × St)
  | 0, _, _, _, _, _ => none
  | n10 + 1, v5, v6, v7, v8, σ9 => (if c2 ≤ v8 then some (v5, σ9) else (bnd4 (if c1 ≤ v6 then if ¬ (gp σ9 58 = 8 ∨ gp σ9 58 = 9) then none else if ¬ (gp σ9 57 = 8 ∨ gp σ9 57 = 9) then none else if v7 < 0 ∨ 3200 ≤ v7.toNatClampNeg then none else if v8 < 0 ∨ 3200 ≤ v8.toNatClampNeg then none else bnd (some (sr σ9 (gp σ9 58) (upd (gr σ9 (gp σ9 58)) v8.toNatClampNeg (gr σ9 (gp σ9 57) v7.toNatClampNeg)))) fun σ28 => some (v5 + (c1 - v6), v6, v7 + (1 : Int32), σ28) else (if c2 ≤ v7 then if ¬ (gp σ9 58 = 8 ∨ gp σ9 58 = 9) then none else if ¬ (gp σ9 57 = 8 ∨ gp σ9 57 = 9) then none else if v6 < 0 ∨ 3200 ≤ v6.toNatClampNeg then none else if v8 < 0 ∨ 3200 ≤ v8.toNatClampNeg then none else bnd (some (sr σ9 (gp σ9 58) (upd (gr σ9 (gp σ9 58)) v8.toNatClampNeg (gr σ9 (gp σ9 57) v6.toNatClampNeg)))) fun σ35 => some (v5, v6 + (1 : Int32), v7, σ35) else if ¬ (gp σ9 57 = 8 ∨ gp σ9 57 = 9) then none else if v6 < 0 ∨ 3200 ≤ v6.toNatClampNeg then none else if ¬ (gp σ9 57 = 8 ∨ gp σ9 57 = 9) then none else if v7 < 0 ∨ 3200 ≤ v7.toNatClampNeg then none else (bnd (f_X8_isWrongPair (gr σ9 (gp σ9 57) v6.toNatClampNeg) (gr σ9 (gp σ9 57) v7.toNatClampNeg) c3 σ9) fun r42 => (if r42 = 0 then if ¬ (gp σ9 58 = 8 ∨ gp σ9 58 = 9) then none else if ¬ (gp σ9 57 = 8 ∨ gp σ9 57 = 9) then none else if v6 < 0 ∨ 3200 ≤ v6.toNatClampNeg then none else if v8 < 0 ∨ 3200 ≤ v8.toNatClampNeg then none else bnd (some (sr σ9 (gp σ9 58) (upd (gr σ9 (gp σ9 58)) v8.toNatClampNeg (gr σ9 (gp σ9 57) v6.toNatClampNeg)))) fun σ48 => some (v5, v6 + (1 : Int32), v7, σ48) else if ¬ (gp σ9 58 = 8 ∨ gp σ9 58 = 9) then none else if ¬ (gp σ9 57 = 8 ∨ gp σ9 57 = 9) then none else if v7 < 0 ∨ 3200 ≤ v7.toNatClampNeg then none else if v8 < 0 ∨ 3200 ≤ v8.toNatClampNeg then none else bnd (some (sr σ9 (gp σ9 58) (upd (gr σ9 (gp σ9 58)) v8.toNatClampNeg (gr σ9 (gp σ9 57) v7.toNatClampNeg)))) fun σ54 => some (v5 + (c1 - v6), v6, v7 + (1 : Int32), σ54))))) fun v19 v20 v21 σ22 => (f_X8_merge_L12 c1 c2 c3 n10 v19 v20 v21 (v8 + (1 : Int32)) σ22)))
def f_X8_merge (a1 : Int32) (a2 : Int32) (a3 : Int32) (a4 : Nat) (σ : St) : Option (Int32 × St) :=
  (bnd2 (f_X8_merge_L12 a2 a3 a4 FU (0 : Int32) a1 a2 a1 σ) fun o16 σ15 => some (o16, σ15))
def f_X8_arrange_L15 (c14 : Nat) (c17 : Int32) : Nat → Int32 → Int32 → St → Option (Int32 × St)
  | 0, _, _, _ => none
  | n20 + 1, v16, v18, σ19 => (if (gi σ19 59) ≤ v18 then some (v16, σ19) else (bnd2 (f_X8_merge v18 (if (gi σ19 59) < (v18 + c17) then (gi σ19 59) else (v18 + c17)) (if (gi σ19 59) < ((if (gi σ19 59) < (v18 + c17) then (gi σ19 59) else (v18 + c17)) + c17) then (gi σ19 59) else ((if (gi σ19 59) < (v18 + c17) then (gi σ19 59) else (v18 + c17)) + c17)) c14 σ19) fun r29 σ30 => (f_X8_arrange_L15 c14 c17 n20 (v16 + r29) (v18 + ((2 : Int32) * c17)) σ30)))
def f_X8_arrange_L4 (c1 : Nat) : Nat → Int32 → Int32 → St → Option (Int32 × St)
  | 0, _, _, _ => none
  | n6 + 1, v3, v4, σ5 => (if (gi σ5 59) ≤ v4 then some (v3, σ5) else (bnd2 (f_X8_arrange_L15 c1 v4 FU v3 (0 : Int32) σ5) fun o26 σ25 => if ¬ (gp σ25 57 = 8 ∨ gp σ25 57 = 9) then none else if ¬ (gp σ25 58 = 8 ∨ gp σ25 58 = 9) then none else bnd (some (sp (sp σ25 57 (gp σ25 58)) 58 (gp σ25 57))) fun σ34 => (f_X8_arrange_L4 c1 n6 o26 (v4 * (2 : Int32)) σ34)))
def f_X8_arrange (a1 : Nat) (σ : St) : Option (Int32 × St) :=
  (bnd2 (f_X8_arrange_L4 a1 FU (0 : Int32) (1 : Int32) σ) fun o12 σ11 => some (o12, σ11))
def f_X9_bytesIn_L5 (c1 : Int64) : Nat → Int32 → Int32 → Option (Int32)
  | 0, _, _ => none
  | n5 + 1, v2, v3 => (if v3 < 0 then some (v2) else (bnd (if ((((c1.toUInt64 >>> (v3.toInt64.toUInt64 &&& Int64.toUInt64 63)).toInt64).toInt32).toInt8.toInt32) = 0 then some (v2) else some (v2 + (1 : Int32))) fun v13 => (f_X9_bytesIn_L5 c1 n5 v13 (v3 + (-8 : Int32)))))
def f_X9_bytesIn (a1 : Int64) : Option (Int32) :=
  (bnd (f_X9_bytesIn_L5 a1 FU (0 : Int32) (56 : Int32)) fun o10 => some o10)
def f_X9_append_L3 (c1 : Int64) : Nat → Int32 → St → Option (St)
  | 0, _, _ => none
  | n4 + 1, v2, σ3 => (if v2 < 0 then some (σ3) else (bnd (if ((((c1.toUInt64 >>> (v2.toInt64.toUInt64 &&& Int64.toUInt64 63)).toInt64).toInt32).toInt8.toInt32) = 0 then some (σ3) else (if (400 : Int32) ≤ (gi σ3 81) then some (σ3) else if (gi σ3 81) < 0 ∨ 400 ≤ (gi σ3 81).toNatClampNeg then none else bnd (some (sr σ3 11 (upd (gr σ3 11) (gi σ3 81).toNatClampNeg (vp_nar .byte ((((c1.toUInt64 >>> (v2.toInt64.toUInt64 &&& Int64.toUInt64 63)).toInt64).toInt32).toInt8.toInt32))))) fun σ16 => some (si σ16 81 ((gi σ16 81) + (1 : Int32))))) fun σ12 => (f_X9_append_L3 c1 n4 (v2 + (-8 : Int32)) σ12)))
def f_X9_append (a1 : Int64) (σ : St) : Option (St) :=
  (bnd (f_X9_append_L3 a1 FU (56 : Int32) σ) fun σ9 => some σ9)
def f_X10_type (a1 : Int64) (σ : St) : Option ((String ⊕ Int32) × St) :=
  (bnd (f_X9_bytesIn a1) fun r2 => (if ((gi σ 81) + r2) ≤ (400 : Int32) then (bnd (f_X9_append a1 σ) fun σ5 => some (.inr (gi σ5 81), σ5)) else some ((.inl "java/lang/IllegalStateException", σ))))
def f_X10_clearText (σ : St) : Option (Int32 × St) :=
  some (gi σ 81, si σ 81 (0 : Int32))
def f_X10_fault (σ : St) : Option (Int32 × St) :=
  (bnd2 (f_X5_readText σ) fun r2 σ3 => some (r2, σ3))
def f_X10_rowAt (a1 : Int32) (σ : St) : Option (String ⊕ Nat) :=
  (if a1 < 0 then some (.inl "java/lang/IndexOutOfBoundsException") else (if a1 < (4 : Int32) then if a1 < 0 ∨ 4 ≤ a1.toNatClampNeg then none else some (.inr (16 + a1.toNatClampNeg)) else some (.inl "java/lang/IndexOutOfBoundsException")))
def f_X10_needRoom (a1 : Nat) (a2 : Int32) (σ : St) : Option (String ⊕ Unit) :=
  (if ((gi σ (8 * a1 + 1)) + a2) ≤ (800 : Int32) then some (.inr ()) else some (.inl "java/lang/IllegalStateException"))
def f_X10_needCards (a1 : Int32) (σ : St) : Option (String ⊕ Unit) :=
  (if ((gi σ 10) + a1) ≤ (20000 : Int32) then some (.inr ()) else some (.inl "java/lang/IllegalStateException"))
def f_X10_layRun_L2 (c1 : Nat) (c3 : Nat) : Nat → Int32 → St → Option (St)
  | 0, _, _ => none
  | n7 + 1, v5, σ6 => (if (gi σ6 (8 * c1 + 1)) ≤ v5 then some (σ6) else (bnd2 (f_X7_firstOf c1 v5 σ6) fun r15 σ16 => (bnd (f_X7_secondOf c1 v5 σ16) fun r18 => (bnd2 (f_X1_make r15 r18 σ16) fun r20 σ21 => (bnd (f_X6_append c3 r20 σ21) fun σ23 => (f_X10_layRun_L2 c1 c3 n7 (v5 + (1 : Int32)) σ23))))))
def f_X10_layRun (a1 : Nat) (a2 : Nat) (σ : St) : Option (St) :=
  (bnd (f_X10_layRun_L2 a1 a2 FU (0 : Int32) σ) fun σ12 => some σ12)
def f_X10_lay_L48 (c16 : Nat) : Nat → Int32 → St → Option (St)
  | 0, _, _ => none
  | n21 + 1, v19, σ20 => (if (gi σ20 98) ≤ v19 then some (σ20) else if v19 < 0 ∨ 50 ≤ v19.toNatClampNeg then none else (bnd (f_X10_layRun (64 + v19.toNatClampNeg) c16 σ20) fun σ30 => (f_X10_lay_L48 c16 n21 (v19 + (1 : Int32)) σ30)))
def f_X10_lay (a1 : Int32) (σ : St) : Option ((String ⊕ Int32) × St) :=
  (bndX (fun E9 => (.inl E9, σ)) (f_X10_rowAt a1 σ) fun r2 => (bnd2 (f_X5_readText σ) fun r5 σ6 => (if r5 = (-1 : Int32) then (bnd (f_X5_cardsOfAllRuns σ6) fun r9 => (bndX (fun E9 => (.inl E9, σ6)) (f_X10_needRoom r2 r9 σ6) fun _ => (bndX (fun E9 => (.inl E9, σ6)) (f_X10_needCards r9 σ6) fun _ => (bnd (f_X10_lay_L48 r2 FU (0 : Int32) σ6) fun σ26 => some (.inr r9, σ26))))) else some ((.inl "java/lang/IllegalStateException", σ6)))))
def f_X10_put (a1 : Int32) (a2 : Int32) (a3 : Int32) (a4 : Int32) (σ : St) : Option ((String ⊕ Int32) × St) :=
  (bndX (fun E9 => (.inl E9, σ)) (f_X10_rowAt a1 σ) fun r2 => (if a2 < 0 then some ((.inl "java/lang/IndexOutOfBoundsException", σ)) else (if a2 ≤ (gi σ (8 * r2 + 1)) then (bndX (fun E9 => (.inl E9, σ)) (f_X10_needRoom r2 (1 : Int32) σ) fun _ => (bndX (fun E9 => (.inl E9, σ)) (f_X10_needCards (1 : Int32) σ) fun _ => (bnd2 (f_X1_make a3 a4 σ) fun r13 σ14 => (bnd (f_X6_insert r2 a2 r13 σ14) fun σ16 => some (.inr r13, σ16))))) else some ((.inl "java/lang/IndexOutOfBoundsException", σ)))))
def f_X10_setSeed (a1 : Int32) (σ : St) : Option (Int32 × St) :=
  some (gi σ 112, si σ 112 a1)
def f_X10_arrangePart (a1 : Nat) (a2 : Int32) (a3 : Int32) (a4 : Nat) (σ : St) : Option (Int32 × St) :=
  (bnd (f_X8_clear σ) fun σ2 => (bnd (f_X8_take a1 a2 a3 σ2) fun σ4 => (bnd2 (f_X8_arrange a4 σ4) fun r6 σ7 => (bnd2 (f_X8_layBack (0 : Int32) a1 a2 a3 σ7) fun r9 σ10 => some (r9, σ10)))))
def f_X10_arrangeRow (a1 : Nat) (a2 : Nat) (σ : St) : Option (Int32 × St) :=
  (bnd2 (f_X10_arrangePart a1 (0 : Int32) (gi σ (8 * a1 + 1)) a2 σ) fun r2 σ3 => some (r2, σ3))
def f_X10_sort (a1 : Int32) (σ : St) : Option ((String ⊕ Int32) × St) :=
  (bndX (fun E9 => (.inl E9, σ)) (f_X10_rowAt a1 σ) fun r2 => (bnd2 (f_X10_arrangeRow r2 0 σ) fun r5 σ6 => some (.inr r5, σ6)))
def f_X10_sortAll_L9 : Nat → Int32 → St → Option (St)
  | 0, _, _ => none
  | n5 + 1, v3, σ4 => (if (4 : Int32) ≤ v3 then some (σ4) else if v3 < 0 ∨ 4 ≤ v3.toNatClampNeg then none else if v3 < 0 ∨ 4 ≤ v3.toNatClampNeg then none else (bnd (f_X8_take (16 + v3.toNatClampNeg) (0 : Int32) (gi σ4 (8 * (16 + v3.toNatClampNeg) + 1)) σ4) fun σ15 => (f_X10_sortAll_L9 n5 (v3 + (1 : Int32)) σ15)))
def f_X10_sortAll_L60 : Nat → Int32 → Int32 → Int32 → St → Option (Int32 × St)
  | 0, _, _, _, _ => none
  | n24 + 1, v20, v21, v22, σ23 => (if (4 : Int32) ≤ v22 then some (v20, σ23) else if v22 < 0 ∨ 4 ≤ v22.toNatClampNeg then none else if v22 < 0 ∨ 4 ≤ v22.toNatClampNeg then none else (bnd2 (f_X8_layBack v21 (16 + v22.toNatClampNeg) (0 : Int32) (gi σ23 (8 * (16 + v22.toNatClampNeg) + 1)) σ23) fun r35 σ36 => if v22 < 0 ∨ 4 ≤ v22.toNatClampNeg then none else (f_X10_sortAll_L60 n24 (v20 + r35) (v21 + (gi σ36 (8 * (16 + v22.toNatClampNeg) + 1))) (v22 + (1 : Int32)) σ36)))
def f_X10_sortAll (σ : St) : Option (Int32 × St) :=
  (bnd (f_X8_clear σ) fun σ2 => (bnd (f_X10_sortAll_L9 FU (0 : Int32) σ2) fun σ10 => (bnd2 (f_X8_arrange 0 σ10) fun r18 σ19 => (bnd2 (f_X10_sortAll_L60 FU (0 : Int32) (0 : Int32) (0 : Int32) σ19) fun o30 σ29 => some (o30, σ29)))))
def f_X10_needPart (a1 : Nat) (a2 : Int32) (a3 : Int32) (σ : St) : Option (String ⊕ Unit) :=
  (if a2 < 0 then some (.inl "java/lang/IndexOutOfBoundsException") else (if a3 ≤ (gi σ (8 * a1 + 1)) then (if a2 ≤ a3 then some (.inr ()) else some (.inl "java/lang/IllegalArgumentException")) else some (.inl "java/lang/IndexOutOfBoundsException")))
def f_X10_sortPart (a1 : Int32) (a2 : Int32) (a3 : Int32) (σ : St) : Option ((String ⊕ Int32) × St) :=
  (bndX (fun E9 => (.inl E9, σ)) (f_X10_rowAt a1 σ) fun r2 => (bndX (fun E9 => (.inl E9, σ)) (f_X10_needPart r2 a2 a3 σ) fun _ => (bnd2 (f_X10_arrangePart r2 a2 a3 0 σ) fun r8 σ9 => some (.inr r8, σ9))))
def f_X10_sortDown (a1 : Int32) (a2 : Int32) (a3 : Int32) (σ : St) : Option ((String ⊕ Int32) × St) :=
  (bndX (fun E9 => (.inl E9, σ)) (f_X10_rowAt a1 σ) fun r2 => (bndX (fun E9 => (.inl E9, σ)) (f_X10_needPart r2 a2 a3 σ) fun _ => (if (a3 - a2) ≤ (31 : Int32) then (bnd2 (f_X10_arrangePart r2 a2 a3 3 σ) fun r9 σ10 => some (.inr r9, σ10)) else some ((.inl "java/lang/IllegalArgumentException", σ)))))
def f_X10_sortBySecond (a1 : Int32) (σ : St) : Option ((String ⊕ Int32) × St) :=
  (bndX (fun E9 => (.inl E9, σ)) (f_X10_rowAt a1 σ) fun r2 => (bnd2 (f_X10_arrangeRow r2 1 σ) fun r5 σ6 => some (.inr r5, σ6)))
def f_X10_sortByBoth (a1 : Int32) (σ : St) : Option ((String ⊕ Int32) × St) :=
  (bndX (fun E9 => (.inl E9, σ)) (f_X10_rowAt a1 σ) fun r2 => (bnd2 (f_X10_arrangeRow r2 2 σ) fun r5 σ6 => some (.inr r5, σ6)))
def f_X10_needUnlikeRows (a1 : Int32) (a2 : Int32) : Option (String ⊕ Unit) :=
  (if a1 = a2 then some (.inl "java/lang/IllegalArgumentException") else some (.inr ()))
def f_X10_pour_L30 (c13 : Nat) (c15 : Nat) : Nat → Int32 → St → Option (St)
  | 0, _, _ => none
  | n19 + 1, v17, σ18 => (if (gi σ18 (8 * c13 + 1)) ≤ v17 then some (σ18) else if v17 < 0 ∨ 800 ≤ v17.toNatClampNeg then none else (bnd (f_X6_append c15 (gr σ18 (c13 + 16) v17.toNatClampNeg) σ18) fun σ28 => (f_X10_pour_L30 c13 c15 n19 (v17 + (1 : Int32)) σ28)))
def f_X10_pour (a1 : Int32) (a2 : Int32) (σ : St) : Option ((String ⊕ Int32) × St) :=
  (bndX (fun E9 => (.inl E9, σ)) (f_X10_rowAt a1 σ) fun r2 => (bndX (fun E9 => (.inl E9, σ)) (f_X10_rowAt a2 σ) fun r5 => (bndX (fun E9 => (.inl E9, σ)) (f_X10_needUnlikeRows a1 a2) fun _ => (bndX (fun E9 => (.inl E9, σ)) (f_X10_needRoom r5 (gi σ (8 * r2 + 1)) σ) fun _ => (bnd (f_X10_pour_L30 r2 r5 FU (0 : Int32) σ) fun σ24 => some (.inr (gi (si σ24 (8 * r2 + 1) (0 : Int32)) (8 * r5 + 1)), si σ24 (8 * r2 + 1) (0 : Int32)))))))
def f_X10_deal_L39 (c13 : Nat) (c15 : Nat) : Nat → Int32 → Int32 → St → Option (Int32 × St)
  | 0, _, _, _ => none
  | n21 + 1, v18, v19, σ20 => (if (gi σ20 (8 * c13 + 1)) ≤ v19 then some (v18, σ20) else (bnd2 (if (v19 - v19 / (2 : Int32) * (2 : Int32)) = (1 : Int32) then if v19 < 0 ∨ 800 ≤ v19.toNatClampNeg then none else (bnd (f_X6_append c15 (gr σ20 (c13 + 16) v19.toNatClampNeg) σ20) fun σ39 => some (v18, σ39)) else if v19 < 0 ∨ 800 ≤ v19.toNatClampNeg then none else if v18 < 0 ∨ 800 ≤ v18.toNatClampNeg then none else bnd (some (sr σ20 (c13 + 16) (upd (gr σ20 (c13 + 16)) v18.toNatClampNeg (gr σ20 (c13 + 16) v19.toNatClampNeg)))) fun σ35 => some (v18 + (1 : Int32), σ35)) fun v30 σ31 => (f_X10_deal_L39 c13 c15 n21 v30 (v19 + (1 : Int32)) σ31)))
def f_X10_deal (a1 : Int32) (a2 : Int32) (σ : St) : Option ((String ⊕ Int32) × St) :=
  (bndX (fun E9 => (.inl E9, σ)) (f_X10_rowAt a1 σ) fun r2 => (bndX (fun E9 => (.inl E9, σ)) (f_X10_rowAt a2 σ) fun r5 => (bndX (fun E9 => (.inl E9, σ)) (f_X10_needUnlikeRows a1 a2) fun _ => (bndX (fun E9 => (.inl E9, σ)) (f_X10_needRoom r5 ((gi σ (8 * r2 + 1)) / (2 : Int32)) σ) fun _ => (bnd2 (f_X10_deal_L39 r2 r5 FU (0 : Int32) (0 : Int32) σ) fun o27 σ26 => some (.inr ((gi σ (8 * r2 + 1)) / (2 : Int32)), si σ26 (8 * r2 + 1) o27))))))
def f_X10_turn (a1 : Int32) (σ : St) : Option ((String ⊕ Int32) × St) :=
  (bndX (fun E9 => (.inl E9, σ)) (f_X10_rowAt a1 σ) fun r2 => (bnd (f_X6_reverse r2 σ) fun σ5 => some (.inr (gi σ5 (8 * r2 + 1)), σ5)))
def f_X10_needPlace (a1 : Nat) (a2 : Int32) (σ : St) : Option (String ⊕ Unit) :=
  (if a2 < 0 then some (.inl "java/lang/IndexOutOfBoundsException") else (if a2 < (gi σ (8 * a1 + 1)) then some (.inr ()) else some (.inl "java/lang/IndexOutOfBoundsException")))
def f_X10_move (a1 : Int32) (a2 : Int32) (a3 : Int32) (σ : St) : Option ((String ⊕ Int32) × St) :=
  (bndX (fun E9 => (.inl E9, σ)) (f_X10_rowAt a1 σ) fun r2 => (bndX (fun E9 => (.inl E9, σ)) (f_X10_needPlace r2 a2 σ) fun _ => (bndX (fun E9 => (.inl E9, σ)) (f_X10_needPlace r2 a3 σ) fun _ => (bnd2 (f_X6_takeOut r2 a2 σ) fun r11 σ12 => (bnd (f_X6_insert r2 a3 r11 σ12) fun σ14 => some (.inr r11, σ14))))))
def f_X10_thin_L18 (c4 : Int32) (c5 : Nat) (c7 : Int32) : Nat → Int32 → Int32 → St → Option (Int32 × St)
  | 0, _, _, _ => none
  | n11 + 1, v8, v9, σ10 => (if c7 ≤ v9 then some (v8, σ10) else if v9 < 0 ∨ 800 ≤ v9.toNatClampNeg then none else (bnd (f_X1_secondOf (gr σ10 (c5 + 16) v9.toNatClampNeg) σ10) fun r21 => (bnd2 (if r21 = c4 then some (v8, σ10) else if v8 < 0 ∨ 800 ≤ v8.toNatClampNeg then none else bnd (some (sr σ10 (c5 + 16) (upd (gr σ10 (c5 + 16)) v8.toNatClampNeg (gr σ10 (c5 + 16) v9.toNatClampNeg)))) fun σ27 => some (v8 + (1 : Int32), σ27)) fun v23 σ24 => (f_X10_thin_L18 c4 c5 c7 n11 v23 (v9 + (1 : Int32)) σ24))))
def f_X10_thin (a1 : Int32) (a2 : Int32) (σ : St) : Option ((String ⊕ Int32) × St) :=
  (bndX (fun E9 => (.inl E9, σ)) (f_X10_rowAt a1 σ) fun r2 => (bnd2 (f_X10_thin_L18 a2 r2 (gi σ (8 * r2 + 1)) FU (0 : Int32) (0 : Int32) σ) fun o17 σ16 => some (.inr ((gi σ (8 * r2 + 1)) - o17), si σ16 (8 * r2 + 1) o17)))
def f_X10_single_L17 (c4 : Nat) (c6 : Int32) : Nat → Int32 → Int32 → St → Option (Int32 × St)
  | 0, _, _, _ => none
  | n10 + 1, v7, v8, σ9 => (if c6 ≤ v8 then some (v7, σ9) else if v8 < 0 ∨ 800 ≤ v8.toNatClampNeg then none else (bnd2 (if v7 = 0 then if v7 < 0 ∨ 800 ≤ v7.toNatClampNeg then none else bnd (some (sr σ9 (c4 + 16) (upd (gr σ9 (c4 + 16)) v7.toNatClampNeg (gr σ9 (c4 + 16) v8.toNatClampNeg)))) fun σ24 => some (v7 + (1 : Int32), σ24) else (bnd (f_X1_firstOf (gr σ9 (c4 + 16) v8.toNatClampNeg) σ9) fun r27 => if (v7 - (1 : Int32)) < 0 ∨ 800 ≤ (v7 - (1 : Int32)).toNatClampNeg then none else (bnd (f_X1_firstOf (gr σ9 (c4 + 16) (v7 - (1 : Int32)).toNatClampNeg) σ9) fun r30 => (if r27 = r30 then some (v7, σ9) else if v7 < 0 ∨ 800 ≤ v7.toNatClampNeg then none else bnd (some (sr σ9 (c4 + 16) (upd (gr σ9 (c4 + 16)) v7.toNatClampNeg (gr σ9 (c4 + 16) v8.toNatClampNeg)))) fun σ33 => some (v7 + (1 : Int32), σ33))))) fun v20 σ21 => (f_X10_single_L17 c4 c6 n10 v20 (v8 + (1 : Int32)) σ21)))
def f_X10_single (a1 : Int32) (σ : St) : Option ((String ⊕ Int32) × St) :=
  (bndX (fun E9 => (.inl E9, σ)) (f_X10_rowAt a1 σ) fun r2 => (bnd2 (f_X10_single_L17 r2 (gi σ (8 * r2 + 1)) FU (0 : Int32) (0 : Int32) σ) fun o16 σ15 => some (.inr ((gi σ (8 * r2 + 1)) - o16), si σ15 (8 * r2 + 1) o16)))
def f_X10_empty (a1 : Int32) (σ : St) : Option ((String ⊕ Int32) × St) :=
  (bndX (fun E9 => (.inl E9, σ)) (f_X10_rowAt a1 σ) fun r2 => some (.inr (gi σ (8 * r2 + 1)), si σ (8 * r2 + 1) (0 : Int32)))
def f_X10_keep (a1 : Int32) (σ : St) : Option ((String ⊕ Int32) × St) :=
  (bndX (fun E9 => (.inl E9, σ)) (f_X10_rowAt a1 σ) fun r2 => if a1 < 0 ∨ 4 ≤ a1.toNatClampNeg then none else (bnd2 (f_X6_become (20 + a1.toNatClampNeg) r2 σ) fun r6 σ7 => if a1 < 0 ∨ 4 ≤ a1.toNatClampNeg then none else bnd (some (sr σ7 6 (upd (gr σ7 6) a1.toNatClampNeg (vp_nar .boolean (1 : Int32))))) fun σ9 => some (.inr (gi σ9 (8 * r2 + 1)), σ9)))
def f_X10_restore (a1 : Int32) (σ : St) : Option ((String ⊕ Int32) × St) :=
  (bndX (fun E9 => (.inl E9, σ)) (f_X10_rowAt a1 σ) fun r2 => if a1 < 0 ∨ 4 ≤ a1.toNatClampNeg then none else (if (gr σ 6 a1.toNatClampNeg) = 0 then some ((.inl "java/lang/IllegalStateException", σ)) else if a1 < 0 ∨ 4 ≤ a1.toNatClampNeg then none else (bnd2 (f_X6_become r2 (20 + a1.toNatClampNeg) σ) fun r8 σ9 => some (.inr r8, σ9))))
def f_X10_count (a1 : Int32) (σ : St) : Option (String ⊕ Int32) :=
  (bndX (fun E9 => .inl E9) (f_X10_rowAt a1 σ) fun r2 => some (.inr (gi σ (8 * r2 + 1))))
def f_X10_cardAt (a1 : Int32) (a2 : Int32) (a3 : Int32) (σ : St) : Option (String ⊕ Int32) :=
  (bndX (fun E9 => .inl E9) (f_X10_rowAt a1 σ) fun r2 => (bndX (fun E9 => .inl E9) (f_X10_needPlace r2 a2 σ) fun _ => if a2 < 0 ∨ 800 ≤ a2.toNatClampNeg then none else (if a3 = 0 then (bnd (f_X1_firstOf (gr σ (r2 + 16) a2.toNatClampNeg) σ) fun r9 => some (.inr r9)) else (if a3 = 1 then (bnd (f_X1_secondOf (gr σ (r2 + 16) a2.toNatClampNeg) σ) fun r12 => some (.inr r12)) else (if a3 = 2 then some (.inr (gr σ (r2 + 16) a2.toNatClampNeg)) else some (.inl "java/lang/IllegalArgumentException"))))))
def f_X10_placeOf_L9 (c4 : Int32) (c5 : Nat) (σ8 : St) : Nat → Int32 → Option ((String ⊕ Int32) ⊕ (Unit))
  | 0, _ => none
  | n9 + 1, v7 => (if (gi σ8 (8 * c5 + 1)) ≤ v7 then some (.inr (())) else if v7 < 0 ∨ 800 ≤ v7.toNatClampNeg then none else (if (gr σ8 (c5 + 16) v7.toNatClampNeg) = c4 then some (.inl (.inr v7)) else (f_X10_placeOf_L9 c4 c5 σ8 n9 (v7 + (1 : Int32)))))
def f_X10_placeOf (a1 : Int32) (a2 : Int32) (σ : St) : Option (String ⊕ Int32) :=
  (bndX (fun E9 => .inl E9) (f_X10_rowAt a1 σ) fun r2 => (bndR id (f_X10_placeOf_L9 a2 r2 σ FU (0 : Int32)) fun u14 => some (.inr (-1 : Int32))))
def f_X10_firstAt (a1 : Nat) (a2 : Int32) (σ : St) : Option (Int32) :=
  if a2 < 0 ∨ 800 ≤ a2.toNatClampNeg then none else (bnd (f_X1_firstOf (gr σ (a1 + 16) a2.toNatClampNeg) σ) fun r3 => some r3)
def f_X10_startsRun (a1 : Nat) (a2 : Int32) (σ : St) : Option (Int32) :=
  (bnd (if a2 = 0 then some ((1 : Int32)) else (bnd (f_X10_firstAt a1 a2 σ) fun r5 => (bnd (f_X10_firstAt a1 (a2 - (1 : Int32)) σ) fun r7 => (if r7 ≤ r5 then some ((0 : Int32)) else some ((1 : Int32)))))) fun v2 => (if ¬ (v2 = 0 ∨ v2 = 1) then none else some v2))
def f_X10_numberOfRuns_L4 (c1 : Nat) (σ5 : St) : Nat → Int32 → Int32 → Option (Int32)
  | 0, _, _ => none
  | n6 + 1, v3, v4 => (if (gi σ5 (8 * c1 + 1)) ≤ v4 then some (v3) else (bnd (f_X10_startsRun c1 v4 σ5) fun r14 => (bnd (if r14 = 0 then some (v3) else some (v3 + (1 : Int32))) fun v16 => (f_X10_numberOfRuns_L4 c1 σ5 n6 v16 (v4 + (1 : Int32))))))
def f_X10_numberOfRuns (a1 : Nat) (σ : St) : Option (Int32) :=
  (bnd (f_X10_numberOfRuns_L4 a1 σ FU (0 : Int32) (0 : Int32)) fun o11 => some o11)
def f_X10_rises (a1 : Nat) (σ : St) : Option (Int32) :=
  (bnd (f_X10_numberOfRuns a1 σ) fun r2 => (bnd (if (1 : Int32) < r2 then some ((0 : Int32)) else some ((1 : Int32))) fun v4 => (if ¬ (v4 = 0 ∨ v4 = 1) then none else some v4)))
def f_X10_placeFor_L27 (c7 : Int32) (c8 : Nat) (σ11 : St) : Nat → Int32 → Option (Int32)
  | 0, _ => none
  | n12 + 1, v10 => (if (gi σ11 (8 * c8 + 1)) ≤ v10 then some (v10) else (bnd (f_X10_firstAt c8 v10 σ11) fun r20 => (if c7 < r20 then some (v10) else (f_X10_placeFor_L27 c7 c8 σ11 n12 (v10 + (1 : Int32))))))
def f_X10_placeFor (a1 : Int32) (a2 : Int32) (σ : St) : Option (String ⊕ Int32) :=
  (bndX (fun E9 => .inl E9) (f_X10_rowAt a1 σ) fun r2 => (bnd (f_X10_rises r2 σ) fun r5 => (if r5 = 0 then some (.inl "java/lang/IllegalStateException") else (bnd (f_X10_placeFor_L27 a2 r2 σ FU (0 : Int32)) fun o17 => some (.inr o17)))))
def f_X10_isSorted (a1 : Int32) (σ : St) : Option (String ⊕ Int32) :=
  (bndX (fun E9 => .inl E9) (f_X10_rowAt a1 σ) fun r2 => (bnd (f_X10_rises r2 σ) fun r5 => (if ¬ (r5 = 0 ∨ r5 = 1) then none else some (.inr r5))))
def f_X10_runs (a1 : Int32) (σ : St) : Option (String ⊕ Int32) :=
  (bndX (fun E9 => .inl E9) (f_X10_rowAt a1 σ) fun r2 => (bnd (f_X10_numberOfRuns r2 σ) fun r5 => some (.inr r5)))
def f_X10_lengthOfLongestRun_L7 (c1 : Nat) (σ6 : St) : Nat → Int32 → Int32 → Int32 → Option (Int32)
  | 0, _, _, _ => none
  | n7 + 1, v3, v4, v5 => (if (gi σ6 (8 * c1 + 1)) ≤ v5 then some (v3) else (bnd (f_X10_startsRun c1 v5 σ6) fun r15 => (bnd (if r15 = 0 then some (v4) else some (v5)) fun v17 => (f_X10_lengthOfLongestRun_L7 c1 σ6 n7 (if v3 < ((v5 + (1 : Int32)) - v17) then ((v5 + (1 : Int32)) - v17) else v3) v17 (v5 + (1 : Int32))))))
def f_X10_lengthOfLongestRun (a1 : Nat) (σ : St) : Option (Int32) :=
  (bnd (f_X10_lengthOfLongestRun_L7 a1 σ FU (0 : Int32) (0 : Int32) (0 : Int32)) fun o12 => some o12)
def f_X10_longestRun (a1 : Int32) (σ : St) : Option (String ⊕ Int32) :=
  (bndX (fun E9 => .inl E9) (f_X10_rowAt a1 σ) fun r2 => (bnd (f_X10_lengthOfLongestRun r2 σ) fun r5 => some (.inr r5)))
def f_X10_sortCopy (a1 : Nat) (σ : St) : Option (Int32 × St) :=
  (bnd (f_X8_clear σ) fun σ2 => (bnd (f_X8_take a1 (0 : Int32) (gi σ2 (8 * a1 + 1)) σ2) fun σ4 => (bnd2 (f_X8_arrange 0 σ4) fun r6 σ7 => some (r6, σ7))))
def f_X10_wrongPairs (a1 : Int32) (σ : St) : Option ((String ⊕ Int32) × St) :=
  (bndX (fun E9 => (.inl E9, σ)) (f_X10_rowAt a1 σ) fun r2 => (bnd2 (f_X10_sortCopy r2 σ) fun r5 σ6 => some (.inr r5, σ6)))
def f_X10_unlike_L17 (c7 : Nat) (σ11 : St) : Nat → Int32 → Int32 → Option (Int32)
  | 0, _, _ => none
  | n12 + 1, v9, v10 => (if (gi σ11 (8 * c7 + 1)) ≤ v10 then some (v9) else (bnd (if v10 = 0 then some (v9 + (1 : Int32)) else (bnd (f_X8_firstAt v10 σ11) fun r23 => (bnd (f_X8_firstAt (v10 - (1 : Int32)) σ11) fun r25 => (if r23 = r25 then some (v9) else some (v9 + (1 : Int32)))))) fun v20 => (f_X10_unlike_L17 c7 σ11 n12 v20 (v10 + (1 : Int32)))))
def f_X10_unlike (a1 : Int32) (σ : St) : Option ((String ⊕ Int32) × St) :=
  (bndX (fun E9 => (.inl E9, σ)) (f_X10_rowAt a1 σ) fun r2 => (bnd2 (f_X10_sortCopy r2 σ) fun r5 σ6 => (bnd (f_X10_unlike_L17 r2 σ6 FU (0 : Int32) (0 : Int32)) fun o17 => some (.inr o17, σ6))))
def f_X10_sum_L11 (c4 : Nat) (σ8 : St) : Nat → Int64 → Int32 → Option (Int64)
  | 0, _, _ => none
  | n9 + 1, v6, v7 => (if (gi σ8 (8 * c4 + 1)) ≤ v7 then some (v6) else if v7 < 0 ∨ 800 ≤ v7.toNatClampNeg then none else (f_X10_sum_L11 c4 σ8 n9 (v6 + ((v7.toInt64 + (1 : Int64)) * (((gr σ8 (c4 + 16) v7.toNatClampNeg).toInt64) + (1 : Int64)))) (v7 + (1 : Int32))))
def f_X10_sum (a1 : Int32) (σ : St) : Option (String ⊕ Int64) :=
  (bndX (fun E9 => .inl E9) (f_X10_rowAt a1 σ) fun r2 => (bnd (f_X10_sum_L11 r2 σ FU (0 : Int64) (0 : Int32)) fun o14 => some (.inr o14)))
def f_X10_compare_L30 (c7 : Nat) (c9 : Nat) (c11 : Int32) (σ13 : St) : Nat → Int32 → Option ((String ⊕ Int32) ⊕ (Unit))
  | 0, _ => none
  | n14 + 1, v12 => (if c11 ≤ v12 then some (.inr (())) else (bnd (f_X10_firstAt c7 v12 σ13) fun r22 => (bnd (f_X10_firstAt c9 v12 σ13) fun r24 => (if r22 = r24 then (f_X10_compare_L30 c7 c9 c11 σ13 n14 (v12 + (1 : Int32))) else (bnd (if r24 ≤ r22 then some ((1 : Int32)) else some ((-1 : Int32))) fun v27 => some (.inl (.inr v27)))))))
def f_X10_compare (a1 : Int32) (a2 : Int32) (σ : St) : Option (String ⊕ Int32) :=
  (bndX (fun E9 => .inl E9) (f_X10_rowAt a1 σ) fun r2 => (bndX (fun E9 => .inl E9) (f_X10_rowAt a2 σ) fun r5 => (bndR id (f_X10_compare_L30 r2 r5 (if (gi σ (8 * r5 + 1)) < (gi σ (8 * r2 + 1)) then (gi σ (8 * r5 + 1)) else (gi σ (8 * r2 + 1))) σ FU (0 : Int32)) fun u19 => (if (gi σ (8 * r2 + 1)) = (gi σ (8 * r5 + 1)) then some (.inr (0 : Int32)) else (bnd (if (gi σ (8 * r5 + 1)) ≤ (gi σ (8 * r2 + 1)) then some ((1 : Int32)) else some ((-1 : Int32))) fun v34 => some (.inr v34))))))
def f_X10_mean_L20 (c5 : Nat) (σ9 : St) : Nat → Int64 → Int32 → Option (Int64)
  | 0, _, _ => none
  | n10 + 1, v7, v8 => (if (gi σ9 (8 * c5 + 1)) ≤ v8 then some (v7) else (bnd (f_X10_firstAt c5 v8 σ9) fun r18 => (f_X10_mean_L20 c5 σ9 n10 (v7 + r18.toInt64) (v8 + (1 : Int32)))))
def f_X10_mean (a1 : Int32) (σ : St) : Option (String ⊕ UInt64) :=
  (bndX (fun E9 => .inl E9) (f_X10_rowAt a1 σ) fun r2 => (if (gi σ (8 * r2 + 1)) = 0 then some (.inr (0 : UInt64)) else (bnd (f_X10_mean_L20 r2 σ FU (0 : Int64) (0 : Int32)) fun o15 => if ¬ ((FP.ddiv (FP.l2d o15) (FP.i2d (gi σ (8 * r2 + 1)))) &&& 0x7fffffffffffffff ≤ 0x7ff0000000000000) then none else some (.inr (FP.ddiv (FP.l2d o15) (FP.i2d (gi σ (8 * r2 + 1))))))))
def f_X10_risingShare (a1 : Int32) (σ : St) : Option (String ⊕ UInt32) :=
  (bndX (fun E9 => .inl E9) (f_X10_rowAt a1 σ) fun r2 => (if (gi σ (8 * r2 + 1)) = 0 then some (.inr (0 : UInt32)) else (bnd (f_X10_lengthOfLongestRun r2 σ) fun r6 => if ¬ ((FP.fdiv (FP.i2f r6) (FP.i2f (gi σ (8 * r2 + 1)))) &&& 0x7fffffff ≤ 0x7f800000) then none else some (.inr (FP.fdiv (FP.i2f r6) (FP.i2f (gi σ (8 * r2 + 1))))))))
def f_X10_theoremHolds (a1 : Nat) (σ : St) : Option (Int32 × St) :=
  (bnd2 (f_X6_become 24 a1 σ) fun r2 σ3 => (bnd2 (f_X10_arrangeRow 24 0 σ3) fun r5 σ6 => (bnd (f_X10_rises 24 σ6) fun r8 => (if r8 = 0 then some ((0 : Int32), σ6) else (bnd2 (f_X10_arrangeRow 24 0 σ6) fun r11 σ12 => (if r11 = 0 then (bnd2 (f_X6_become 24 a1 σ12) fun r15 σ16 => (bnd2 (f_X10_arrangeRow 24 1 σ16) fun r18 σ19 => (bnd2 (f_X10_arrangeRow 24 0 σ19) fun r21 σ22 => (bnd2 (f_X6_become 25 a1 σ22) fun r24 σ25 => (bnd2 (f_X10_arrangeRow 25 2 σ25) fun r27 σ28 => (bnd2 (f_X6_become 24 25 σ28) fun r30 σ31 => (bnd (if r30 = 0 then some ((1 : Int32)) else some ((0 : Int32))) fun v33 => (if ¬ (v33 = 0 ∨ v33 = 1) then none else some (v33, σ31))))))))) else some ((0 : Int32), σ12)))))))
def f_X10_errors_L4 : Nat → Int32 → Int32 → St → Option (Int32 × St)
  | 0, _, _, _ => none
  | n4 + 1, v1, v2, σ3 => (if (4 : Int32) ≤ v2 then some (v1, σ3) else if v2 < 0 ∨ 4 ≤ v2.toNatClampNeg then none else (bnd2 (f_X10_theoremHolds (16 + v2.toNatClampNeg) σ3) fun r14 σ15 => (bnd (if r14 = 0 then some (v1 + (1 : Int32)) else some (v1)) fun v17 => (f_X10_errors_L4 n4 v17 (v2 + (1 : Int32)) σ15))))
def f_X10_errors (σ : St) : Option (Int32 × St) :=
  (bnd2 (f_X10_errors_L4 FU (0 : Int32) (0 : Int32) σ) fun o10 σ9 => some (o10, σ9))
def f_X11_thrown (σ : St) : Option (Int32) :=
  some (gi σ 10)
def f_X11_in (a1 : Int32) (a2 : Int32) (a3 : Int32) : Option (Int32) :=
  (bnd (if a1 < a2 then some ((0 : Int32)) else (if a3 < a1 then some ((0 : Int32)) else some ((1 : Int32)))) fun v2 => (if ¬ (v2 = 0 ∨ v2 = 1) then none else some v2))
def f_X11_isRow (a1 : Int32) : Option (Int32) :=
  (bnd (f_X11_in a1 (0 : Int32) (3 : Int32)) fun r2 => (if ¬ (r2 = 0 ∨ r2 = 1) then none else some r2))
def f_X11_less (a1 : Int32) (a2 : Int32) : Option (Int32) :=
  (bnd (if a2 ≤ a1 then some (a2) else some (a1)) fun v2 => some v2)
def f_X11_more (a1 : Int32) (a2 : Int32) : Option (Int32) :=
  (bnd (if a2 ≤ a1 then some (a1) else some (a2)) fun v2 => some v2)
def f_X11_refuse (a1 : Int32) (σ : St) : Option (Int32 × St) :=
  some ((0 : Int32), si σ 10 a1)
def f_X11_told (a1 : Int32) (σ : St) : Option (Int32 × St) :=
  some (a1, si σ 10 (0 : Int32))
def f_X11_type_L5 (c1 : Int64) : Nat → Int32 → Int32 → Option (Int32)
  | 0, _, _ => none
  | n5 + 1, v2, v3 => (if (8 : Int32) ≤ v3 then some (v2) else (bnd (if (lg_cmp (((c1.toUInt64 >>> (((8 : Int32) * v3).toInt64.toUInt64 &&& Int64.toUInt64 63)).toInt64) &&& (255 : Int64)) (0 : Int64)) = 0 then some ((0 : Int32)) else some ((1 : Int32))) fun v13 => (f_X11_type_L5 c1 n5 (v2 + v13) (v3 + (1 : Int32)))))
def f_X11_type_L64 (c18 : Int64) : Nat → Int32 → St → Option (St)
  | 0, _, _ => none
  | n21 + 1, v19, σ20 => (if v19 < 0 then some (σ20) else (bnd (if ((((c18.toUInt64 >>> (((8 : Int32) * v19).toInt64.toUInt64 &&& Int64.toUInt64 63)).toInt64) &&& (255 : Int64)).toInt32) = 0 then some (σ20) else if (gi σ20 8) < 0 ∨ 400 ≤ (gi σ20 8).toNatClampNeg then none else bnd (some (sr σ20 8 (upd (gr σ20 8) (gi σ20 8).toNatClampNeg ((((c18.toUInt64 >>> (((8 : Int32) * v19).toInt64.toUInt64 &&& Int64.toUInt64 63)).toInt64) &&& (255 : Int64)).toInt32)))) fun σ32 => some (si σ32 8 ((gi σ32 8) + (1 : Int32)))) fun σ29 => (f_X11_type_L64 c18 n21 (v19 + (-1 : Int32)) σ29)))
def f_X11_type (a1 : Int64) (σ : St) : Option (Int32 × St) :=
  (bnd (f_X11_type_L5 a1 FU (0 : Int32) (0 : Int32)) fun o10 => (if ((gi σ 8) + o10) ≤ (400 : Int32) then (bnd (f_X11_type_L64 a1 FU (7 : Int32) σ) fun σ26 => (bnd2 (f_X11_told (gi σ26 8) σ26) fun r37 σ38 => some (r37, σ38))) else (bnd2 (f_X11_refuse (1 : Int32) σ) fun r40 σ41 => some (r40, σ41))))
def f_X11_clearText (σ : St) : Option (Int32 × St) :=
  (bnd2 (f_X11_told (gi σ 8) (si σ 8 (0 : Int32))) fun r2 σ3 => some (r2, σ3))
def f_X11_isLetter (a1 : Int32) : Option (Int32) :=
  (bnd (f_X11_in a1 (97 : Int32) (122 : Int32)) fun r2 => (if ¬ (r2 = 0 ∨ r2 = 1) then none else some r2))
def f_X11_isDigit (a1 : Int32) : Option (Int32) :=
  (bnd (f_X11_in a1 (48 : Int32) (57 : Int32)) fun r2 => (if ¬ (r2 = 0 ∨ r2 = 1) then none else some r2))
def f_X11_next_L0 : Nat → St → Option (St)
  | 0, _ => none
  | n2 + 1, σ1 => (if (gi σ1 8) ≤ (gi σ1 13) then some (σ1) else if (gi σ1 13) < 0 ∨ 400 ≤ (gi σ1 13).toNatClampNeg then none else (if (gr σ1 8 (gi σ1 13).toNatClampNeg) = (32 : Int32) then (f_X11_next_L0 n2 (si σ1 13 ((gi σ1 13) + (1 : Int32)))) else some (σ1)))
def f_X11_next_L128 : Nat → Int32 → St → Option (St)
  | 0, _, _ => none
  | n28 + 1, v26, σ27 => (if (gi σ27 8) ≤ (gi σ27 13) then some (σ27) else (if (gi σ27 14) = (1 : Int32) then if (gi σ27 13) < 0 ∨ 400 ≤ (gi σ27 13).toNatClampNeg then none else (bnd (f_X11_isLetter (gr σ27 8 (gi σ27 13).toNatClampNeg)) fun r60 => (if r60 = 0 then some (σ27) else (bnd (if (v26 + (1 : Int32)) ≤ (4 : Int32) then (if (gi σ27 14) = (2 : Int32) then if (gi σ27 13) < 0 ∨ 400 ≤ (gi σ27 13).toNatClampNeg then none else some ((((10 : Int32) * (gi σ27 16)) + (gr σ27 8 (gi σ27 13).toNatClampNeg)) - (48 : Int32)) else some ((0 : Int32))) else some ((10000 : Int32))) fun v63 => bnd (some (si (si σ27 16 v63) 13 ((gi (si σ27 16 v63) 13) + (1 : Int32)))) fun σ67 => (f_X11_next_L128 n28 (v26 + (1 : Int32)) σ67)))) else (if (gi σ27 14) = (2 : Int32) then if (gi σ27 13) < 0 ∨ 400 ≤ (gi σ27 13).toNatClampNeg then none else (bnd (f_X11_isDigit (gr σ27 8 (gi σ27 13).toNatClampNeg)) fun r48 => (if r48 = 0 then some (σ27) else (bnd (if (v26 + (1 : Int32)) ≤ (4 : Int32) then (if (gi σ27 14) = (2 : Int32) then if (gi σ27 13) < 0 ∨ 400 ≤ (gi σ27 13).toNatClampNeg then none else some ((((10 : Int32) * (gi σ27 16)) + (gr σ27 8 (gi σ27 13).toNatClampNeg)) - (48 : Int32)) else some ((0 : Int32))) else some ((10000 : Int32))) fun v51 => bnd (some (si (si σ27 16 v51) 13 ((gi (si σ27 16 v51) 13) + (1 : Int32)))) fun σ55 => (f_X11_next_L128 n28 (v26 + (1 : Int32)) σ55)))) else (if (gi σ27 13) = (gi σ27 15) then (bnd (if (v26 + (1 : Int32)) ≤ (4 : Int32) then (if (gi σ27 14) = (2 : Int32) then if (gi σ27 13) < 0 ∨ 400 ≤ (gi σ27 13).toNatClampNeg then none else some ((((10 : Int32) * (gi σ27 16)) + (gr σ27 8 (gi σ27 13).toNatClampNeg)) - (48 : Int32)) else some ((0 : Int32))) else some ((10000 : Int32))) fun v39 => bnd (some (si (si σ27 16 v39) 13 ((gi (si σ27 16 v39) 13) + (1 : Int32)))) fun σ43 => (f_X11_next_L128 n28 (v26 + (1 : Int32)) σ43)) else some (σ27)))))
def f_X11_next (σ : St) : Option (St) :=
  (bnd (f_X11_next_L0 FU σ) fun σ7 => (if (gi (si σ7 15 (gi σ7 13)) 13) = (gi (si σ7 15 (gi σ7 13)) 8) then some (si (si σ7 15 (gi σ7 13)) 14 (6 : Int32)) else if (gi (si σ7 15 (gi σ7 13)) 13) < 0 ∨ 400 ≤ (gi (si σ7 15 (gi σ7 13)) 13).toNatClampNeg then none else (bnd (f_X11_isLetter (gr (si σ7 15 (gi σ7 13)) 8 (gi (si σ7 15 (gi σ7 13)) 13).toNatClampNeg)) fun r15 => (bnd (if r15 = 0 then (bnd (f_X11_isDigit (gr (si σ7 15 (gi σ7 13)) 8 (gi (si σ7 15 (gi σ7 13)) 13).toNatClampNeg)) fun r20 => (if r20 = 0 then (if (gr (si σ7 15 (gi σ7 13)) 8 (gi (si σ7 15 (gi σ7 13)) 13).toNatClampNeg) = (59 : Int32) then some ((3 : Int32)) else (if (gr (si σ7 15 (gi σ7 13)) 8 (gi (si σ7 15 (gi σ7 13)) 13).toNatClampNeg) = (45 : Int32) then some ((4 : Int32)) else some ((5 : Int32)))) else some ((2 : Int32)))) else some ((1 : Int32))) fun v17 => bnd (some (si (si (si σ7 15 (gi σ7 13)) 14 v17) 16 (0 : Int32))) fun σ24 => (bnd (f_X11_next_L128 FU (0 : Int32) σ24) fun σ33 => some σ33)))))
def f_X11_isWrong (σ : St) : Option (St) :=
  (bnd (if (gi σ 17) = (-1 : Int32) then some (si σ 17 (gi σ 15)) else some (σ)) fun σ2 => some σ2)
def f_X11_letterAt (a1 : Int32) (σ : St) : Option (Int32) :=
  (bnd (if (gi σ 13) ≤ ((gi σ 15) + a1) then some ((0 : Int32)) else if ((gi σ 15) + a1) < 0 ∨ 400 ≤ ((gi σ 15) + a1).toNatClampNeg then none else some (gr σ 8 ((gi σ 15) + a1).toNatClampNeg)) fun v2 => some v2)
def f_X11_isWord (a1 : Int32) (a2 : Int32) (a3 : Int32) (a4 : Int32) (a5 : Int32) (σ : St) : Option (Int32) :=
  (bnd (if (gi σ 14) = (1 : Int32) then (if (5 : Int32) < ((gi σ 13) - (gi σ 15)) then some ((0 : Int32)) else (bnd (f_X11_letterAt (0 : Int32) σ) fun r6 => (if r6 = a1 then (bnd (f_X11_letterAt (1 : Int32) σ) fun r9 => (if r9 = a2 then (bnd (f_X11_letterAt (2 : Int32) σ) fun r12 => (if r12 = a3 then (bnd (f_X11_letterAt (3 : Int32) σ) fun r15 => (if r15 = a4 then (bnd (f_X11_letterAt (4 : Int32) σ) fun r18 => (if r18 = a5 then some ((1 : Int32)) else some ((0 : Int32)))) else some ((0 : Int32)))) else some ((0 : Int32)))) else some ((0 : Int32)))) else some ((0 : Int32))))) else some ((0 : Int32))) fun v2 => (if ¬ (v2 = 0 ∨ v2 = 1) then none else some v2))
def f_X11_takesNumber (a1 : Int32) (a2 : Int32) (σ : St) : Option (Int32 × St) :=
  (if (gi σ 14) = (2 : Int32) then (bnd (f_X11_in (gi σ 16) a1 a2) fun r5 => (if r5 = 0 then (bnd (f_X11_isWrong σ) fun σ10 => some (a1, σ10)) else (bnd (f_X11_next σ) fun σ8 => some (gi σ 16, σ8)))) else (bnd (f_X11_isWrong σ) fun σ3 => some (a1, σ3)))
def f_X11_kindHere (σ : St) : Option (Int32) :=
  (bnd (f_X11_isWord (115 : Int32) (97 : Int32) (109 : Int32) (101 : Int32) (0 : Int32) σ) fun r2 => (if r2 = 0 then (bnd (f_X11_isWord (114 : Int32) (105 : Int32) (115 : Int32) (101 : Int32) (0 : Int32) σ) fun r5 => (if r5 = 0 then (bnd (f_X11_isWord (102 : Int32) (97 : Int32) (108 : Int32) (108 : Int32) (0 : Int32) σ) fun r8 => (if r8 = 0 then (bnd (f_X11_isWord (119 : Int32) (97 : Int32) (118 : Int32) (101 : Int32) (0 : Int32) σ) fun r11 => (if r11 = 0 then (bnd (f_X11_isWord (100 : Int32) (114 : Int32) (97 : Int32) (119 : Int32) (0 : Int32) σ) fun r14 => (if r14 = 0 then (bnd (f_X11_isWord (116 : Int32) (101 : Int32) (101 : Int32) (116 : Int32) (104 : Int32) σ) fun r17 => (bnd (if r17 = 0 then some ((-1 : Int32)) else some ((5 : Int32))) fun v19 => some v19)) else some (4 : Int32))) else some (3 : Int32))) else some (2 : Int32))) else some (1 : Int32))) else some (0 : Int32)))
def f_X11_takesStart (σ : St) : Option (Int32 × St) :=
  (if (gi σ 14) = (4 : Int32) then (bnd (f_X11_next σ) fun σ3 => (bnd2 (f_X11_takesNumber (0 : Int32) (9999 : Int32) σ3) fun r5 σ6 => some (-r5, σ6))) else (bnd2 (f_X11_takesNumber (0 : Int32) (9999 : Int32) σ) fun r8 σ9 => some (r8, σ9)))
def f_X11_takesRun (σ : St) : Option (St) :=
  (bnd (f_X11_kindHere σ) fun r2 => (if r2 = (-1 : Int32) then (bnd (f_X11_isWrong σ) fun σ77 => some σ77) else (bnd (f_X11_next σ) fun σ5 => (bnd2 (f_X11_takesNumber (1 : Int32) (400 : Int32) σ5) fun r7 σ8 => (bnd2 (if (gi σ8 17) = (-1 : Int32) then (bnd2 (f_X11_takesStart σ8) fun r14 σ15 => some (r14, σ15)) else some ((0 : Int32), σ8)) fun v10 σ11 => (bnd2 (if (gi σ11 17) = (-1 : Int32) then (if r2 = 0 then some ((0 : Int32), σ11) else (bnd2 (f_X11_takesNumber (0 : Int32) (999 : Int32) σ11) fun r22 σ23 => some (r22, σ23))) else some ((0 : Int32), σ11)) fun v17 σ18 => (bnd2 (if (gi σ18 17) = (-1 : Int32) then (if r2 = (5 : Int32) then (bnd2 (f_X11_takesNumber (1 : Int32) (99 : Int32) σ18) fun r30 σ31 => some (r30, σ31)) else some ((1 : Int32), σ18)) else some ((1 : Int32), σ18)) fun v25 σ26 => (bnd2 (if (gi σ26 17) = (-1 : Int32) then (bnd (f_X11_isWord (109 : Int32) (111 : Int32) (100 : Int32) (0 : Int32) (0 : Int32) σ26) fun r37 => (if r37 = 0 then some ((1 : Int32), σ26) else (bnd (f_X11_next σ26) fun σ40 => (bnd2 (f_X11_takesNumber (1 : Int32) (99 : Int32) σ40) fun r42 σ43 => some (r42, σ43))))) else some ((1 : Int32), σ26)) fun v33 σ34 => (bnd (if (gi σ34 17) = (-1 : Int32) then (if (gi σ34 14) = (3 : Int32) then some (σ34) else (bnd (f_X11_isWrong σ34) fun σ49 => some (σ49))) else some (σ34)) fun σ45 => (if (gi σ45 17) = (-1 : Int32) then (bnd (f_X11_next σ45) fun σ52 => if (gi σ52 24) < 0 ∨ 80 ≤ (gi σ52 24).toNatClampNeg then none else bnd (some (sr σ52 19 (upd (gr σ52 19) (gi σ52 24).toNatClampNeg r2))) fun σ54 => if (gi σ54 24) < 0 ∨ 80 ≤ (gi σ54 24).toNatClampNeg then none else bnd (some (sr σ54 20 (upd (gr σ54 20) (gi σ54 24).toNatClampNeg r7))) fun σ57 => if (gi σ57 24) < 0 ∨ 80 ≤ (gi σ57 24).toNatClampNeg then none else bnd (some (sr σ57 21 (upd (gr σ57 21) (gi σ57 24).toNatClampNeg v10))) fun σ60 => if (gi σ60 24) < 0 ∨ 80 ≤ (gi σ60 24).toNatClampNeg then none else bnd (some (sr σ60 22 (upd (gr σ60 22) (gi σ60 24).toNatClampNeg v17))) fun σ63 => if (gi σ63 24) < 0 ∨ 80 ≤ (gi σ63 24).toNatClampNeg then none else bnd (some (sr σ63 23 (upd (gr σ63 23) (gi σ63 24).toNatClampNeg v25))) fun σ66 => if (gi σ66 24) < 0 ∨ 80 ≤ (gi σ66 24).toNatClampNeg then none else bnd (some (sr σ66 24 (upd (gr σ66 24) (gi σ66 24).toNatClampNeg v33))) fun σ69 => some (si σ69 24 ((gi σ69 24) + (1 : Int32)))) else some σ45))))))))))
def f_X11_reads_L19 : Nat → St → Option (St)
  | 0, _ => none
  | n6 + 1, σ5 => (if (gi σ5 17) = (-1 : Int32) then (if (gi σ5 14) = (6 : Int32) then some (σ5) else (bnd (f_X11_takesRun σ5) fun σ15 => (f_X11_reads_L19 n6 σ15))) else some (σ5))
def f_X11_reads (σ : St) : Option (Int32 × St) :=
  bnd (some (si (si σ 13 (0 : Int32)) 17 (-1 : Int32))) fun σ1 => (bnd (f_X11_next (si σ1 24 (0 : Int32))) fun σ4 => (bnd (f_X11_reads_L19 FU σ4) fun σ11 => some (gi σ11 17, σ11)))
def f_X11_fault (σ : St) : Option (Int32 × St) :=
  (bnd2 (f_X11_reads σ) fun r2 σ3 => (bnd2 (f_X11_told r2 σ3) fun r5 σ6 => some (r5, σ6)))
def f_X11_makes (a1 : Int32) (a2 : Int32) (σ : St) : Option (Int32 × St) :=
  if (gi σ 2) < 0 ∨ 20000 ≤ (gi σ 2).toNatClampNeg then none else bnd (some (sr σ 1 (upd (gr σ 1) (gi σ 2).toNatClampNeg a1))) fun σ2 => if (gi σ2 2) < 0 ∨ 20000 ≤ (gi σ2 2).toNatClampNeg then none else bnd (some (sr σ2 2 (upd (gr σ2 2) (gi σ2 2).toNatClampNeg a2))) fun σ5 => some ((gi (si σ5 2 ((gi σ5 2) + (1 : Int32))) 2) - (1 : Int32), si σ5 2 ((gi σ5 2) + (1 : Int32)))
def f_X11_draws (a1 : Int32) (σ : St) : Option (Int32 × St) :=
  bnd (some (si σ 9 (((gi σ 9) * (1103515245 : Int32)) + (12345 : Int32)))) fun σ1 => if a1 = 0 then none else some ((((gi σ1 9).toUInt32 >>> ((16 : Int32).toUInt32 &&& Int32.toUInt32 31)).toInt32) - (((gi σ1 9).toUInt32 >>> ((16 : Int32).toUInt32 &&& Int32.toUInt32 31)).toInt32) / a1 * a1, σ1)
def f_X11_firstOf (a1 : Int32) (a2 : Int32) (σ : St) : Option (Int32 × St) :=
  if a1 < 0 ∨ 80 ≤ a1.toNatClampNeg then none else if a1 < 0 ∨ 80 ≤ a1.toNatClampNeg then none else if a1 < 0 ∨ 80 ≤ a1.toNatClampNeg then none else (if (gr σ 19 a1.toNatClampNeg) = 1 then some ((gr σ 21 a1.toNatClampNeg) + (a2 * (gr σ 22 a1.toNatClampNeg)), σ) else (if (gr σ 19 a1.toNatClampNeg) = 2 then some ((gr σ 21 a1.toNatClampNeg) - (a2 * (gr σ 22 a1.toNatClampNeg)), σ) else (if (gr σ 19 a1.toNatClampNeg) = 3 then (bnd (if (a2 - a2 / (2 : Int32) * (2 : Int32)) = 0 then some (gr σ 21 a1.toNatClampNeg) else some ((gr σ 21 a1.toNatClampNeg) + (gr σ 22 a1.toNatClampNeg))) fun v7 => some (v7, σ)) else (if (gr σ 19 a1.toNatClampNeg) = 4 then (bnd2 (f_X11_draws ((gr σ 22 a1.toNatClampNeg) + (1 : Int32)) σ) fun r12 σ13 => some ((gr σ 21 a1.toNatClampNeg) + r12, σ13)) else (if (gr σ 19 a1.toNatClampNeg) = 5 then if a1 < 0 ∨ 80 ≤ a1.toNatClampNeg then none else if gr σ 23 a1.toNatClampNeg = 0 then none else some ((gr σ 21 a1.toNatClampNeg) + ((gr σ 22 a1.toNatClampNeg) * (a2 - a2 / (gr σ 23 a1.toNatClampNeg) * (gr σ 23 a1.toNatClampNeg))), σ) else some (gr σ 21 a1.toNatClampNeg, σ))))))
def f_X11_lay_L32 (σ14 : St) : Nat → Int32 → Int32 → Option (Int32)
  | 0, _, _ => none
  | n15 + 1, v12, v13 => (if (gi σ14 24) ≤ v13 then some (v12) else if v13 < 0 ∨ 80 ≤ v13.toNatClampNeg then none else (f_X11_lay_L32 σ14 n15 (v12 + (gr σ14 20 v13.toNatClampNeg)) (v13 + (1 : Int32))))
def f_X11_lay_L108 (c45 : Int32) (c47 : Int32) : Nat → Int32 → St → Option (St)
  | 0, _, _ => none
  | n50 + 1, v48, σ49 => if c47 < 0 ∨ 80 ≤ c47.toNatClampNeg then none else (if (gr σ49 20 c47.toNatClampNeg) ≤ v48 then some (σ49) else if c45 < 0 ∨ 4 ≤ c45.toNatClampNeg then none else (bnd2 (f_X11_firstOf c47 v48 σ49) fun r60 σ61 => if c47 < 0 ∨ 80 ≤ c47.toNatClampNeg then none else if gr σ61 24 c47.toNatClampNeg = 0 then none else (bnd2 (f_X11_makes r60 (v48 - v48 / (gr σ61 24 c47.toNatClampNeg) * (gr σ61 24 c47.toNatClampNeg)) σ61) fun r65 σ66 => if (((800 : Int32) * c45) + (gr σ49 6 c45.toNatClampNeg)) < 0 ∨ 3200 ≤ (((800 : Int32) * c45) + (gr σ49 6 c45.toNatClampNeg)).toNatClampNeg then none else bnd (some (sr σ66 4 (upd (gr σ66 4) (((800 : Int32) * c45) + (gr σ49 6 c45.toNatClampNeg)).toNatClampNeg r65))) fun σ68 => if c45 < 0 ∨ 4 ≤ c45.toNatClampNeg then none else if c45 < 0 ∨ 4 ≤ c45.toNatClampNeg then none else bnd (some (sr σ68 6 (upd (gr σ68 6) c45.toNatClampNeg ((gr σ68 6 c45.toNatClampNeg) + (1 : Int32))))) fun σ72 => (f_X11_lay_L108 c45 c47 n50 (v48 + (1 : Int32)) σ72))))
def f_X11_lay_L96 (c34 : Int32) : Nat → Int32 → St → Option (St)
  | 0, _, _ => none
  | n38 + 1, v36, σ37 => (if (gi σ37 24) ≤ v36 then some (σ37) else (bnd (f_X11_lay_L108 c34 v36 FU (0 : Int32) σ37) fun σ55 => (f_X11_lay_L96 c34 n38 (v36 + (1 : Int32)) σ55)))
def f_X11_lay (a1 : Int32) (σ : St) : Option (Int32 × St) :=
  (bnd (f_X11_isRow a1) fun r2 => (if r2 = 0 then (bnd2 (f_X11_refuse (1 : Int32) σ) fun r84 σ85 => some (r84, σ85)) else (bnd2 (f_X11_reads σ) fun r5 σ6 => (bnd (if r5 = (-1 : Int32) then some ((1 : Int32)) else some ((0 : Int32))) fun v8 => (bnd (f_X11_lay_L32 σ6 FU (0 : Int32) (0 : Int32)) fun o20 => (if v8 = 0 then (bnd2 (f_X11_refuse (2 : Int32) σ6) fun r26 σ27 => some (r26, σ27)) else if a1 < 0 ∨ 4 ≤ a1.toNatClampNeg then none else (if (800 : Int32) < ((gr σ6 6 a1.toNatClampNeg) + o20) then (bnd2 (f_X11_refuse (2 : Int32) σ6) fun r31 σ32 => some (r31, σ32)) else (if ((gi σ6 2) + o20) ≤ (20000 : Int32) then (bnd (f_X11_lay_L96 a1 FU (0 : Int32) σ6) fun σ43 => (bnd2 (f_X11_told o20 σ43) fun r77 σ78 => some (r77, σ78))) else (bnd2 (f_X11_refuse (2 : Int32) σ6) fun r80 σ81 => some (r80, σ81))))))))))
def f_X11_put_L63 (c18 : Int32) (c19 : Int32) : Nat → Int32 → St → Option (St)
  | 0, _, _ => none
  | n24 + 1, v22, σ23 => (if v22 ≤ c19 then some (σ23) else if ((((800 : Int32) * c18) + v22) - (1 : Int32)) < 0 ∨ 3200 ≤ ((((800 : Int32) * c18) + v22) - (1 : Int32)).toNatClampNeg then none else if (((800 : Int32) * c18) + v22) < 0 ∨ 3200 ≤ (((800 : Int32) * c18) + v22).toNatClampNeg then none else bnd (some (sr σ23 4 (upd (gr σ23 4) (((800 : Int32) * c18) + v22).toNatClampNeg (gr σ23 4 ((((800 : Int32) * c18) + v22) - (1 : Int32)).toNatClampNeg)))) fun σ33 => (f_X11_put_L63 c18 c19 n24 (v22 + (-1 : Int32)) σ33))
def f_X11_put (a1 : Int32) (a2 : Int32) (a3 : Int32) (a4 : Int32) (σ : St) : Option (Int32 × St) :=
  (bnd (f_X11_isRow a1) fun r2 => (if r2 = 0 then (bnd2 (f_X11_refuse (1 : Int32) σ) fun r5 σ6 => some (r5, σ6)) else if a1 < 0 ∨ 4 ≤ a1.toNatClampNeg then none else (bnd (f_X11_in a2 (0 : Int32) (gr σ 6 a1.toNatClampNeg)) fun r9 => (if r9 = 0 then (bnd2 (f_X11_refuse (1 : Int32) σ) fun r53 σ54 => some (r53, σ54)) else if a1 < 0 ∨ 4 ≤ a1.toNatClampNeg then none else (if (gr σ 6 a1.toNatClampNeg) = (800 : Int32) then (bnd2 (f_X11_refuse (2 : Int32) σ) fun r14 σ15 => some (r14, σ15)) else (if (gi σ 2) = (20000 : Int32) then (bnd2 (f_X11_refuse (2 : Int32) σ) fun r50 σ51 => some (r50, σ51)) else if a1 < 0 ∨ 4 ≤ a1.toNatClampNeg then none else (bnd (f_X11_put_L63 a1 a2 FU (gr σ 6 a1.toNatClampNeg) σ) fun σ29 => (bnd2 (f_X11_makes a3 a4 σ29) fun r37 σ38 => if (((800 : Int32) * a1) + a2) < 0 ∨ 3200 ≤ (((800 : Int32) * a1) + a2).toNatClampNeg then none else bnd (some (sr σ38 4 (upd (gr σ38 4) (((800 : Int32) * a1) + a2).toNatClampNeg r37))) fun σ40 => if a1 < 0 ∨ 4 ≤ a1.toNatClampNeg then none else if a1 < 0 ∨ 4 ≤ a1.toNatClampNeg then none else bnd (some (sr σ40 6 (upd (gr σ40 6) a1.toNatClampNeg ((gr σ40 6 a1.toNatClampNeg) + (1 : Int32))))) fun σ44 => (bnd2 (f_X11_told ((gi σ44 2) - (1 : Int32)) σ44) fun r47 σ48 => some (r47, σ48))))))))))
def f_X11_setSeed (a1 : Int32) (σ : St) : Option (Int32 × St) :=
  (bnd2 (f_X11_told (gi σ 9) (si σ 9 a1)) fun r2 σ3 => some (r2, σ3))
def f_X11_goesAhead (a1 : Int32) (a2 : Int32) (a3 : Int32) (σ : St) : Option (Int32) :=
  (if a3 = 0 then if a1 < 0 ∨ 20000 ≤ a1.toNatClampNeg then none else if a2 < 0 ∨ 20000 ≤ a2.toNatClampNeg then none else (bnd (if (gr σ 1 a2.toNatClampNeg) ≤ (gr σ 1 a1.toNatClampNeg) then some ((0 : Int32)) else some ((1 : Int32))) fun v4 => (if ¬ (v4 = 0 ∨ v4 = 1) then none else some v4)) else (if a3 = 1 then if a1 < 0 ∨ 20000 ≤ a1.toNatClampNeg then none else if a2 < 0 ∨ 20000 ≤ a2.toNatClampNeg then none else (bnd (if (gr σ 1 a1.toNatClampNeg) ≤ (gr σ 1 a2.toNatClampNeg) then some ((0 : Int32)) else some ((1 : Int32))) fun v12 => (if ¬ (v12 = 0 ∨ v12 = 1) then none else some v12)) else (if a3 = 2 then if a1 < 0 ∨ 20000 ≤ a1.toNatClampNeg then none else if a2 < 0 ∨ 20000 ≤ a2.toNatClampNeg then none else (bnd (if (gr σ 2 a2.toNatClampNeg) ≤ (gr σ 2 a1.toNatClampNeg) then some ((0 : Int32)) else some ((1 : Int32))) fun v20 => (if ¬ (v20 = 0 ∨ v20 = 1) then none else some v20)) else if a1 < 0 ∨ 20000 ≤ a1.toNatClampNeg then none else if a2 < 0 ∨ 20000 ≤ a2.toNatClampNeg then none else (bnd (if (gr σ 1 a1.toNatClampNeg) < (gr σ 1 a2.toNatClampNeg) then some ((1 : Int32)) else if a1 < 0 ∨ 20000 ≤ a1.toNatClampNeg then none else if a2 < 0 ∨ 20000 ≤ a2.toNatClampNeg then none else (if (gr σ 1 a1.toNatClampNeg) = (gr σ 1 a2.toNatClampNeg) then if a1 < 0 ∨ 20000 ≤ a1.toNatClampNeg then none else if a2 < 0 ∨ 20000 ≤ a2.toNatClampNeg then none else (if (gr σ 2 a2.toNatClampNeg) ≤ (gr σ 2 a1.toNatClampNeg) then some ((0 : Int32)) else some ((1 : Int32))) else some ((0 : Int32)))) fun v28 => (if ¬ (v28 = 0 ∨ v28 = 1) then none else some v28)))))
def f_X11_sorts_L2 (c1 : Int32) : Nat → Int32 → St → Option (St)
  | 0, _, _ => none
  | n5 + 1, v3, σ4 => (if c1 ≤ v3 then some (σ4) else if v3 < 0 ∨ 3200 ≤ v3.toNatClampNeg then none else if v3 < 0 ∨ 3200 ≤ v3.toNatClampNeg then none else bnd (some (sr σ4 13 (upd (gr σ4 13) v3.toNatClampNeg (gr σ4 12 v3.toNatClampNeg)))) fun σ14 => (f_X11_sorts_L2 c1 n5 (v3 + (1 : Int32)) σ14))
def f_X11_sorts_L43 (c30 : Int32) (c32 : Int32) : Nat → Int32 → St → Option (Int32 × St)
  | 0, _, _ => none
  | n35 + 1, v33, σ34 => (if v33 ≤ 0 then some (v33, σ34) else if (v33 - (1 : Int32)) < 0 ∨ 3200 ≤ (v33 - (1 : Int32)).toNatClampNeg then none else (bnd (f_X11_goesAhead c32 (gr σ34 12 (v33 - (1 : Int32)).toNatClampNeg) c30 σ34) fun r45 => (if r45 = 0 then some (v33, σ34) else if (v33 - (1 : Int32)) < 0 ∨ 3200 ≤ (v33 - (1 : Int32)).toNatClampNeg then none else if v33 < 0 ∨ 3200 ≤ v33.toNatClampNeg then none else bnd (some (sr σ34 12 (upd (gr σ34 12) v33.toNatClampNeg (gr σ34 12 (v33 - (1 : Int32)).toNatClampNeg)))) fun σ49 => (f_X11_sorts_L43 c30 c32 n35 (v33 + (-1 : Int32)) σ49))))
def f_X11_sorts_L27 (c17 : Int32) (c18 : Int32) : Nat → Int32 → St → Option (St)
  | 0, _, _ => none
  | n21 + 1, v19, σ20 => (if c17 ≤ v19 then some (σ20) else if v19 < 0 ∨ 3200 ≤ v19.toNatClampNeg then none else (bnd2 (f_X11_sorts_L43 c18 (gr σ20 12 v19.toNatClampNeg) FU v19 σ20) fun o41 σ40 => if o41 < 0 ∨ 3200 ≤ o41.toNatClampNeg then none else bnd (some (sr σ40 12 (upd (gr σ40 12) o41.toNatClampNeg (gr σ20 12 v19.toNatClampNeg)))) fun σ53 => (f_X11_sorts_L27 c17 c18 n21 (v19 + (1 : Int32)) σ53)))
def f_X11_sorts_L109 (c56 : Int32) (σ59 : St) : Nat → Int32 → Int32 → Option (Int32)
  | 0, _, _ => none
  | n60 + 1, v57, v58 => (if c56 ≤ v58 then some (v57) else if v58 < 0 ∨ 3200 ≤ v58.toNatClampNeg then none else if v58 < 0 ∨ 3200 ≤ v58.toNatClampNeg then none else (bnd (if (gr σ59 12 v58.toNatClampNeg) = (gr σ59 13 v58.toNatClampNeg) then some ((0 : Int32)) else some ((1 : Int32))) fun v70 => (f_X11_sorts_L109 c56 σ59 n60 (v57 + v70) (v58 + (1 : Int32)))))
def f_X11_sorts (a1 : Int32) (a2 : Int32) (σ : St) : Option (Int32 × St) :=
  (bnd (f_X11_sorts_L2 a1 FU (0 : Int32) σ) fun σ10 => (bnd (f_X11_sorts_L27 a1 a2 FU (1 : Int32) σ10) fun σ26 => (bnd (f_X11_sorts_L109 a1 σ26 FU (0 : Int32) (0 : Int32)) fun o65 => some (o65, σ26))))
def f_X11_sortsPart_L3 (c1 : Int32) (c2 : Int32) (c3 : Int32) : Nat → Int32 → St → Option (St)
  | 0, _, _ => none
  | n7 + 1, v5, σ6 => (if c3 ≤ v5 then some (σ6) else if (((800 : Int32) * c1) + v5) < 0 ∨ 3200 ≤ (((800 : Int32) * c1) + v5).toNatClampNeg then none else if (v5 - c2) < 0 ∨ 3200 ≤ (v5 - c2).toNatClampNeg then none else bnd (some (sr σ6 12 (upd (gr σ6 12) (v5 - c2).toNatClampNeg (gr σ6 4 (((800 : Int32) * c1) + v5).toNatClampNeg)))) fun σ16 => (f_X11_sortsPart_L3 c1 c2 c3 n7 (v5 + (1 : Int32)) σ16))
def f_X11_sortsPart_L51 (c22 : Int32) (c23 : Int32) (c24 : Int32) : Nat → Int32 → St → Option (St)
  | 0, _, _ => none
  | n28 + 1, v26, σ27 => (if c24 ≤ v26 then some (σ27) else if (v26 - c23) < 0 ∨ 3200 ≤ (v26 - c23).toNatClampNeg then none else if (((800 : Int32) * c22) + v26) < 0 ∨ 3200 ≤ (((800 : Int32) * c22) + v26).toNatClampNeg then none else bnd (some (sr σ27 4 (upd (gr σ27 4) (((800 : Int32) * c22) + v26).toNatClampNeg (gr σ27 12 (v26 - c23).toNatClampNeg)))) fun σ37 => (f_X11_sortsPart_L51 c22 c23 c24 n28 (v26 + (1 : Int32)) σ37))
def f_X11_sortsPart (a1 : Int32) (a2 : Int32) (a3 : Int32) (a4 : Int32) (σ : St) : Option (Int32 × St) :=
  (bnd (f_X11_sortsPart_L3 a1 a2 a3 FU a2 σ) fun σ12 => (bnd2 (f_X11_sorts (a3 - a2) a4 σ12) fun r20 σ21 => (bnd (f_X11_sortsPart_L51 a1 a2 a3 FU a2 σ21) fun σ33 => some (r20, σ33))))
def f_X11_sort (a1 : Int32) (σ : St) : Option (Int32 × St) :=
  (bnd (f_X11_isRow a1) fun r2 => (bnd2 (if r2 = 0 then (bnd2 (f_X11_refuse (1 : Int32) σ) fun r8 σ9 => some (r8, σ9)) else if a1 < 0 ∨ 4 ≤ a1.toNatClampNeg then none else (bnd2 (f_X11_sortsPart a1 (0 : Int32) (gr σ 6 a1.toNatClampNeg) (0 : Int32) σ) fun r12 σ13 => (bnd2 (f_X11_told r12 σ13) fun r15 σ16 => some (r15, σ16)))) fun v4 σ5 => some (v4, σ5)))
def f_X11_sortAll_L11 (c13 : Int32) : Nat → Int32 → Int32 → St → Option (Int32 × St)
  | 0, _, _, _ => none
  | n16 + 1, v12, v14, σ15 => if c13 < 0 ∨ 4 ≤ c13.toNatClampNeg then none else (if (gr σ15 6 c13.toNatClampNeg) ≤ v14 then some (v12, σ15) else if (((800 : Int32) * c13) + v14) < 0 ∨ 3200 ≤ (((800 : Int32) * c13) + v14).toNatClampNeg then none else if v12 < 0 ∨ 3200 ≤ v12.toNatClampNeg then none else bnd (some (sr σ15 12 (upd (gr σ15 12) v12.toNatClampNeg (gr σ15 4 (((800 : Int32) * c13) + v14).toNatClampNeg)))) fun σ27 => (f_X11_sortAll_L11 c13 n16 (v12 + (1 : Int32)) (v14 + (1 : Int32)) σ27))
def f_X11_sortAll_L4 : Nat → Int32 → Int32 → St → Option (Int32 × St)
  | 0, _, _, _ => none
  | n4 + 1, v1, v2, σ3 => (if (4 : Int32) ≤ v2 then some (v1, σ3) else (bnd2 (f_X11_sortAll_L11 v2 FU v1 (0 : Int32) σ3) fun o22 σ21 => (f_X11_sortAll_L4 n4 o22 (v2 + (1 : Int32)) σ21)))
def f_X11_sortAll_L73 (c47 : Int32) : Nat → Int32 → Int32 → St → Option (Int32 × St)
  | 0, _, _, _ => none
  | n50 + 1, v45, v48, σ49 => if c47 < 0 ∨ 4 ≤ c47.toNatClampNeg then none else (if (gr σ49 6 c47.toNatClampNeg) ≤ v48 then some (v45, σ49) else if v45 < 0 ∨ 3200 ≤ v45.toNatClampNeg then none else if (((800 : Int32) * c47) + v48) < 0 ∨ 3200 ≤ (((800 : Int32) * c47) + v48).toNatClampNeg then none else bnd (some (sr σ49 4 (upd (gr σ49 4) (((800 : Int32) * c47) + v48).toNatClampNeg (gr σ49 12 v45.toNatClampNeg)))) fun σ61 => (f_X11_sortAll_L73 c47 n50 (v45 + (1 : Int32)) (v48 + (1 : Int32)) σ61))
def f_X11_sortAll_L65 : Nat → Int32 → Int32 → St → Option (St)
  | 0, _, _, _ => none
  | n38 + 1, v34, v36, σ37 => (if (4 : Int32) ≤ v36 then some (σ37) else (bnd2 (f_X11_sortAll_L73 v36 FU v34 (0 : Int32) σ37) fun o56 σ55 => (f_X11_sortAll_L65 n38 o56 (v36 + (1 : Int32)) σ55)))
def f_X11_sortAll (σ : St) : Option (Int32 × St) :=
  (bnd2 (f_X11_sortAll_L4 FU (0 : Int32) (0 : Int32) σ) fun o10 σ9 => (bnd2 (f_X11_sorts o10 (0 : Int32) σ9) fun r32 σ33 => (bnd (f_X11_sortAll_L65 FU (0 : Int32) (0 : Int32) σ33) fun σ43 => (bnd2 (f_X11_told r32 σ43) fun r66 σ67 => some (r66, σ67)))))
def f_X11_isPart (a1 : Int32) (a2 : Int32) (a3 : Int32) (σ : St) : Option (Int32) :=
  (bnd (f_X11_isRow a1) fun r2 => (bnd (if r2 = 0 then some ((0 : Int32)) else (if a2 < 0 then some ((0 : Int32)) else if a1 < 0 ∨ 4 ≤ a1.toNatClampNeg then none else (if (gr σ 6 a1.toNatClampNeg) < a3 then some ((0 : Int32)) else some ((1 : Int32))))) fun v4 => (if ¬ (v4 = 0 ∨ v4 = 1) then none else some v4)))
def f_X11_sortPart (a1 : Int32) (a2 : Int32) (a3 : Int32) (σ : St) : Option (Int32 × St) :=
  (bnd (f_X11_isPart a1 a2 a3 σ) fun r2 => (if r2 = 0 then (bnd2 (f_X11_refuse (1 : Int32) σ) fun r19 σ20 => some (r19, σ20)) else (bnd2 (if a2 ≤ a3 then (bnd2 (f_X11_sortsPart a1 a2 a3 (0 : Int32) σ) fun r9 σ10 => (bnd2 (f_X11_told r9 σ10) fun r12 σ13 => some (r12, σ13))) else (bnd2 (f_X11_refuse (2 : Int32) σ) fun r15 σ16 => some (r15, σ16))) fun v5 σ6 => some (v5, σ6))))
def f_X11_sortDown (a1 : Int32) (a2 : Int32) (a3 : Int32) (σ : St) : Option (Int32 × St) :=
  (bnd (f_X11_isPart a1 a2 a3 σ) fun r2 => (if r2 = 0 then (bnd2 (f_X11_refuse (1 : Int32) σ) fun r23 σ24 => some (r23, σ24)) else (bnd2 (if a3 < a2 then (bnd2 (f_X11_refuse (2 : Int32) σ) fun r9 σ10 => some (r9, σ10)) else (if (a3 - a2) ≤ (31 : Int32) then (bnd2 (f_X11_sortsPart a1 a2 a3 (1 : Int32) σ) fun r13 σ14 => (bnd2 (f_X11_told r13 σ14) fun r16 σ17 => some (r16, σ17))) else (bnd2 (f_X11_refuse (2 : Int32) σ) fun r19 σ20 => some (r19, σ20)))) fun v5 σ6 => some (v5, σ6))))
def f_X11_sortBySecond (a1 : Int32) (σ : St) : Option (Int32 × St) :=
  (bnd (f_X11_isRow a1) fun r2 => (bnd2 (if r2 = 0 then (bnd2 (f_X11_refuse (1 : Int32) σ) fun r8 σ9 => some (r8, σ9)) else if a1 < 0 ∨ 4 ≤ a1.toNatClampNeg then none else (bnd2 (f_X11_sortsPart a1 (0 : Int32) (gr σ 6 a1.toNatClampNeg) (2 : Int32) σ) fun r12 σ13 => (bnd2 (f_X11_told r12 σ13) fun r15 σ16 => some (r15, σ16)))) fun v4 σ5 => some (v4, σ5)))
def f_X11_sortByBoth (a1 : Int32) (σ : St) : Option (Int32 × St) :=
  (bnd (f_X11_isRow a1) fun r2 => (bnd2 (if r2 = 0 then (bnd2 (f_X11_refuse (1 : Int32) σ) fun r8 σ9 => some (r8, σ9)) else if a1 < 0 ∨ 4 ≤ a1.toNatClampNeg then none else (bnd2 (f_X11_sortsPart a1 (0 : Int32) (gr σ 6 a1.toNatClampNeg) (3 : Int32) σ) fun r12 σ13 => (bnd2 (f_X11_told r12 σ13) fun r15 σ16 => some (r15, σ16)))) fun v4 σ5 => some (v4, σ5)))
def f_X11_pour_L58 (c14 : Int32) (c15 : Int32) : Nat → Int32 → St → Option (St)
  | 0, _, _ => none
  | n18 + 1, v16, σ17 => if c14 < 0 ∨ 4 ≤ c14.toNatClampNeg then none else (if (gr σ17 6 c14.toNatClampNeg) ≤ v16 then some (σ17) else if c15 < 0 ∨ 4 ≤ c15.toNatClampNeg then none else if (((800 : Int32) * c14) + v16) < 0 ∨ 3200 ≤ (((800 : Int32) * c14) + v16).toNatClampNeg then none else if ((((800 : Int32) * c15) + (gr σ17 6 c15.toNatClampNeg)) + v16) < 0 ∨ 3200 ≤ ((((800 : Int32) * c15) + (gr σ17 6 c15.toNatClampNeg)) + v16).toNatClampNeg then none else bnd (some (sr σ17 4 (upd (gr σ17 4) ((((800 : Int32) * c15) + (gr σ17 6 c15.toNatClampNeg)) + v16).toNatClampNeg (gr σ17 4 (((800 : Int32) * c14) + v16).toNatClampNeg)))) fun σ29 => (f_X11_pour_L58 c14 c15 n18 (v16 + (1 : Int32)) σ29))
def f_X11_pour (a1 : Int32) (a2 : Int32) (σ : St) : Option (Int32 × St) :=
  (bnd (f_X11_isRow a1) fun r2 => (if r2 = 0 then (bnd2 (f_X11_refuse (1 : Int32) σ) fun r5 σ6 => some (r5, σ6)) else (bnd (f_X11_isRow a2) fun r8 => (if r8 = 0 then (bnd2 (f_X11_refuse (1 : Int32) σ) fun r51 σ52 => some (r51, σ52)) else (if a1 = a2 then (bnd2 (f_X11_refuse (2 : Int32) σ) fun r48 σ49 => some (r48, σ49)) else if a1 < 0 ∨ 4 ≤ a1.toNatClampNeg then none else if a2 < 0 ∨ 4 ≤ a2.toNatClampNeg then none else (if ((gr σ 6 a1.toNatClampNeg) + (gr σ 6 a2.toNatClampNeg)) ≤ (800 : Int32) then (bnd (f_X11_pour_L58 a1 a2 FU (0 : Int32) σ) fun σ23 => if a2 < 0 ∨ 4 ≤ a2.toNatClampNeg then none else if a1 < 0 ∨ 4 ≤ a1.toNatClampNeg then none else if a2 < 0 ∨ 4 ≤ a2.toNatClampNeg then none else bnd (some (sr σ23 6 (upd (gr σ23 6) a2.toNatClampNeg ((gr σ23 6 a2.toNatClampNeg) + (gr σ23 6 a1.toNatClampNeg))))) fun σ35 => if a1 < 0 ∨ 4 ≤ a1.toNatClampNeg then none else bnd (some (sr σ35 6 (upd (gr σ35 6) a1.toNatClampNeg (0 : Int32)))) fun σ38 => if a2 < 0 ∨ 4 ≤ a2.toNatClampNeg then none else (bnd2 (f_X11_told (gr σ38 6 a2.toNatClampNeg) σ38) fun r42 σ43 => some (r42, σ43))) else (bnd2 (f_X11_refuse (3 : Int32) σ) fun r45 σ46 => some (r45, σ46))))))))
def f_X11_deal_L63 (c14 : Int32) (c15 : Int32) : Nat → Int32 → St → Option (St)
  | 0, _, _ => none
  | n19 + 1, v17, σ18 => if c14 < 0 ∨ 4 ≤ c14.toNatClampNeg then none else (if (gr σ18 6 c14.toNatClampNeg) ≤ v17 then some (σ18) else (bnd (if (v17 - v17 / (2 : Int32) * (2 : Int32)) = (1 : Int32) then if c15 < 0 ∨ 4 ≤ c15.toNatClampNeg then none else if (((800 : Int32) * c14) + v17) < 0 ∨ 3200 ≤ (((800 : Int32) * c14) + v17).toNatClampNeg then none else if (((800 : Int32) * c15) + (gr σ18 6 c15.toNatClampNeg)) < 0 ∨ 3200 ≤ (((800 : Int32) * c15) + (gr σ18 6 c15.toNatClampNeg)).toNatClampNeg then none else bnd (some (sr σ18 4 (upd (gr σ18 4) (((800 : Int32) * c15) + (gr σ18 6 c15.toNatClampNeg)).toNatClampNeg (gr σ18 4 (((800 : Int32) * c14) + v17).toNatClampNeg)))) fun σ37 => if c15 < 0 ∨ 4 ≤ c15.toNatClampNeg then none else if c15 < 0 ∨ 4 ≤ c15.toNatClampNeg then none else bnd (some (sr σ37 6 (upd (gr σ37 6) c15.toNatClampNeg ((gr σ37 6 c15.toNatClampNeg) + (1 : Int32))))) fun σ41 => some (σ41) else if (((800 : Int32) * c14) + v17) < 0 ∨ 3200 ≤ (((800 : Int32) * c14) + v17).toNatClampNeg then none else if (((800 : Int32) * c14) + (v17 / (2 : Int32))) < 0 ∨ 3200 ≤ (((800 : Int32) * c14) + (v17 / (2 : Int32))).toNatClampNeg then none else bnd (some (sr σ18 4 (upd (gr σ18 4) (((800 : Int32) * c14) + (v17 / (2 : Int32))).toNatClampNeg (gr σ18 4 (((800 : Int32) * c14) + v17).toNatClampNeg)))) fun σ32 => some (σ32)) fun σ28 => (f_X11_deal_L63 c14 c15 n19 (v17 + (1 : Int32)) σ28)))
def f_X11_deal (a1 : Int32) (a2 : Int32) (σ : St) : Option (Int32 × St) :=
  (bnd (f_X11_isRow a1) fun r2 => (if r2 = 0 then (bnd2 (f_X11_refuse (1 : Int32) σ) fun r5 σ6 => some (r5, σ6)) else (bnd (f_X11_isRow a2) fun r8 => (if r8 = 0 then (bnd2 (f_X11_refuse (1 : Int32) σ) fun r59 σ60 => some (r59, σ60)) else (if a1 = a2 then (bnd2 (f_X11_refuse (2 : Int32) σ) fun r56 σ57 => some (r56, σ57)) else if a1 < 0 ∨ 4 ≤ a1.toNatClampNeg then none else if a2 < 0 ∨ 4 ≤ a2.toNatClampNeg then none else (if ((gr σ 6 a2.toNatClampNeg) + ((gr σ 6 a1.toNatClampNeg) / (2 : Int32))) ≤ (800 : Int32) then (bnd (f_X11_deal_L63 a1 a2 FU (0 : Int32) σ) fun σ24 => if a1 < 0 ∨ 4 ≤ a1.toNatClampNeg then none else if a1 < 0 ∨ 4 ≤ a1.toNatClampNeg then none else bnd (some (sr σ24 6 (upd (gr σ24 6) a1.toNatClampNeg ((gr σ24 6 a1.toNatClampNeg) - ((gr σ 6 a1.toNatClampNeg) / (2 : Int32)))))) fun σ47 => (bnd2 (f_X11_told ((gr σ 6 a1.toNatClampNeg) / (2 : Int32)) σ47) fun r50 σ51 => some (r50, σ51))) else (bnd2 (f_X11_refuse (3 : Int32) σ) fun r53 σ54 => some (r53, σ54))))))))
def f_X11_turn_L15 (c4 : Int32) : Nat → Int32 → St → Option (St)
  | 0, _, _ => none
  | n7 + 1, v5, σ6 => if c4 < 0 ∨ 4 ≤ c4.toNatClampNeg then none else (if ((gr σ6 6 c4.toNatClampNeg) / (2 : Int32)) ≤ v5 then some (σ6) else if (((800 : Int32) * c4) + v5) < 0 ∨ 3200 ≤ (((800 : Int32) * c4) + v5).toNatClampNeg then none else if c4 < 0 ∨ 4 ≤ c4.toNatClampNeg then none else if (((((800 : Int32) * c4) + (gr σ6 6 c4.toNatClampNeg)) - (1 : Int32)) - v5) < 0 ∨ 3200 ≤ (((((800 : Int32) * c4) + (gr σ6 6 c4.toNatClampNeg)) - (1 : Int32)) - v5).toNatClampNeg then none else if (((800 : Int32) * c4) + v5) < 0 ∨ 3200 ≤ (((800 : Int32) * c4) + v5).toNatClampNeg then none else bnd (some (sr σ6 4 (upd (gr σ6 4) (((800 : Int32) * c4) + v5).toNatClampNeg (gr σ6 4 (((((800 : Int32) * c4) + (gr σ6 6 c4.toNatClampNeg)) - (1 : Int32)) - v5).toNatClampNeg)))) fun σ19 => if c4 < 0 ∨ 4 ≤ c4.toNatClampNeg then none else if (((((800 : Int32) * c4) + (gr σ19 6 c4.toNatClampNeg)) - (1 : Int32)) - v5) < 0 ∨ 3200 ≤ (((((800 : Int32) * c4) + (gr σ19 6 c4.toNatClampNeg)) - (1 : Int32)) - v5).toNatClampNeg then none else bnd (some (sr σ19 4 (upd (gr σ19 4) (((((800 : Int32) * c4) + (gr σ19 6 c4.toNatClampNeg)) - (1 : Int32)) - v5).toNatClampNeg (gr σ6 4 (((800 : Int32) * c4) + v5).toNatClampNeg)))) fun σ23 => (f_X11_turn_L15 c4 n7 (v5 + (1 : Int32)) σ23))
def f_X11_turn (a1 : Int32) (σ : St) : Option (Int32 × St) :=
  (bnd (f_X11_isRow a1) fun r2 => (if r2 = 0 then (bnd2 (f_X11_refuse (1 : Int32) σ) fun r31 σ32 => some (r31, σ32)) else (bnd (f_X11_turn_L15 a1 FU (0 : Int32) σ) fun σ12 => if a1 < 0 ∨ 4 ≤ a1.toNatClampNeg then none else (bnd2 (f_X11_told (gr σ12 6 a1.toNatClampNeg) σ12) fun r28 σ29 => some (r28, σ29)))))
def f_X11_isPlace (a1 : Int32) (a2 : Int32) (σ : St) : Option (Int32) :=
  (bnd (f_X11_isRow a1) fun r2 => (bnd (if r2 = 0 then some ((0 : Int32)) else if a1 < 0 ∨ 4 ≤ a1.toNatClampNeg then none else (bnd (f_X11_in a2 (0 : Int32) ((gr σ 6 a1.toNatClampNeg) - (1 : Int32))) fun r8 => (if r8 = 0 then some ((0 : Int32)) else some ((1 : Int32))))) fun v4 => (if ¬ (v4 = 0 ∨ v4 = 1) then none else some v4)))
def f_X11_move_L41 (c11 : Int32) (c13 : Int32) : Nat → Int32 → St → Option (St)
  | 0, _, _ => none
  | n17 + 1, v15, σ16 => (if c13 ≤ v15 then some (σ16) else if ((((800 : Int32) * c11) + v15) + (1 : Int32)) < 0 ∨ 3200 ≤ ((((800 : Int32) * c11) + v15) + (1 : Int32)).toNatClampNeg then none else if (((800 : Int32) * c11) + v15) < 0 ∨ 3200 ≤ (((800 : Int32) * c11) + v15).toNatClampNeg then none else bnd (some (sr σ16 4 (upd (gr σ16 4) (((800 : Int32) * c11) + v15).toNatClampNeg (gr σ16 4 ((((800 : Int32) * c11) + v15) + (1 : Int32)).toNatClampNeg)))) fun σ26 => (f_X11_move_L41 c11 c13 n17 (v15 + (1 : Int32)) σ26))
def f_X11_move_L84 (c29 : Int32) (c30 : Int32) : Nat → Int32 → St → Option (St)
  | 0, _, _ => none
  | n34 + 1, v32, σ33 => (if v32 ≤ c30 then some (σ33) else if ((((800 : Int32) * c29) + v32) - (1 : Int32)) < 0 ∨ 3200 ≤ ((((800 : Int32) * c29) + v32) - (1 : Int32)).toNatClampNeg then none else if (((800 : Int32) * c29) + v32) < 0 ∨ 3200 ≤ (((800 : Int32) * c29) + v32).toNatClampNeg then none else bnd (some (sr σ33 4 (upd (gr σ33 4) (((800 : Int32) * c29) + v32).toNatClampNeg (gr σ33 4 ((((800 : Int32) * c29) + v32) - (1 : Int32)).toNatClampNeg)))) fun σ43 => (f_X11_move_L84 c29 c30 n34 (v32 + (-1 : Int32)) σ43))
def f_X11_move (a1 : Int32) (a2 : Int32) (a3 : Int32) (σ : St) : Option (Int32 × St) :=
  (bnd (f_X11_isPlace a1 a2 σ) fun r2 => (if r2 = 0 then (bnd2 (f_X11_refuse (1 : Int32) σ) fun r5 σ6 => some (r5, σ6)) else (bnd (f_X11_isPlace a1 a3 σ) fun r8 => (if r8 = 0 then (bnd2 (f_X11_refuse (1 : Int32) σ) fun r53 σ54 => some (r53, σ54)) else if (((800 : Int32) * a1) + a2) < 0 ∨ 3200 ≤ (((800 : Int32) * a1) + a2).toNatClampNeg then none else (bnd (f_X11_move_L41 a1 a3 FU a2 σ) fun σ22 => (bnd (f_X11_move_L84 a1 a3 FU a2 σ22) fun σ39 => if (((800 : Int32) * a1) + a3) < 0 ∨ 3200 ≤ (((800 : Int32) * a1) + a3).toNatClampNeg then none else bnd (some (sr σ39 4 (upd (gr σ39 4) (((800 : Int32) * a1) + a3).toNatClampNeg (gr σ 4 (((800 : Int32) * a1) + a2).toNatClampNeg)))) fun σ47 => (bnd2 (f_X11_told (gr σ 4 (((800 : Int32) * a1) + a2).toNatClampNeg) σ47) fun r50 σ51 => some (r50, σ51))))))))
def f_X11_thin_L18 (c4 : Int32) (c5 : Int32) : Nat → Int32 → Int32 → St → Option (Int32 × St)
  | 0, _, _, _ => none
  | n9 + 1, v6, v7, σ8 => if c4 < 0 ∨ 4 ≤ c4.toNatClampNeg then none else (if (gr σ8 6 c4.toNatClampNeg) ≤ v7 then some (v6, σ8) else if (((800 : Int32) * c4) + v7) < 0 ∨ 3200 ≤ (((800 : Int32) * c4) + v7).toNatClampNeg then none else if (gr σ8 4 (((800 : Int32) * c4) + v7).toNatClampNeg) < 0 ∨ 20000 ≤ (gr σ8 4 (((800 : Int32) * c4) + v7).toNatClampNeg).toNatClampNeg then none else (bnd2 (if (gr σ8 2 (gr σ8 4 (((800 : Int32) * c4) + v7).toNatClampNeg).toNatClampNeg) = c5 then some (v6, σ8) else if (((800 : Int32) * c4) + v7) < 0 ∨ 3200 ≤ (((800 : Int32) * c4) + v7).toNatClampNeg then none else if (((800 : Int32) * c4) + v6) < 0 ∨ 3200 ≤ (((800 : Int32) * c4) + v6).toNatClampNeg then none else bnd (some (sr σ8 4 (upd (gr σ8 4) (((800 : Int32) * c4) + v6).toNatClampNeg (gr σ8 4 (((800 : Int32) * c4) + v7).toNatClampNeg)))) fun σ26 => some (v6 + (1 : Int32), σ26)) fun v21 σ22 => (f_X11_thin_L18 c4 c5 n9 v21 (v7 + (1 : Int32)) σ22)))
def f_X11_thin (a1 : Int32) (a2 : Int32) (σ : St) : Option (Int32 × St) :=
  (bnd (f_X11_isRow a1) fun r2 => (if r2 = 0 then (bnd2 (f_X11_refuse (1 : Int32) σ) fun r38 σ39 => some (r38, σ39)) else (bnd2 (f_X11_thin_L18 a1 a2 FU (0 : Int32) (0 : Int32) σ) fun o15 σ14 => if a1 < 0 ∨ 4 ≤ a1.toNatClampNeg then none else if a1 < 0 ∨ 4 ≤ a1.toNatClampNeg then none else bnd (some (sr σ14 6 (upd (gr σ14 6) a1.toNatClampNeg o15))) fun σ32 => (bnd2 (f_X11_told ((gr σ14 6 a1.toNatClampNeg) - o15) σ32) fun r35 σ36 => some (r35, σ36)))))
def f_X11_single_L20 (c4 : Int32) : Nat → Int32 → Int32 → Int32 → St → Option (Int32 × St)
  | 0, _, _, _, _ => none
  | n9 + 1, v5, v6, v7, σ8 => if c4 < 0 ∨ 4 ≤ c4.toNatClampNeg then none else (if (gr σ8 6 c4.toNatClampNeg) ≤ v7 then some (v5, σ8) else if (((800 : Int32) * c4) + v7) < 0 ∨ 3200 ≤ (((800 : Int32) * c4) + v7).toNatClampNeg then none else (bnd2 (if v7 = 0 then if (((800 : Int32) * c4) + v5) < 0 ∨ 3200 ≤ (((800 : Int32) * c4) + v5).toNatClampNeg then none else bnd (some (sr σ8 4 (upd (gr σ8 4) (((800 : Int32) * c4) + v5).toNatClampNeg (gr σ8 4 (((800 : Int32) * c4) + v7).toNatClampNeg)))) fun σ24 => some (v5 + (1 : Int32), σ24) else if (gr σ8 4 (((800 : Int32) * c4) + v7).toNatClampNeg) < 0 ∨ 20000 ≤ (gr σ8 4 (((800 : Int32) * c4) + v7).toNatClampNeg).toNatClampNeg then none else (if (gr σ8 1 (gr σ8 4 (((800 : Int32) * c4) + v7).toNatClampNeg).toNatClampNeg) = v6 then some (v5, σ8) else if (((800 : Int32) * c4) + v5) < 0 ∨ 3200 ≤ (((800 : Int32) * c4) + v5).toNatClampNeg then none else bnd (some (sr σ8 4 (upd (gr σ8 4) (((800 : Int32) * c4) + v5).toNatClampNeg (gr σ8 4 (((800 : Int32) * c4) + v7).toNatClampNeg)))) fun σ29 => some (v5 + (1 : Int32), σ29))) fun v20 σ21 => if (gr σ8 4 (((800 : Int32) * c4) + v7).toNatClampNeg) < 0 ∨ 20000 ≤ (gr σ8 4 (((800 : Int32) * c4) + v7).toNatClampNeg).toNatClampNeg then none else (f_X11_single_L20 c4 n9 v20 (gr σ21 1 (gr σ8 4 (((800 : Int32) * c4) + v7).toNatClampNeg).toNatClampNeg) (v7 + (1 : Int32)) σ21)))
def f_X11_single (a1 : Int32) (σ : St) : Option (Int32 × St) :=
  (bnd (f_X11_isRow a1) fun r2 => (if r2 = 0 then (bnd2 (f_X11_refuse (1 : Int32) σ) fun r42 σ43 => some (r42, σ43)) else (bnd2 (f_X11_single_L20 a1 FU (0 : Int32) (0 : Int32) (0 : Int32) σ) fun o15 σ14 => if a1 < 0 ∨ 4 ≤ a1.toNatClampNeg then none else if a1 < 0 ∨ 4 ≤ a1.toNatClampNeg then none else bnd (some (sr σ14 6 (upd (gr σ14 6) a1.toNatClampNeg o15))) fun σ36 => (bnd2 (f_X11_told ((gr σ14 6 a1.toNatClampNeg) - o15) σ36) fun r39 σ40 => some (r39, σ40)))))
def f_X11_empty (a1 : Int32) (σ : St) : Option (Int32 × St) :=
  (bnd (f_X11_isRow a1) fun r2 => (if r2 = 0 then (bnd2 (f_X11_refuse (1 : Int32) σ) fun r12 σ13 => some (r12, σ13)) else if a1 < 0 ∨ 4 ≤ a1.toNatClampNeg then none else if a1 < 0 ∨ 4 ≤ a1.toNatClampNeg then none else bnd (some (sr σ 6 (upd (gr σ 6) a1.toNatClampNeg (0 : Int32)))) fun σ6 => (bnd2 (f_X11_told (gr σ 6 a1.toNatClampNeg) σ6) fun r9 σ10 => some (r9, σ10))))
def f_X11_keep_L15 (c4 : Int32) : Nat → Int32 → St → Option (St)
  | 0, _, _ => none
  | n7 + 1, v5, σ6 => if c4 < 0 ∨ 4 ≤ c4.toNatClampNeg then none else (if (gr σ6 6 c4.toNatClampNeg) ≤ v5 then some (σ6) else if (((800 : Int32) * c4) + v5) < 0 ∨ 3200 ≤ (((800 : Int32) * c4) + v5).toNatClampNeg then none else if (((800 : Int32) * c4) + v5) < 0 ∨ 3200 ≤ (((800 : Int32) * c4) + v5).toNatClampNeg then none else bnd (some (sr σ6 5 (upd (gr σ6 5) (((800 : Int32) * c4) + v5).toNatClampNeg (gr σ6 4 (((800 : Int32) * c4) + v5).toNatClampNeg)))) fun σ17 => (f_X11_keep_L15 c4 n7 (v5 + (1 : Int32)) σ17))
def f_X11_keep (a1 : Int32) (σ : St) : Option (Int32 × St) :=
  (bnd (f_X11_isRow a1) fun r2 => (if r2 = 0 then (bnd2 (f_X11_refuse (1 : Int32) σ) fun r29 σ30 => some (r29, σ30)) else (bnd (f_X11_keep_L15 a1 FU (0 : Int32) σ) fun σ12 => if a1 < 0 ∨ 4 ≤ a1.toNatClampNeg then none else if a1 < 0 ∨ 4 ≤ a1.toNatClampNeg then none else bnd (some (sr σ12 7 (upd (gr σ12 7) a1.toNatClampNeg (gr σ12 6 a1.toNatClampNeg)))) fun σ22 => if a1 < 0 ∨ 4 ≤ a1.toNatClampNeg then none else (bnd2 (f_X11_told (gr σ22 6 a1.toNatClampNeg) σ22) fun r26 σ27 => some (r26, σ27)))))
def f_X11_restore_L63 (c14 : Int32) (σ17 : St) : Nat → Int32 → Int32 → Option (Int32)
  | 0, _, _ => none
  | n18 + 1, v15, v16 => if c14 < 0 ∨ 4 ≤ c14.toNatClampNeg then none else if c14 < 0 ∨ 4 ≤ c14.toNatClampNeg then none else (bnd (f_X11_less (gr σ17 6 c14.toNatClampNeg) (gr σ17 7 c14.toNatClampNeg)) fun r27 => (if r27 ≤ v16 then some (v15) else if (((800 : Int32) * c14) + v16) < 0 ∨ 3200 ≤ (((800 : Int32) * c14) + v16).toNatClampNeg then none else if (((800 : Int32) * c14) + v16) < 0 ∨ 3200 ≤ (((800 : Int32) * c14) + v16).toNatClampNeg then none else (bnd (if (gr σ17 4 (((800 : Int32) * c14) + v16).toNatClampNeg) = (gr σ17 5 (((800 : Int32) * c14) + v16).toNatClampNeg) then some ((0 : Int32)) else some ((1 : Int32))) fun v32 => (f_X11_restore_L63 c14 σ17 n18 (v15 + v32) (v16 + (1 : Int32))))))
def f_X11_restore_L137 (c40 : Int32) : Nat → Int32 → St → Option (St)
  | 0, _, _ => none
  | n44 + 1, v42, σ43 => if c40 < 0 ∨ 4 ≤ c40.toNatClampNeg then none else (if (gr σ43 6 c40.toNatClampNeg) ≤ v42 then some (σ43) else if (((800 : Int32) * c40) + v42) < 0 ∨ 3200 ≤ (((800 : Int32) * c40) + v42).toNatClampNeg then none else if (((800 : Int32) * c40) + v42) < 0 ∨ 3200 ≤ (((800 : Int32) * c40) + v42).toNatClampNeg then none else bnd (some (sr σ43 4 (upd (gr σ43 4) (((800 : Int32) * c40) + v42).toNatClampNeg (gr σ43 5 (((800 : Int32) * c40) + v42).toNatClampNeg)))) fun σ54 => (f_X11_restore_L137 c40 n44 (v42 + (1 : Int32)) σ54))
def f_X11_restore (a1 : Int32) (σ : St) : Option (Int32 × St) :=
  (bnd (f_X11_isRow a1) fun r2 => (if r2 = 0 then (bnd2 (f_X11_refuse (1 : Int32) σ) fun r64 σ65 => some (r64, σ65)) else if a1 < 0 ∨ 4 ≤ a1.toNatClampNeg then none else (if (gr σ 7 a1.toNatClampNeg) = (-1 : Int32) then (bnd2 (f_X11_refuse (2 : Int32) σ) fun r61 σ62 => some (r61, σ62)) else if a1 < 0 ∨ 4 ≤ a1.toNatClampNeg then none else if a1 < 0 ∨ 4 ≤ a1.toNatClampNeg then none else (bnd (f_X11_more (gr σ 6 a1.toNatClampNeg) (gr σ 7 a1.toNatClampNeg)) fun r9 => if a1 < 0 ∨ 4 ≤ a1.toNatClampNeg then none else if a1 < 0 ∨ 4 ≤ a1.toNatClampNeg then none else (bnd (f_X11_less (gr σ 6 a1.toNatClampNeg) (gr σ 7 a1.toNatClampNeg)) fun r13 => (bnd (f_X11_restore_L63 a1 σ FU (r9 - r13) (0 : Int32)) fun o23 => if a1 < 0 ∨ 4 ≤ a1.toNatClampNeg then none else if a1 < 0 ∨ 4 ≤ a1.toNatClampNeg then none else bnd (some (sr σ 6 (upd (gr σ 6) a1.toNatClampNeg (gr σ 7 a1.toNatClampNeg)))) fun σ38 => (bnd (f_X11_restore_L137 a1 FU (0 : Int32) σ38) fun σ49 => (bnd2 (f_X11_told o23 σ49) fun r58 σ59 => some (r58, σ59)))))))))
def f_X11_firstAt (a1 : Int32) (a2 : Int32) (σ : St) : Option (Int32) :=
  if (((800 : Int32) * a1) + a2) < 0 ∨ 3200 ≤ (((800 : Int32) * a1) + a2).toNatClampNeg then none else if (gr σ 4 (((800 : Int32) * a1) + a2).toNatClampNeg) < 0 ∨ 20000 ≤ (gr σ 4 (((800 : Int32) * a1) + a2).toNatClampNeg).toNatClampNeg then none else some (gr σ 1 (gr σ 4 (((800 : Int32) * a1) + a2).toNatClampNeg).toNatClampNeg)
def f_X11_count (a1 : Int32) (σ : St) : Option (Int32 × St) :=
  (bnd (f_X11_isRow a1) fun r2 => (bnd2 (if r2 = 0 then (bnd2 (f_X11_refuse (1 : Int32) σ) fun r8 σ9 => some (r8, σ9)) else if a1 < 0 ∨ 4 ≤ a1.toNatClampNeg then none else (bnd2 (f_X11_told (gr σ 6 a1.toNatClampNeg) σ) fun r12 σ13 => some (r12, σ13))) fun v4 σ5 => some (v4, σ5)))
def f_X11_cardAt (a1 : Int32) (a2 : Int32) (a3 : Int32) (σ : St) : Option (Int32 × St) :=
  (bnd (f_X11_isPlace a1 a2 σ) fun r2 => (if r2 = 0 then (bnd2 (f_X11_refuse (1 : Int32) σ) fun r26 σ27 => some (r26, σ27)) else if (((800 : Int32) * a1) + a2) < 0 ∨ 3200 ≤ (((800 : Int32) * a1) + a2).toNatClampNeg then none else (if a3 = 0 then if (gr σ 4 (((800 : Int32) * a1) + a2).toNatClampNeg) < 0 ∨ 20000 ≤ (gr σ 4 (((800 : Int32) * a1) + a2).toNatClampNeg).toNatClampNeg then none else (bnd2 (f_X11_told (gr σ 1 (gr σ 4 (((800 : Int32) * a1) + a2).toNatClampNeg).toNatClampNeg) σ) fun r7 σ8 => some (r7, σ8)) else (if a3 = 1 then if (gr σ 4 (((800 : Int32) * a1) + a2).toNatClampNeg) < 0 ∨ 20000 ≤ (gr σ 4 (((800 : Int32) * a1) + a2).toNatClampNeg).toNatClampNeg then none else (bnd2 (f_X11_told (gr σ 2 (gr σ 4 (((800 : Int32) * a1) + a2).toNatClampNeg).toNatClampNeg) σ) fun r12 σ13 => some (r12, σ13)) else (if a3 = 2 then (bnd2 (f_X11_told (gr σ 4 (((800 : Int32) * a1) + a2).toNatClampNeg) σ) fun r16 σ17 => some (r16, σ17)) else (bnd2 (f_X11_refuse (2 : Int32) σ) fun r20 σ21 => some (r20, σ21)))))))
def f_X11_placeOf_L15 (c4 : Int32) (c5 : Int32) (σ7 : St) : Nat → Int32 → Option ((Int32 × St) ⊕ (Unit))
  | 0, _ => none
  | n8 + 1, v6 => if c4 < 0 ∨ 4 ≤ c4.toNatClampNeg then none else (if (gr σ7 6 c4.toNatClampNeg) ≤ v6 then some (.inr (())) else if (((800 : Int32) * c4) + v6) < 0 ∨ 3200 ≤ (((800 : Int32) * c4) + v6).toNatClampNeg then none else (if (gr σ7 4 (((800 : Int32) * c4) + v6).toNatClampNeg) = c5 then (bnd2 (f_X11_told v6 σ7) fun r19 σ20 => some (.inl (r19, σ20))) else (f_X11_placeOf_L15 c4 c5 σ7 n8 (v6 + (1 : Int32)))))
def f_X11_placeOf (a1 : Int32) (a2 : Int32) (σ : St) : Option (Int32 × St) :=
  (bnd (f_X11_isRow a1) fun r2 => (if r2 = 0 then (bnd2 (f_X11_refuse (1 : Int32) σ) fun r27 σ28 => some (r27, σ28)) else (bndR id (f_X11_placeOf_L15 a1 a2 σ FU (0 : Int32)) fun u13 => (bnd2 (f_X11_told (-1 : Int32) σ) fun r24 σ25 => some (r24, σ25)))))
def f_X11_rises (a1 : Int32) (a2 : Int32) (σ : St) : Option (Int32) :=
  (bnd (f_X11_firstAt a1 a2 σ) fun r2 => (bnd (f_X11_firstAt a1 (a2 - (1 : Int32)) σ) fun r4 => (bnd (if r2 < r4 then some ((0 : Int32)) else some ((1 : Int32))) fun v6 => (if ¬ (v6 = 0 ∨ v6 = 1) then none else some v6))))
def f_X11_runsOf_L17 (c5 : Int32) (σ8 : St) : Nat → Int32 → Int32 → Option (Int32)
  | 0, _, _ => none
  | n9 + 1, v6, v7 => if c5 < 0 ∨ 4 ≤ c5.toNatClampNeg then none else (if (gr σ8 6 c5.toNatClampNeg) ≤ v7 then some (v6) else (bnd (f_X11_rises c5 v7 σ8) fun r18 => (bnd (if r18 = 0 then some ((1 : Int32)) else some ((0 : Int32))) fun v20 => (f_X11_runsOf_L17 c5 σ8 n9 (v6 + v20) (v7 + (1 : Int32))))))
def f_X11_runsOf (a1 : Int32) (σ : St) : Option (Int32) :=
  if a1 < 0 ∨ 4 ≤ a1.toNatClampNeg then none else (bnd (if (gr σ 6 a1.toNatClampNeg) = 0 then some ((0 : Int32)) else some ((1 : Int32))) fun v3 => (bnd (f_X11_runsOf_L17 a1 σ FU v3 (1 : Int32)) fun o14 => some o14))
def f_X11_longestOf_L7 (c1 : Int32) (σ5 : St) : Nat → Int32 → Int32 → Int32 → Option (Int32)
  | 0, _, _, _ => none
  | n6 + 1, v2, v3, v4 => if c1 < 0 ∨ 4 ≤ c1.toNatClampNeg then none else (if (gr σ5 6 c1.toNatClampNeg) ≤ v4 then some (v2) else (bnd (if v4 ≤ 0 then some ((1 : Int32)) else (bnd (f_X11_rises c1 v4 σ5) fun r18 => (if r18 = 0 then some ((1 : Int32)) else some (v3 + (1 : Int32))))) fun v15 => (bnd (f_X11_more v2 v15) fun r21 => (f_X11_longestOf_L7 c1 σ5 n6 r21 v15 (v4 + (1 : Int32))))))
def f_X11_longestOf (a1 : Int32) (σ : St) : Option (Int32) :=
  (bnd (f_X11_longestOf_L7 a1 σ FU (0 : Int32) (0 : Int32) (0 : Int32)) fun o11 => some o11)
def f_X11_placeFor_L30 (c7 : Int32) (c8 : Int32) (σ10 : St) : Nat → Int32 → Option (Int32)
  | 0, _ => none
  | n11 + 1, v9 => if c7 < 0 ∨ 4 ≤ c7.toNatClampNeg then none else (if (gr σ10 6 c7.toNatClampNeg) ≤ v9 then some (v9) else (bnd (f_X11_firstAt c7 v9 σ10) fun r20 => (if c8 < r20 then some (v9) else (f_X11_placeFor_L30 c7 c8 σ10 n11 (v9 + (1 : Int32))))))
def f_X11_placeFor (a1 : Int32) (a2 : Int32) (σ : St) : Option (Int32 × St) :=
  (bnd (f_X11_isRow a1) fun r2 => (if r2 = 0 then (bnd2 (f_X11_refuse (1 : Int32) σ) fun r30 σ31 => some (r30, σ31)) else (bnd (f_X11_runsOf a1 σ) fun r5 => (if r5 ≤ (1 : Int32) then (bnd (f_X11_placeFor_L30 a1 a2 σ FU (0 : Int32)) fun o16 => (bnd2 (f_X11_told o16 σ) fun r24 σ25 => some (r24, σ25))) else (bnd2 (f_X11_refuse (2 : Int32) σ) fun r27 σ28 => some (r27, σ28))))))
def f_X11_isSorted (a1 : Int32) (σ : St) : Option (Int32 × St) :=
  (bnd (f_X11_isRow a1) fun r2 => (bnd (if r2 = 0 then some ((1 : Int32)) else some ((0 : Int32))) fun v4 => (bnd (if (gi (si σ 10 v4) 10) = 0 then (bnd (f_X11_runsOf a1 (si σ 10 v4)) fun r10 => (if (1 : Int32) < r10 then some ((0 : Int32)) else some ((1 : Int32)))) else some ((0 : Int32))) fun v7 => (if ¬ (v7 = 0 ∨ v7 = 1) then none else some (v7, si σ 10 v4)))))
def f_X11_runs (a1 : Int32) (σ : St) : Option (Int32 × St) :=
  (bnd (f_X11_isRow a1) fun r2 => (bnd2 (if r2 = 0 then (bnd2 (f_X11_refuse (1 : Int32) σ) fun r8 σ9 => some (r8, σ9)) else (bnd (f_X11_runsOf a1 σ) fun r11 => (bnd2 (f_X11_told r11 σ) fun r13 σ14 => some (r13, σ14)))) fun v4 σ5 => some (v4, σ5)))
def f_X11_longestRun (a1 : Int32) (σ : St) : Option (Int32 × St) :=
  (bnd (f_X11_isRow a1) fun r2 => (bnd2 (if r2 = 0 then (bnd2 (f_X11_refuse (1 : Int32) σ) fun r8 σ9 => some (r8, σ9)) else (bnd (f_X11_longestOf a1 σ) fun r11 => (bnd2 (f_X11_told r11 σ) fun r13 σ14 => some (r13, σ14)))) fun v4 σ5 => some (v4, σ5)))
def f_X11_wrongPairs_L30 (c16 : Int32) (c18 : Int32) (σ20 : St) : Nat → Int32 → Int32 → Option (Int32)
  | 0, _, _ => none
  | n21 + 1, v17, v19 => (if c18 ≤ v19 then some (v17) else (bnd (f_X11_firstAt c16 v19 σ20) fun r29 => (bnd (f_X11_firstAt c16 c18 σ20) fun r31 => (bnd (if r29 ≤ r31 then some ((0 : Int32)) else some ((1 : Int32))) fun v33 => (f_X11_wrongPairs_L30 c16 c18 σ20 n21 (v17 + v33) (v19 + (1 : Int32)))))))
def f_X11_wrongPairs_L17 (c4 : Int32) (σ7 : St) : Nat → Int32 → Int32 → Option (Int32)
  | 0, _, _ => none
  | n8 + 1, v5, v6 => if c4 < 0 ∨ 4 ≤ c4.toNatClampNeg then none else (if (gr σ7 6 c4.toNatClampNeg) ≤ v6 then some (v5) else (bnd (f_X11_wrongPairs_L30 c4 v6 σ7 FU v5 (0 : Int32)) fun o26 => (f_X11_wrongPairs_L17 c4 σ7 n8 o26 (v6 + (1 : Int32)))))
def f_X11_wrongPairs (a1 : Int32) (σ : St) : Option (Int32 × St) :=
  (bnd (f_X11_isRow a1) fun r2 => (if r2 = 0 then (bnd2 (f_X11_refuse (1 : Int32) σ) fun r42 σ43 => some (r42, σ43)) else (bnd (f_X11_wrongPairs_L17 a1 σ FU (0 : Int32) (0 : Int32)) fun o13 => (bnd2 (f_X11_told o13 σ) fun r39 σ40 => some (r39, σ40)))))
def f_X11_unlike_L33 (c16 : Int32) (c18 : Int32) (σ21 : St) : Nat → Int32 → Int32 → Option (Int32)
  | 0, _, _ => none
  | n22 + 1, v19, v20 => (if c18 ≤ v20 then some (v19) else (if v19 = 0 then some (v19) else (bnd (f_X11_firstAt c16 v20 σ21) fun r31 => (bnd (f_X11_firstAt c16 c18 σ21) fun r33 => (bnd (if r31 = r33 then some ((0 : Int32)) else some ((1 : Int32))) fun v35 => (f_X11_unlike_L33 c16 c18 σ21 n22 v35 (v20 + (1 : Int32))))))))
def f_X11_unlike_L17 (c4 : Int32) (σ7 : St) : Nat → Int32 → Int32 → Option (Int32)
  | 0, _, _ => none
  | n8 + 1, v5, v6 => if c4 < 0 ∨ 4 ≤ c4.toNatClampNeg then none else (if (gr σ7 6 c4.toNatClampNeg) ≤ v6 then some (v5) else (bnd (f_X11_unlike_L33 c4 v6 σ7 FU (1 : Int32) (0 : Int32)) fun o27 => (bnd (if o27 = 0 then some ((0 : Int32)) else some ((1 : Int32))) fun v40 => (f_X11_unlike_L17 c4 σ7 n8 (v5 + v40) (v6 + (1 : Int32))))))
def f_X11_unlike (a1 : Int32) (σ : St) : Option (Int32 × St) :=
  (bnd (f_X11_isRow a1) fun r2 => (if r2 = 0 then (bnd2 (f_X11_refuse (1 : Int32) σ) fun r48 σ49 => some (r48, σ49)) else (bnd (f_X11_unlike_L17 a1 σ FU (0 : Int32) (0 : Int32)) fun o13 => (bnd2 (f_X11_told o13 σ) fun r45 σ46 => some (r45, σ46)))))
def f_X11_sum_L21 (c6 : Int32) (σ9 : St) : Nat → Int64 → Int32 → Option (Int64)
  | 0, _, _ => none
  | n10 + 1, v7, v8 => (if (gi σ9 10) = 0 then if c6 < 0 ∨ 4 ≤ c6.toNatClampNeg then none else (if (gr σ9 6 c6.toNatClampNeg) ≤ v8 then some (v7) else if (((800 : Int32) * c6) + v8) < 0 ∨ 3200 ≤ (((800 : Int32) * c6) + v8).toNatClampNeg then none else (f_X11_sum_L21 c6 σ9 n10 (v7 + ((v8.toInt64 + (1 : Int64)) * (((gr σ9 4 (((800 : Int32) * c6) + v8).toNatClampNeg).toInt64) + (1 : Int64)))) (v8 + (1 : Int32)))) else some (v7))
def f_X11_sum (a1 : Int32) (σ : St) : Option (Int64 × St) :=
  (bnd (f_X11_isRow a1) fun r2 => (bnd (if r2 = 0 then some ((1 : Int32)) else some ((0 : Int32))) fun v4 => (bnd (f_X11_sum_L21 a1 (si σ 10 v4) FU (0 : Int64) (0 : Int32)) fun o15 => some (o15, si σ 10 v4))))
def f_X11_compare_L22 (c10 : Int32) (c11 : Int32) (σ13 : St) : Nat → Int32 → Option ((Int32 × St) ⊕ (Unit))
  | 0, _ => none
  | n14 + 1, v12 => if c10 < 0 ∨ 4 ≤ c10.toNatClampNeg then none else if c11 < 0 ∨ 4 ≤ c11.toNatClampNeg then none else (bnd (f_X11_less (gr σ13 6 c10.toNatClampNeg) (gr σ13 6 c11.toNatClampNeg)) fun r23 => (if r23 ≤ v12 then some (.inr (())) else (bnd (f_X11_firstAt c10 v12 σ13) fun r26 => (bnd (f_X11_firstAt c11 v12 σ13) fun r28 => (if r26 = r28 then (f_X11_compare_L22 c10 c11 σ13 n14 (v12 + (1 : Int32))) else (bnd (f_X11_firstAt c10 v12 σ13) fun r31 => (bnd (f_X11_firstAt c11 v12 σ13) fun r33 => (bnd (if r33 ≤ r31 then some ((1 : Int32)) else some ((-1 : Int32))) fun v35 => (bnd2 (f_X11_told v35 σ13) fun r38 σ39 => some (.inl (r38, σ39)))))))))))
def f_X11_compare (a1 : Int32) (a2 : Int32) (σ : St) : Option (Int32 × St) :=
  (bnd (f_X11_isRow a1) fun r2 => (if r2 = 0 then (bnd2 (f_X11_refuse (1 : Int32) σ) fun r5 σ6 => some (r5, σ6)) else (bnd (f_X11_isRow a2) fun r8 => (if r8 = 0 then (bnd2 (f_X11_refuse (1 : Int32) σ) fun r56 σ57 => some (r56, σ57)) else (bndR id (f_X11_compare_L22 a1 a2 σ FU (0 : Int32)) fun u19 => if a1 < 0 ∨ 4 ≤ a1.toNatClampNeg then none else if a2 < 0 ∨ 4 ≤ a2.toNatClampNeg then none else (bnd (if (gr σ 6 a2.toNatClampNeg) ≤ (gr σ 6 a1.toNatClampNeg) then if a1 < 0 ∨ 4 ≤ a1.toNatClampNeg then none else if a2 < 0 ∨ 4 ≤ a2.toNatClampNeg then none else (if (gr σ 6 a1.toNatClampNeg) ≤ (gr σ 6 a2.toNatClampNeg) then some ((0 : Int32)) else some ((1 : Int32))) else some ((-1 : Int32))) fun v46 => (bnd2 (f_X11_told v46 σ) fun r52 σ53 => some (r52, σ53))))))))
def f_X11_middle_L30 (c6 : Int32) : Nat → Int32 → St → Option (St)
  | 0, _, _ => none
  | n9 + 1, v7, σ8 => if c6 < 0 ∨ 4 ≤ c6.toNatClampNeg then none else (if (gr σ8 6 c6.toNatClampNeg) ≤ v7 then some (σ8) else if (((800 : Int32) * c6) + v7) < 0 ∨ 3200 ≤ (((800 : Int32) * c6) + v7).toNatClampNeg then none else if v7 < 0 ∨ 3200 ≤ v7.toNatClampNeg then none else bnd (some (sr σ8 12 (upd (gr σ8 12) v7.toNatClampNeg (gr σ8 4 (((800 : Int32) * c6) + v7).toNatClampNeg)))) fun σ19 => (f_X11_middle_L30 c6 n9 (v7 + (1 : Int32)) σ19))
def f_X11_middle (a1 : Int32) (σ : St) : Option (Int32 × St) :=
  (bnd (f_X11_isRow a1) fun r2 => (if r2 = 0 then (bnd2 (f_X11_refuse (1 : Int32) σ) fun r36 σ37 => some (r36, σ37)) else if a1 < 0 ∨ 4 ≤ a1.toNatClampNeg then none else (if (gr σ 6 a1.toNatClampNeg) = 0 then (bnd2 (f_X11_refuse (2 : Int32) σ) fun r33 σ34 => some (r33, σ34)) else (bnd (f_X11_middle_L30 a1 FU (0 : Int32) σ) fun σ14 => if a1 < 0 ∨ 4 ≤ a1.toNatClampNeg then none else (bnd2 (f_X11_sorts (gr σ14 6 a1.toNatClampNeg) (0 : Int32) σ14) fun r24 σ25 => if a1 < 0 ∨ 4 ≤ a1.toNatClampNeg then none else if (((gr σ25 6 a1.toNatClampNeg) - (1 : Int32)) / (2 : Int32)) < 0 ∨ 3200 ≤ (((gr σ25 6 a1.toNatClampNeg) - (1 : Int32)) / (2 : Int32)).toNatClampNeg then none else if (gr σ25 12 (((gr σ25 6 a1.toNatClampNeg) - (1 : Int32)) / (2 : Int32)).toNatClampNeg) < 0 ∨ 20000 ≤ (gr σ25 12 (((gr σ25 6 a1.toNatClampNeg) - (1 : Int32)) / (2 : Int32)).toNatClampNeg).toNatClampNeg then none else (bnd2 (f_X11_told (gr σ25 1 (gr σ25 12 (((gr σ25 6 a1.toNatClampNeg) - (1 : Int32)) / (2 : Int32)).toNatClampNeg).toNatClampNeg) σ25) fun r30 σ31 => some (r30, σ31)))))))
def f_X11_mean_L39 (c9 : Int32) (σ12 : St) : Nat → Int64 → Int32 → Option (Int64)
  | 0, _, _ => none
  | n13 + 1, v10, v11 => if c9 < 0 ∨ 4 ≤ c9.toNatClampNeg then none else (if (gr σ12 6 c9.toNatClampNeg) ≤ v11 then some (v10) else (bnd (f_X11_firstAt c9 v11 σ12) fun r22 => (f_X11_mean_L39 c9 σ12 n13 (v10 + r22.toInt64) (v11 + (1 : Int32)))))
def f_X11_mean (a1 : Int32) (σ : St) : Option (UInt64 × St) :=
  (bnd (f_X11_isRow a1) fun r2 => (bnd (if r2 = 0 then some ((1 : Int32)) else some ((0 : Int32))) fun v4 => (if (gi (si σ 10 v4) 10) = 0 then if a1 < 0 ∨ 4 ≤ a1.toNatClampNeg then none else (if (gr (si σ 10 v4) 6 a1.toNatClampNeg) = 0 then some ((0 : UInt64), si σ 10 v4) else (bnd (f_X11_mean_L39 a1 (si σ 10 v4) FU (0 : Int64) (0 : Int32)) fun o18 => if a1 < 0 ∨ 4 ≤ a1.toNatClampNeg then none else if ¬ ((FP.ddiv (FP.l2d o18) (FP.i2d (gr (si σ 10 v4) 6 a1.toNatClampNeg))) &&& 0x7fffffffffffffff ≤ 0x7ff0000000000000) then none else some (FP.ddiv (FP.l2d o18) (FP.i2d (gr (si σ 10 v4) 6 a1.toNatClampNeg)), si σ 10 v4))) else some ((0 : UInt64), si σ 10 v4))))
def f_X11_risingShare (a1 : Int32) (σ : St) : Option (UInt32 × St) :=
  (bnd (f_X11_isRow a1) fun r2 => (bnd (if r2 = 0 then some ((1 : Int32)) else some ((0 : Int32))) fun v4 => (bnd (if (gi (si σ 10 v4) 10) = 0 then if a1 < 0 ∨ 4 ≤ a1.toNatClampNeg then none else (if (gr (si σ 10 v4) 6 a1.toNatClampNeg) = 0 then some ((0 : UInt32)) else (bnd (f_X11_longestOf a1 (si σ 10 v4)) fun r12 => if a1 < 0 ∨ 4 ≤ a1.toNatClampNeg then none else if ¬ ((FP.fdiv (FP.i2f r12) (FP.i2f (gr (si σ 10 v4) 6 a1.toNatClampNeg))) &&& 0x7fffffff ≤ 0x7f800000) then none else some (FP.fdiv (FP.i2f r12) (FP.i2f (gr (si σ 10 v4) 6 a1.toNatClampNeg))))) else some ((0 : UInt32))) fun v7 => some (v7, si σ 10 v4))))
def f_X11_loads_L2 (c1 : Int32) : Nat → Int32 → St → Option (St)
  | 0, _, _ => none
  | n4 + 1, v2, σ3 => if c1 < 0 ∨ 4 ≤ c1.toNatClampNeg then none else (if (gr σ3 6 c1.toNatClampNeg) ≤ v2 then some (σ3) else if (((800 : Int32) * c1) + v2) < 0 ∨ 3200 ≤ (((800 : Int32) * c1) + v2).toNatClampNeg then none else if v2 < 0 ∨ 3200 ≤ v2.toNatClampNeg then none else bnd (some (sr σ3 12 (upd (gr σ3 12) v2.toNatClampNeg (gr σ3 4 (((800 : Int32) * c1) + v2).toNatClampNeg)))) fun σ14 => (f_X11_loads_L2 c1 n4 (v2 + (1 : Int32)) σ14))
def f_X11_loads (a1 : Int32) (σ : St) : Option (St) :=
  (bnd (f_X11_loads_L2 a1 FU (0 : Int32) σ) fun σ9 => some σ9)
def f_X11_isAsChosen_L9 (c3 : Int32) : Nat → Int32 → St → Option (St)
  | 0, _, _ => none
  | n6 + 1, v4, σ5 => (if c3 ≤ v4 then some (σ5) else if v4 < 0 ∨ 800 ≤ v4.toNatClampNeg then none else bnd (some (sr σ5 26 (upd (gr σ5 26) v4.toNatClampNeg (vp_nar .boolean (0 : Int32))))) fun σ14 => (f_X11_isAsChosen_L9 c3 n6 (v4 + (1 : Int32)) σ14))
def f_X11_isAsChosen_L40 (c28 : Int32) (c29 : Int32) (σ33 : St) : Nat → Int32 → Int32 → Option (Int32)
  | 0, _, _ => none
  | n34 + 1, v31, v32 => (if c29 ≤ v32 then some (v31) else if v32 < 0 ∨ 800 ≤ v32.toNatClampNeg then none else (bnd (if (gr σ33 26 v32.toNatClampNeg) = 0 then (if v31 = (-1 : Int32) then some (v32) else (bnd (f_X11_firstAt c28 v32 σ33) fun r47 => (bnd (f_X11_firstAt c28 v31 σ33) fun r49 => (if r49 ≤ r47 then some (v31) else some (v32))))) else some (v31)) fun v43 => (f_X11_isAsChosen_L40 c28 c29 σ33 n34 v43 (v32 + (1 : Int32)))))
def f_X11_isAsChosen_L29 (c17 : Int32) (c18 : Int32) : Nat → Int32 → St → Option ((Int32 × St) ⊕ (St))
  | 0, _, _ => none
  | n21 + 1, v19, σ20 => (if c18 ≤ v19 then some (.inr (σ20)) else (bnd (f_X11_isAsChosen_L40 c17 c18 σ20 FU (-1 : Int32) (0 : Int32)) fun o39 => if v19 < 0 ∨ 3200 ≤ v19.toNatClampNeg then none else if (((800 : Int32) * c17) + o39) < 0 ∨ 3200 ≤ (((800 : Int32) * c17) + o39).toNatClampNeg then none else (if (gr σ20 12 v19.toNatClampNeg) = (gr σ20 4 (((800 : Int32) * c17) + o39).toNatClampNeg) then if o39 < 0 ∨ 800 ≤ o39.toNatClampNeg then none else bnd (some (sr σ20 26 (upd (gr σ20 26) o39.toNatClampNeg (vp_nar .boolean (1 : Int32))))) fun σ57 => (f_X11_isAsChosen_L29 c17 c18 n21 (v19 + (1 : Int32)) σ57) else some (.inl ((0 : Int32), σ20)))))
def f_X11_isAsChosen (a1 : Int32) (σ : St) : Option (Int32 × St) :=
  if a1 < 0 ∨ 4 ≤ a1.toNatClampNeg then none else (bnd (f_X11_isAsChosen_L9 (gr σ 6 a1.toNatClampNeg) FU (0 : Int32) σ) fun σ11 => (bndR id (f_X11_isAsChosen_L29 a1 (gr σ 6 a1.toNatClampNeg) FU (0 : Int32) σ11) fun σ26 => some ((1 : Int32), σ26)))
def f_X11_isTrue_L55 (c21 : Int32) : Nat → Int32 → St → Option (St)
  | 0, _, _ => none
  | n25 + 1, v23, σ24 => (if c21 ≤ v23 then some (σ24) else if v23 < 0 ∨ 3200 ≤ v23.toNatClampNeg then none else if v23 < 0 ∨ 800 ≤ v23.toNatClampNeg then none else bnd (some (sr σ24 27 (upd (gr σ24 27) v23.toNatClampNeg (gr σ24 12 v23.toNatClampNeg)))) fun σ34 => (f_X11_isTrue_L55 c21 n25 (v23 + (1 : Int32)) σ34))
def f_X11_isTrue_L105 (c45 : Int32) (σ48 : St) : Nat → Int32 → Option ((Int32 × St) ⊕ (Unit))
  | 0, _ => none
  | n49 + 1, v47 => (if c45 ≤ v47 then some (.inr (())) else if v47 < 0 ∨ 3200 ≤ v47.toNatClampNeg then none else if v47 < 0 ∨ 800 ≤ v47.toNatClampNeg then none else (if (gr σ48 12 v47.toNatClampNeg) = (gr σ48 27 v47.toNatClampNeg) then (f_X11_isTrue_L105 c45 σ48 n49 (v47 + (1 : Int32))) else some (.inl ((0 : Int32), σ48))))
def f_X11_isTrue (a1 : Int32) (σ : St) : Option (Int32 × St) :=
  if a1 < 0 ∨ 4 ≤ a1.toNatClampNeg then none else (bnd (f_X11_loads a1 σ) fun σ3 => (bnd2 (f_X11_sorts (gr σ 6 a1.toNatClampNeg) (0 : Int32) σ3) fun r5 σ6 => (bnd2 (f_X11_isAsChosen a1 σ6) fun r8 σ9 => (if r8 = 0 then some ((0 : Int32), σ9) else (bnd2 (f_X11_sorts (gr σ 6 a1.toNatClampNeg) (0 : Int32) σ9) fun r12 σ13 => (if r12 = 0 then (bnd (f_X11_loads a1 σ13) fun σ16 => (bnd2 (f_X11_sorts (gr σ 6 a1.toNatClampNeg) (3 : Int32) σ16) fun r18 σ19 => (bnd (f_X11_isTrue_L55 (gr σ 6 a1.toNatClampNeg) FU (0 : Int32) σ19) fun σ30 => (bnd (f_X11_loads a1 σ30) fun σ38 => (bnd2 (f_X11_sorts (gr σ 6 a1.toNatClampNeg) (2 : Int32) σ38) fun r40 σ41 => (bnd2 (f_X11_sorts (gr σ 6 a1.toNatClampNeg) (0 : Int32) σ41) fun r43 σ44 => (bndR id (f_X11_isTrue_L105 (gr σ 6 a1.toNatClampNeg) σ44 FU (0 : Int32)) fun u54 => (bnd (if ((r5 + r18) + (r40 + r43)) < 0 then some ((0 : Int32)) else some ((1 : Int32))) fun v62 => (if ¬ (v62 = 0 ∨ v62 = 1) then none else some (v62, σ44)))))))))) else some ((0 : Int32), σ13)))))))
def f_X11_errors_L4 : Nat → Int32 → Int32 → St → Option (Int32 × St)
  | 0, _, _, _ => none
  | n4 + 1, v1, v2, σ3 => (if (4 : Int32) ≤ v2 then some (v1, σ3) else (bnd2 (f_X11_isTrue v2 σ3) fun r13 σ14 => (bnd (if r13 = 0 then some ((1 : Int32)) else some ((0 : Int32))) fun v16 => (f_X11_errors_L4 n4 (v1 + v16) (v2 + (1 : Int32)) σ14))))
def f_X11_errors (σ : St) : Option (Int32 × St) :=
  (bnd2 (f_X11_errors_L4 FU (0 : Int32) (0 : Int32) σ) fun o10 σ9 => (bnd2 (f_X11_told o10 σ9) fun r21 σ22 => some (r21, σ22)))
