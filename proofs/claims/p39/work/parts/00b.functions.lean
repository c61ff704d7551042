/-! the methods as functions over states, by program out of the bytecode -/
def f_X1_make (a1 : Int32) (a2 : Int32) (σ : St) : Option (Int32 × St) :=
  (if (gi σ 10) < (20000 : Int32) then if (gi σ 10) < 0 ∨ 20000 ≤ (gi σ 10).toNatClampNeg then none else bnd (some (sr σ 2 (upd (gr σ 2) (gi σ 10).toNatClampNeg a1))) fun σ_3 => if (gi σ_3 10) < 0 ∨ 20000 ≤ (gi σ_3 10).toNatClampNeg then none else bnd (some (sr σ_3 3 (upd (gr σ_3 3) (gi σ_3 10).toNatClampNeg a2))) fun σ_6 => some ((gi (si σ_6 10 ((gi σ_6 10) + (1 : Int32))) 10) - (1 : Int32), si σ_6 10 ((gi σ_6 10) + (1 : Int32))) else some ((-1 : Int32), σ))
def f_X1_firstOf (a1 : Int32) (σ : St) : Option (Int32) :=
  (bnd (if a1 < 0 then some ((0 : Int32)) else (if (gi σ 10) ≤ a1 then some ((0 : Int32)) else if a1 < 0 ∨ 20000 ≤ a1.toNatClampNeg then none else some (gr σ 2 a1.toNatClampNeg))) fun v_2 => some v_2)
def f_X1_secondOf (a1 : Int32) (σ : St) : Option (Int32) :=
  (bnd (if a1 < 0 then some ((0 : Int32)) else (if (gi σ 10) ≤ a1 then some ((0 : Int32)) else if a1 < 0 ∨ 20000 ≤ a1.toNatClampNeg then none else some (gr σ 3 a1.toNatClampNeg))) fun v_2 => some v_2)
def f_X10_rest (a1 : Int32) (a2 : Int32) : Option (Int32) :=
  (bnd (if a2 ≤ 0 then some ((0 : Int32)) else if a2 = 0 then none else some (a1 - a1 / a2 * a2)) fun v_2 => some v_2)
def f_X2_draw (a1 : Int32) (σ : St) : Option (Int32 × St) :=
  bnd (some (si σ 112 (((gi σ 112) * (1103515245 : Int32)) + (12345 : Int32)))) fun σ_1 => (bnd (f_X10_rest (((gi σ_1 112).toUInt32 >>> ((16 : Int32).toUInt32 &&& Int32.toUInt32 31)).toInt32) a1) fun r_4 => some (r_4, σ_1))
def f_X9_alphabetOf (a1 : Int32) : Option (Int32) :=
  (if a1 < (97 : Int32) then (bnd (if a1 < (48 : Int32) then some ((-1 : Int32)) else (if (57 : Int32) < a1 then some ((-1 : Int32)) else some ((1 : Int32)))) fun v_3 => some v_3) else (if (122 : Int32) < a1 then (bnd (if a1 < (48 : Int32) then some ((-1 : Int32)) else (if (57 : Int32) < a1 then some ((-1 : Int32)) else some ((1 : Int32)))) fun v_9 => some v_9) else some (0 : Int32)))
def f_X9_toNextToken_L8 : Nat → St → Option (St)
  | 0, _ => none
  | n_2 + 1, σ_1 => (if (gi σ_1 81) ≤ (gi σ_1 82) then some (σ_1) else if (gi σ_1 82) < 0 ∨ 400 ≤ (gi σ_1 82).toNatClampNeg then none else (if (gr σ_1 11 (gi σ_1 82).toNatClampNeg) = (32 : Int32) then (f_X9_toNextToken_L8 n_2 (si σ_1 82 ((gi σ_1 82) + (1 : Int32)))) else some (σ_1)))
def f_X9_toNextToken_L89 (c_18 : Int32) : Nat → St → Option (St)
  | 0, _ => none
  | n_20 + 1, σ_19 => (if (gi σ_19 81) ≤ (gi σ_19 83) then some (σ_19) else (if c_18 = (-1 : Int32) then some (σ_19) else if (gi σ_19 83) < 0 ∨ 400 ≤ (gi σ_19 83).toNatClampNeg then none else (bnd (f_X9_alphabetOf (gr σ_19 11 (gi σ_19 83).toNatClampNeg)) fun r_30 => (if r_30 = c_18 then (f_X9_toNextToken_L89 c_18 n_20 (si σ_19 83 ((gi σ_19 83) + (1 : Int32)))) else some (σ_19)))))
def f_X9_toNextToken (σ : St) : Option (St) :=
  (bnd (f_X9_toNextToken_L8 FU (si σ 82 (gi σ 83))) fun σ_7 => (if (gi (si σ_7 83 (gi σ_7 82)) 82) < (gi (si σ_7 83 (gi σ_7 82)) 81) then if (gi (si σ_7 83 (gi σ_7 82)) 82) < 0 ∨ 400 ≤ (gi (si σ_7 83 (gi σ_7 82)) 82).toNatClampNeg then none else (bnd (f_X9_alphabetOf (gr (si σ_7 83 (gi σ_7 82)) 11 (gi (si σ_7 83 (gi σ_7 82)) 82).toNatClampNeg)) fun r_15 => bnd (some (si (si σ_7 83 (gi σ_7 82)) 83 ((gi (si σ_7 83 (gi σ_7 82)) 83) + (1 : Int32)))) fun σ_16 => (bnd (f_X9_toNextToken_L89 r_15 FU σ_16) fun σ_25 => some σ_25)) else some (si σ_7 83 (gi σ_7 82))))
def f_X9_toFirstToken (σ : St) : Option (St) :=
  (bnd (f_X9_toNextToken (si σ 83 (0 : Int32))) fun σ_2 => some σ_2)
def f_X9_isAtEnd (σ : St) : Option (Int32) :=
  (bnd (if (gi σ 82) < (gi σ 81) then some ((0 : Int32)) else some ((1 : Int32))) fun v_2 => (if ¬ (v_2 = 0 ∨ v_2 = 1) then none else some v_2))
def f_X9_isToken_L23 (c_2 : Nat) (σ_5 : St) : Nat → Int32 → Option ((Int32) ⊕ (Unit))
  | 0, _ => none
  | n_6 + 1, v_4 => (if (gi σ_5 83) ≤ v_4 then some (.inr (())) else if v_4 < 0 ∨ 400 ≤ v_4.toNatClampNeg then none else if (v_4 - (gi σ_5 82)) < 0 ∨ zSl.getD c_2 0 ≤ (v_4 - (gi σ_5 82)).toNatClampNeg then none else (if (gr σ_5 11 v_4.toNatClampNeg) = (sCh c_2 (v_4 - (gi σ_5 82))) then (f_X9_isToken_L23 c_2 σ_5 n_6 (v_4 + (1 : Int32))) else some (.inl (0 : Int32))))
def f_X9_isToken (a1 : Nat) (σ : St) : Option (Int32) :=
  (if ((gi σ 83) - (gi σ 82)) = (sLen a1) then (bndR id (f_X9_isToken_L23 a1 σ FU (gi σ 82)) fun u_11 => some (1 : Int32)) else some (0 : Int32))
def f_X5_readToken (a1 : Nat) (σ : St) : Option (Int32 × St) :=
  (bnd (f_X9_isToken a1 σ) fun r_2 => (if r_2 = 0 then some ((0 : Int32), σ) else (bnd (f_X9_toNextToken σ) fun σ_5 => some ((1 : Int32), σ_5))))
def f_X5_readKind_L2 (c_1 : Nat) : Nat → Int32 → St → Option ((Int32 × St) ⊕ (St))
  | 0, _, _ => none
  | n_5 + 1, v_3, σ_4 => (if (6 : Int32) ≤ v_3 then some (.inr (σ_4)) else if v_3 < 0 ∨ 6 ≤ v_3.toNatClampNeg then none else (bnd2 (f_X5_readToken v_3.toNatClampNeg σ_4) fun r_14 σ_15 => (if r_14 = 0 then (f_X5_readKind_L2 c_1 n_5 (v_3 + (1 : Int32)) σ_15) else if v_3 < 0 ∨ 6 ≤ v_3.toNatClampNeg then none else some (.inl ((1 : Int32), sp σ_15 (8 * c_1) v_3.toNatClampNeg)))))
def f_X5_readKind (a1 : Nat) (σ : St) : Option (Int32 × St) :=
  (bndR id (f_X5_readKind_L2 a1 FU (0 : Int32) σ) fun σ_10 => some ((0 : Int32), σ_10))
def f_X9_valueOfNumber_L45 (σ_11 : St) : Nat → Int32 → Int32 → Option (Int32)
  | 0, _, _ => none
  | n_12 + 1, v_9, v_10 => (if (gi σ_11 83) ≤ v_10 then some (v_9) else if v_10 < 0 ∨ 400 ≤ v_10.toNatClampNeg then none else (f_X9_valueOfNumber_L45 σ_11 n_12 ((v_9 * (10 : Int32)) + ((gr σ_11 11 v_10.toNatClampNeg) - (48 : Int32))) (v_10 + (1 : Int32))))
def f_X9_valueOfNumber (σ : St) : Option (Int32) :=
  (bnd (f_X9_isAtEnd σ) fun r_2 => (if r_2 = 0 then if (gi σ 82) < 0 ∨ 400 ≤ (gi σ 82).toNatClampNeg then none else (bnd (f_X9_alphabetOf (gr σ 11 (gi σ 82).toNatClampNeg)) fun r_6 => (if r_6 = (1 : Int32) then (if ((gi σ 83) - (gi σ 82)) ≤ (4 : Int32) then (bnd (f_X9_valueOfNumber_L45 σ FU (0 : Int32) (gi σ 82)) fun o_17 => some o_17) else some (-1 : Int32)) else some (-1 : Int32))) else some (-1 : Int32)))
def f_X5_readNumber (a1 : Int32) (a2 : Int32) (σ : St) : Option (Int32 × St) :=
  (bnd (f_X9_valueOfNumber σ) fun r_2 => (if r_2 < a1 then some ((-1 : Int32), σ) else (if r_2 ≤ a2 then (bnd (f_X9_toNextToken σ) fun σ_6 => some (r_2, σ_6)) else some ((-1 : Int32), σ))))
def f_X5_readCards (a1 : Nat) (σ : St) : Option (Int32 × St) :=
  (bnd2 (f_X5_readNumber (1 : Int32) (400 : Int32) σ) fun r_2 σ_3 => (bnd (if (gi (si σ_3 (8 * a1 + 1) r_2) (8 * a1 + 1)) = (-1 : Int32) then some ((0 : Int32)) else some ((1 : Int32))) fun v_5 => (if ¬ (v_5 = 0 ∨ v_5 = 1) then none else some (v_5, si σ_3 (8 * a1 + 1) r_2))))
def f_X5_readStart (a1 : Nat) (σ : St) : Option (Int32 × St) :=
  (bnd2 (f_X5_readToken 7 σ) fun r_2 σ_3 => (bnd2 (f_X5_readNumber (0 : Int32) (9999 : Int32) σ_3) fun r_5 σ_6 => (bnd (if r_2 = 0 then some (r_5) else some (-r_5)) fun v_8 => (bnd (if r_5 = (-1 : Int32) then some ((0 : Int32)) else some ((1 : Int32))) fun v_11 => (if ¬ (v_11 = 0 ∨ v_11 = 1) then none else some (v_11, si σ_6 (8 * a1 + 2) v_8))))))
def f_X5_readStep (a1 : Nat) (σ : St) : Option (Int32 × St) :=
  if 6 ≤ gp σ (8 * a1) then none else (bnd2 (if (kStp (gp σ (8 * a1))) = 0 then some ((0 : Int32), σ) else (bnd2 (f_X5_readNumber (0 : Int32) (999 : Int32) σ) fun r_7 σ_8 => some (r_7, σ_8))) fun v_3 σ_4 => (bnd (if (gi (si σ_4 (8 * a1 + 3) v_3) (8 * a1 + 3)) = (-1 : Int32) then some ((0 : Int32)) else some ((1 : Int32))) fun v_10 => (if ¬ (v_10 = 0 ∨ v_10 = 1) then none else some (v_10, si σ_4 (8 * a1 + 3) v_3))))
def f_X5_readLength (a1 : Nat) (σ : St) : Option (Int32 × St) :=
  if 6 ≤ gp σ (8 * a1) then none else (bnd2 (if (kLen (gp σ (8 * a1))) = 0 then some ((0 : Int32), σ) else (bnd2 (f_X5_readNumber (1 : Int32) (99 : Int32) σ) fun r_7 σ_8 => some (r_7, σ_8))) fun v_3 σ_4 => (bnd (if (gi (si σ_4 (8 * a1 + 4) v_3) (8 * a1 + 4)) = (-1 : Int32) then some ((0 : Int32)) else some ((1 : Int32))) fun v_10 => (if ¬ (v_10 = 0 ∨ v_10 = 1) then none else some (v_10, si σ_4 (8 * a1 + 4) v_3))))
def f_X5_readDivisor (a1 : Nat) (σ : St) : Option (Int32 × St) :=
  (bnd2 (f_X5_readToken 8 σ) fun r_2 σ_3 => (bnd2 (if r_2 = 0 then some ((0 : Int32), σ_3) else (bnd2 (f_X5_readNumber (1 : Int32) (99 : Int32) σ_3) fun r_9 σ_10 => some (r_9, σ_10))) fun v_5 σ_6 => (bnd (if (gi (si σ_6 (8 * a1 + 5) v_5) (8 * a1 + 5)) = (-1 : Int32) then some ((0 : Int32)) else some ((1 : Int32))) fun v_12 => (if ¬ (v_12 = 0 ∨ v_12 = 1) then none else some (v_12, si σ_6 (8 * a1 + 5) v_5)))))
def f_X5_readRun (a1 : Nat) (σ : St) : Option (Int32 × St) :=
  (bnd2 (f_X5_readKind a1 σ) fun r_2 σ_3 => (bnd2 (if r_2 = 0 then some ((0 : Int32), σ_3) else (bnd2 (f_X5_readCards a1 σ_3) fun r_9 σ_10 => (if r_9 = 0 then some ((0 : Int32), σ_10) else (bnd2 (f_X5_readStart a1 σ_10) fun r_13 σ_14 => (if r_13 = 0 then some ((0 : Int32), σ_14) else (bnd2 (f_X5_readStep a1 σ_14) fun r_17 σ_18 => (if r_17 = 0 then some ((0 : Int32), σ_18) else (bnd2 (f_X5_readLength a1 σ_18) fun r_21 σ_22 => (if r_21 = 0 then some ((0 : Int32), σ_22) else (bnd2 (f_X5_readDivisor a1 σ_22) fun r_25 σ_26 => (if r_25 = 0 then some ((0 : Int32), σ_26) else (bnd2 (f_X5_readToken 6 σ_26) fun r_29 σ_30 => (if r_29 = 0 then some ((0 : Int32), σ_30) else some ((1 : Int32), σ_30)))))))))))))) fun v_5 σ_6 => (if ¬ (v_5 = 0 ∨ v_5 = 1) then none else some (v_5, σ_6))))
def f_X5_readText_L12 : Nat → St → Option ((Int32 × St) ⊕ (St))
  | 0, _ => none
  | n_4 + 1, σ_3 => (bnd (f_X9_isAtEnd σ_3) fun r_11 => (if r_11 = 0 then (if (50 : Int32) ≤ (gi σ_3 98) then some (.inr (σ_3)) else if (gi σ_3 98) < 0 ∨ 50 ≤ (gi σ_3 98).toNatClampNeg then none else (bnd2 (f_X5_readRun (64 + (gi σ_3 98).toNatClampNeg) σ_3) fun r_16 σ_17 => (if r_16 = 0 then some (.inl (gi σ_17 82, σ_17)) else (f_X5_readText_L12 n_4 (si σ_17 98 ((gi σ_17 98) + (1 : Int32))))))) else some (.inr (σ_3))))
def f_X5_readText (σ : St) : Option (Int32 × St) :=
  (bnd (f_X9_toFirstToken (si σ 98 (0 : Int32))) fun σ_2 => (bndR id (f_X5_readText_L12 FU σ_2) fun σ_9 => some ((-1 : Int32), σ_9)))
def f_X5_cardsOfAllRuns_L4 (σ_3 : St) : Nat → Int32 → Int32 → Option (Int32)
  | 0, _, _ => none
  | n_4 + 1, v_1, v_2 => (if (gi σ_3 98) ≤ v_2 then some (v_1) else if v_2 < 0 ∨ 50 ≤ v_2.toNatClampNeg then none else (f_X5_cardsOfAllRuns_L4 σ_3 n_4 (v_1 + (gi σ_3 (8 * (64 + v_2.toNatClampNeg) + 1))) (v_2 + (1 : Int32))))
def f_X5_cardsOfAllRuns (σ : St) : Option (Int32) :=
  (bnd (f_X5_cardsOfAllRuns_L4 σ FU (0 : Int32) (0 : Int32)) fun o_9 => some o_9)
def f_X6_insert (a0 : Nat) (a1 : Int32) (a2 : Int32) (σ : St) : Option (St) :=
  (if (800 : Int32) ≤ (gi σ (8 * a0 + 1)) then some σ else (if a1 < 0 then some σ else (if a1 ≤ (gi σ (8 * a0 + 1)) then if a1 < 0 then none else if (a1 + (1 : Int32)) < 0 then none else if ((gi σ (8 * a0 + 1)) - a1) < 0 then none else if 800 < a1.toNatClampNeg + ((gi σ (8 * a0 + 1)) - a1).toNatClampNeg then none else if 800 < (a1 + (1 : Int32)).toNatClampNeg + ((gi σ (8 * a0 + 1)) - a1).toNatClampNeg then none else bnd (some (sr σ (a0 + 16) (va_cpy (gr σ (a0 + 16)) (gr σ (a0 + 16)) a1.toNatClampNeg (a1 + (1 : Int32)).toNatClampNeg ((gi σ (8 * a0 + 1)) - a1).toNatClampNeg))) fun σ_9 => if a1 < 0 ∨ 800 ≤ a1.toNatClampNeg then none else bnd (some (sr σ_9 (a0 + 16) (upd (gr σ_9 (a0 + 16)) a1.toNatClampNeg a2))) fun σ_12 => bnd (some (si σ_12 (8 * a0 + 1) ((gi σ_12 (8 * a0 + 1)) + (1 : Int32)))) fun σ_14 => some σ_14 else some σ)))
def f_X6_append (a0 : Nat) (a1 : Int32) (σ : St) : Option (St) :=
  (bnd (f_X6_insert a0 (gi σ (8 * a0 + 1)) a1 σ) fun σ_2 => some σ_2)
def f_X6_takeOut (a0 : Nat) (a1 : Int32) (σ : St) : Option (Int32 × St) :=
  (if a1 < 0 then some ((-1 : Int32), σ) else (if a1 < (gi σ (8 * a0 + 1)) then if a1 < 0 ∨ 800 ≤ a1.toNatClampNeg then none else bnd (some (si σ (8 * a0 + 1) ((gi σ (8 * a0 + 1)) - (1 : Int32)))) fun σ_4 => if (a1 + (1 : Int32)) < 0 then none else if a1 < 0 then none else if ((gi σ_4 (8 * a0 + 1)) - a1) < 0 then none else if 800 < (a1 + (1 : Int32)).toNatClampNeg + ((gi σ_4 (8 * a0 + 1)) - a1).toNatClampNeg then none else if 800 < a1.toNatClampNeg + ((gi σ_4 (8 * a0 + 1)) - a1).toNatClampNeg then none else bnd (some (sr σ_4 (a0 + 16) (va_cpy (gr σ_4 (a0 + 16)) (gr σ_4 (a0 + 16)) (a1 + (1 : Int32)).toNatClampNeg a1.toNatClampNeg ((gi σ_4 (8 * a0 + 1)) - a1).toNatClampNeg))) fun σ_11 => some (gr σ (a0 + 16) a1.toNatClampNeg, σ_11) else some ((-1 : Int32), σ)))
def f_X6_reverse_L2 (c_1 : Nat) : Nat → Int32 → St → Option (St)
  | 0, _, _ => none
  | n_5 + 1, v_3, σ_4 => (if ((gi σ_4 (8 * c_1 + 1)) / (2 : Int32)) ≤ v_3 then some (σ_4) else if v_3 < 0 ∨ 800 ≤ v_3.toNatClampNeg then none else if (((gi σ_4 (8 * c_1 + 1)) - (1 : Int32)) - v_3) < 0 ∨ 800 ≤ (((gi σ_4 (8 * c_1 + 1)) - (1 : Int32)) - v_3).toNatClampNeg then none else if v_3 < 0 ∨ 800 ≤ v_3.toNatClampNeg then none else bnd (some (sr σ_4 (c_1 + 16) (upd (gr σ_4 (c_1 + 16)) v_3.toNatClampNeg (gr σ_4 (c_1 + 16) (((gi σ_4 (8 * c_1 + 1)) - (1 : Int32)) - v_3).toNatClampNeg)))) fun σ_15 => if (((gi σ_15 (8 * c_1 + 1)) - (1 : Int32)) - v_3) < 0 ∨ 800 ≤ (((gi σ_15 (8 * c_1 + 1)) - (1 : Int32)) - v_3).toNatClampNeg then none else bnd (some (sr σ_15 (c_1 + 16) (upd (gr σ_15 (c_1 + 16)) (((gi σ_15 (8 * c_1 + 1)) - (1 : Int32)) - v_3).toNatClampNeg (gr σ_4 (c_1 + 16) v_3.toNatClampNeg)))) fun σ_18 => (f_X6_reverse_L2 c_1 n_5 (v_3 + (1 : Int32)) σ_18))
def f_X6_reverse (a0 : Nat) (σ : St) : Option (St) :=
  (bnd (f_X6_reverse_L2 a0 FU (0 : Int32) σ) fun σ_10 => some σ_10)
def f_X6_become_L29 (c_1 : Nat) (c_3 : Nat) (c_5 : Int32) (σ_8 : St) : Nat → Int32 → Int32 → Option (Int32)
  | 0, _, _ => none
  | n_9 + 1, v_6, v_7 => (if c_5 ≤ v_7 then some (v_6) else if v_7 < 0 ∨ 800 ≤ v_7.toNatClampNeg then none else if v_7 < 0 ∨ 800 ≤ v_7.toNatClampNeg then none else (bnd (if (gr σ_8 (c_1 + 16) v_7.toNatClampNeg) = (gr σ_8 (c_3 + 16) v_7.toNatClampNeg) then some (v_6) else some (v_6 + (1 : Int32))) fun v_19 => (f_X6_become_L29 c_1 c_3 c_5 σ_8 n_9 v_19 (v_7 + (1 : Int32)))))
def f_X6_become (a0 : Nat) (a1 : Nat) (σ : St) : Option (Int32 × St) :=
  (bnd (f_X6_become_L29 a0 a1 (if (gi σ (8 * a1 + 1)) < (gi σ (8 * a0 + 1)) then (gi σ (8 * a1 + 1)) else (gi σ (8 * a0 + 1))) σ FU ((if (gi σ (8 * a0 + 1)) < (gi σ (8 * a1 + 1)) then (gi σ (8 * a1 + 1)) else (gi σ (8 * a0 + 1))) - (if (gi σ (8 * a1 + 1)) < (gi σ (8 * a0 + 1)) then (gi σ (8 * a1 + 1)) else (gi σ (8 * a0 + 1)))) (0 : Int32)) fun o_14 => if (0 : Int32) < 0 then none else if (0 : Int32) < 0 then none else if (gi σ (8 * a1 + 1)) < 0 then none else if 800 < (0 : Int32).toNatClampNeg + (gi σ (8 * a1 + 1)).toNatClampNeg then none else if 800 < (0 : Int32).toNatClampNeg + (gi σ (8 * a1 + 1)).toNatClampNeg then none else bnd (some (sr σ (a0 + 16) (va_cpy (gr σ (a1 + 16)) (gr σ (a0 + 16)) (0 : Int32).toNatClampNeg (0 : Int32).toNatClampNeg (gi σ (8 * a1 + 1)).toNatClampNeg))) fun σ_28 => bnd (some (si σ_28 (8 * a0 + 1) (gi σ_28 (8 * a1 + 1)))) fun σ_30 => some (o_14, σ_30))
def f_X7_firstOf (a0 : Nat) (a1 : Int32) (σ : St) : Option (Int32 × St) :=
  if 6 ≤ gp σ (8 * a0) then none else if (kOrd (gp σ (8 * a0))) < 0 ∨ 6 ≤ (kOrd (gp σ (8 * a0))).toNatClampNeg then none else (if (zSwK.getD (kOrd (gp σ (8 * a0))).toNatClampNeg 0) = 1 then some ((gi σ (8 * a0 + 2)) + (a1 * (gi σ (8 * a0 + 3))), σ) else (if (zSwK.getD (kOrd (gp σ (8 * a0))).toNatClampNeg 0) = 2 then some ((gi σ (8 * a0 + 2)) - (a1 * (gi σ (8 * a0 + 3))), σ) else (if (zSwK.getD (kOrd (gp σ (8 * a0))).toNatClampNeg 0) = 3 then (bnd (if (a1 - a1 / (2 : Int32) * (2 : Int32)) = 0 then some (gi σ (8 * a0 + 2)) else some ((gi σ (8 * a0 + 2)) + (gi σ (8 * a0 + 3)))) fun v_6 => some (v_6, σ)) else (if (zSwK.getD (kOrd (gp σ (8 * a0))).toNatClampNeg 0) = 4 then (bnd (f_X10_rest a1 (gi σ (8 * a0 + 4))) fun r_11 => some ((gi σ (8 * a0 + 2)) + ((gi σ (8 * a0 + 3)) * r_11), σ)) else (if (zSwK.getD (kOrd (gp σ (8 * a0))).toNatClampNeg 0) = 5 then (bnd2 (f_X2_draw ((gi σ (8 * a0 + 3)) + (1 : Int32)) σ) fun r_14 σ_15 => some ((gi σ (8 * a0 + 2)) + r_14, σ_15)) else some (gi σ (8 * a0 + 2), σ))))))
def f_X7_secondOf (a0 : Nat) (a1 : Int32) (σ : St) : Option (Int32) :=
  (bnd (f_X10_rest a1 (gi σ (8 * a0 + 5))) fun r_2 => some r_2)
def f_X8_clear (σ : St) : Option (St) :=
  some (si σ 59 (0 : Int32))
def f_X8_take_L3 (c_1 : Nat) (c_3 : Int32) : Nat → Int32 → St → Option (St)
  | 0, _, _ => none
  | n_6 + 1, v_4, σ_5 => (if c_3 ≤ v_4 then some (σ_5) else if ¬ (gp σ_5 57 = 8 ∨ gp σ_5 57 = 9) then none else (if (3200 : Int32) ≤ (gi σ_5 59) then some (σ_5) else if ¬ (gp σ_5 57 = 8 ∨ gp σ_5 57 = 9) then none else if v_4 < 0 ∨ 800 ≤ v_4.toNatClampNeg then none else if (gi σ_5 59) < 0 ∨ 3200 ≤ (gi σ_5 59).toNatClampNeg then none else bnd (some (sr σ_5 (gp σ_5 57) (upd (gr σ_5 (gp σ_5 57)) (gi σ_5 59).toNatClampNeg (gr σ_5 (c_1 + 16) v_4.toNatClampNeg)))) fun σ_18 => (f_X8_take_L3 c_1 c_3 n_6 (v_4 + (1 : Int32)) (si σ_18 59 ((gi σ_18 59) + (1 : Int32))))))
def f_X8_take (a1 : Nat) (a2 : Int32) (a3 : Int32) (σ : St) : Option (St) :=
  (bnd (f_X8_take_L3 a1 a3 FU a2 σ) fun σ_11 => some σ_11)
def f_X8_layBack_L9 (c_1 : Nat) (c_3 : Int32) : Nat → Int32 → Int32 → Int32 → St → Option (Int32 × St)
  | 0, _, _, _, _ => none
  | n_8 + 1, v_4, v_5, v_6, σ_7 => (if c_3 ≤ v_6 then some (v_4, σ_7) else (if (gi σ_7 59) ≤ v_5 then some (v_4, σ_7) else if v_6 < 0 ∨ 800 ≤ v_6.toNatClampNeg then none else if ¬ (gp σ_7 57 = 8 ∨ gp σ_7 57 = 9) then none else if v_5 < 0 ∨ 3200 ≤ v_5.toNatClampNeg then none else (bnd2 (if (gr σ_7 (c_1 + 16) v_6.toNatClampNeg) = (gr σ_7 (gp σ_7 57) v_5.toNatClampNeg) then some (v_4, σ_7) else if ¬ (gp σ_7 57 = 8 ∨ gp σ_7 57 = 9) then none else if v_5 < 0 ∨ 3200 ≤ v_5.toNatClampNeg then none else if v_6 < 0 ∨ 800 ≤ v_6.toNatClampNeg then none else bnd (some (sr σ_7 (c_1 + 16) (upd (gr σ_7 (c_1 + 16)) v_6.toNatClampNeg (gr σ_7 (gp σ_7 57) v_5.toNatClampNeg)))) fun σ_27 => some (v_4 + (1 : Int32), σ_27)) fun v_21 σ_22 => (f_X8_layBack_L9 c_1 c_3 n_8 v_21 (v_5 + (1 : Int32)) (v_6 + (1 : Int32)) σ_22))))
def f_X8_layBack (a1 : Int32) (a2 : Nat) (a3 : Int32) (a4 : Int32) (σ : St) : Option (Int32 × St) :=
  (bnd2 (f_X8_layBack_L9 a2 a4 FU (0 : Int32) a1 a3 σ) fun o_14 σ_13 => some (o_14, σ_13))
def f_X8_firstAt (a1 : Int32) (σ : St) : Option (Int32) :=
  (bnd (if a1 < 0 then some ((0 : Int32)) else (if (gi σ 59) ≤ a1 then some ((0 : Int32)) else if ¬ (gp σ 57 = 8 ∨ gp σ 57 = 9) then none else if a1 < 0 ∨ 3200 ≤ a1.toNatClampNeg then none else (bnd (f_X1_firstOf (gr σ (gp σ 57) a1.toNatClampNeg) σ) fun r_8 => some (r_8)))) fun v_2 => some v_2)
def f_X8_isWrongPair (a1 : Int32) (a2 : Int32) (a3 : Nat) (σ : St) : Option (Int32) :=
  (bnd (f_X1_firstOf a1 σ) fun r_2 => (bnd (f_X1_firstOf a2 σ) fun r_4 => if (oOrd a3) < 0 ∨ 4 ≤ (oOrd a3).toNatClampNeg then none else (if (zSwO.getD (oOrd a3).toNatClampNeg 0) = 1 then (bnd (f_X1_secondOf a1 σ) fun r_7 => (bnd (f_X1_secondOf a2 σ) fun r_9 => (bnd (if r_7 ≤ r_9 then some ((0 : Int32)) else some ((1 : Int32))) fun v_11 => (if ¬ (v_11 = 0 ∨ v_11 = 1) then none else some v_11)))) else (if (zSwO.getD (oOrd a3).toNatClampNeg 0) = 2 then (bnd (if r_4 < r_2 then some ((1 : Int32)) else (if r_2 = r_4 then (bnd (f_X1_secondOf a1 σ) fun r_21 => (bnd (f_X1_secondOf a2 σ) fun r_23 => (if r_21 ≤ r_23 then some ((0 : Int32)) else some ((1 : Int32))))) else some ((0 : Int32)))) fun v_17 => (if ¬ (v_17 = 0 ∨ v_17 = 1) then none else some v_17)) else (if (zSwO.getD (oOrd a3).toNatClampNeg 0) = 3 then (bnd (if r_4 ≤ r_2 then some ((0 : Int32)) else some ((1 : Int32))) fun v_29 => (if ¬ (v_29 = 0 ∨ v_29 = 1) then none else some v_29)) else (bnd (if r_2 ≤ r_4 then some ((0 : Int32)) else some ((1 : Int32))) fun v_35 => (if ¬ (v_35 = 0 ∨ v_35 = 1) then none else some v_35)))))))
def f_X8_merge_L12 (c_1 : Int32) (c_2 : Int32) (c_3 : Nat) : Nat → Int32 → Int32 → Int32 → Int32 → St → Option (Int32 × St)
  | 0, _, _, _, _, _ => none
  | n_10 + 1, v_5, v_6, v_7, v_8, σ_9 => (if c_2 ≤ v_8 then some (v_5, σ_9) else (bnd4 (if c_1 ≤ v_6 then if ¬ (gp σ_9 58 = 8 ∨ gp σ_9 58 = 9) then none else if ¬ (gp σ_9 57 = 8 ∨ gp σ_9 57 = 9) then none else if v_7 < 0 ∨ 3200 ≤ v_7.toNatClampNeg then none else if v_8 < 0 ∨ 3200 ≤ v_8.toNatClampNeg then none else bnd (some (sr σ_9 (gp σ_9 58) (upd (gr σ_9 (gp σ_9 58)) v_8.toNatClampNeg (gr σ_9 (gp σ_9 57) v_7.toNatClampNeg)))) fun σ_28 => some (v_5 + (c_1 - v_6), v_6, v_7 + (1 : Int32), σ_28) else (if c_2 ≤ v_7 then if ¬ (gp σ_9 58 = 8 ∨ gp σ_9 58 = 9) then none else if ¬ (gp σ_9 57 = 8 ∨ gp σ_9 57 = 9) then none else if v_6 < 0 ∨ 3200 ≤ v_6.toNatClampNeg then none else if v_8 < 0 ∨ 3200 ≤ v_8.toNatClampNeg then none else bnd (some (sr σ_9 (gp σ_9 58) (upd (gr σ_9 (gp σ_9 58)) v_8.toNatClampNeg (gr σ_9 (gp σ_9 57) v_6.toNatClampNeg)))) fun σ_35 => some (v_5, v_6 + (1 : Int32), v_7, σ_35) else if ¬ (gp σ_9 57 = 8 ∨ gp σ_9 57 = 9) then none else if v_6 < 0 ∨ 3200 ≤ v_6.toNatClampNeg then none else if ¬ (gp σ_9 57 = 8 ∨ gp σ_9 57 = 9) then none else if v_7 < 0 ∨ 3200 ≤ v_7.toNatClampNeg then none else (bnd (f_X8_isWrongPair (gr σ_9 (gp σ_9 57) v_6.toNatClampNeg) (gr σ_9 (gp σ_9 57) v_7.toNatClampNeg) c_3 σ_9) fun r_42 => (if r_42 = 0 then if ¬ (gp σ_9 58 = 8 ∨ gp σ_9 58 = 9) then none else if ¬ (gp σ_9 57 = 8 ∨ gp σ_9 57 = 9) then none else if v_6 < 0 ∨ 3200 ≤ v_6.toNatClampNeg then none else if v_8 < 0 ∨ 3200 ≤ v_8.toNatClampNeg then none else bnd (some (sr σ_9 (gp σ_9 58) (upd (gr σ_9 (gp σ_9 58)) v_8.toNatClampNeg (gr σ_9 (gp σ_9 57) v_6.toNatClampNeg)))) fun σ_48 => some (v_5, v_6 + (1 : Int32), v_7, σ_48) else if ¬ (gp σ_9 58 = 8 ∨ gp σ_9 58 = 9) then none else if ¬ (gp σ_9 57 = 8 ∨ gp σ_9 57 = 9) then none else if v_7 < 0 ∨ 3200 ≤ v_7.toNatClampNeg then none else if v_8 < 0 ∨ 3200 ≤ v_8.toNatClampNeg then none else bnd (some (sr σ_9 (gp σ_9 58) (upd (gr σ_9 (gp σ_9 58)) v_8.toNatClampNeg (gr σ_9 (gp σ_9 57) v_7.toNatClampNeg)))) fun σ_54 => some (v_5 + (c_1 - v_6), v_6, v_7 + (1 : Int32), σ_54))))) fun v_19 v_20 v_21 σ_22 => (f_X8_merge_L12 c_1 c_2 c_3 n_10 v_19 v_20 v_21 (v_8 + (1 : Int32)) σ_22)))
def f_X8_merge (a1 : Int32) (a2 : Int32) (a3 : Int32) (a4 : Nat) (σ : St) : Option (Int32 × St) :=
  (bnd2 (f_X8_merge_L12 a2 a3 a4 FU (0 : Int32) a1 a2 a1 σ) fun o_16 σ_15 => some (o_16, σ_15))
def f_X8_arrange_L15 (c_14 : Nat) (c_17 : Int32) : Nat → Int32 → Int32 → St → Option (Int32 × St)
  | 0, _, _, _ => none
  | n_20 + 1, v_16, v_18, σ_19 => (if (gi σ_19 59) ≤ v_18 then some (v_16, σ_19) else (bnd2 (f_X8_merge v_18 (if (gi σ_19 59) < (v_18 + c_17) then (gi σ_19 59) else (v_18 + c_17)) (if (gi σ_19 59) < ((if (gi σ_19 59) < (v_18 + c_17) then (gi σ_19 59) else (v_18 + c_17)) + c_17) then (gi σ_19 59) else ((if (gi σ_19 59) < (v_18 + c_17) then (gi σ_19 59) else (v_18 + c_17)) + c_17)) c_14 σ_19) fun r_29 σ_30 => (f_X8_arrange_L15 c_14 c_17 n_20 (v_16 + r_29) (v_18 + ((2 : Int32) * c_17)) σ_30)))
def f_X8_arrange_L4 (c_1 : Nat) : Nat → Int32 → Int32 → St → Option (Int32 × St)
  | 0, _, _, _ => none
  | n_6 + 1, v_3, v_4, σ_5 => (if (gi σ_5 59) ≤ v_4 then some (v_3, σ_5) else (bnd2 (f_X8_arrange_L15 c_1 v_4 FU v_3 (0 : Int32) σ_5) fun o_26 σ_25 => if ¬ (gp σ_25 57 = 8 ∨ gp σ_25 57 = 9) then none else if ¬ (gp σ_25 58 = 8 ∨ gp σ_25 58 = 9) then none else bnd (some (sp (sp σ_25 57 (gp σ_25 58)) 58 (gp σ_25 57))) fun σ_34 => (f_X8_arrange_L4 c_1 n_6 o_26 (v_4 * (2 : Int32)) σ_34)))
def f_X8_arrange (a1 : Nat) (σ : St) : Option (Int32 × St) :=
  (bnd2 (f_X8_arrange_L4 a1 FU (0 : Int32) (1 : Int32) σ) fun o_12 σ_11 => some (o_12, σ_11))
def f_X9_bytesIn_L5 (c_1 : Int64) : Nat → Int32 → Int32 → Option (Int32)
  | 0, _, _ => none
  | n_5 + 1, v_2, v_3 => (if v_3 < 0 then some (v_2) else (bnd (if ((((c_1.toUInt64 >>> (v_3.toInt64.toUInt64 &&& Int64.toUInt64 63)).toInt64).toInt32).toInt8.toInt32) = 0 then some (v_2) else some (v_2 + (1 : Int32))) fun v_14 => (f_X9_bytesIn_L5 c_1 n_5 v_14 (v_3 + (-8 : Int32)))))
def f_X9_bytesIn (a1 : Int64) : Option (Int32) :=
  (bnd (f_X9_bytesIn_L5 a1 FU (0 : Int32) (56 : Int32)) fun o_10 => some o_10)
def f_X9_append_L3 (c_1 : Int64) : Nat → Int32 → St → Option (St)
  | 0, _, _ => none
  | n_4 + 1, v_2, σ_3 => (if v_2 < 0 then some (σ_3) else (bnd (if ((((c_1.toUInt64 >>> (v_2.toInt64.toUInt64 &&& Int64.toUInt64 63)).toInt64).toInt32).toInt8.toInt32) = 0 then some (σ_3) else (if (400 : Int32) ≤ (gi σ_3 81) then some (σ_3) else if (gi σ_3 81) < 0 ∨ 400 ≤ (gi σ_3 81).toNatClampNeg then none else bnd (some (sr σ_3 11 (upd (gr σ_3 11) (gi σ_3 81).toNatClampNeg (vp_nar .byte ((((c_1.toUInt64 >>> (v_2.toInt64.toUInt64 &&& Int64.toUInt64 63)).toInt64).toInt32).toInt8.toInt32))))) fun σ_16 => some (si σ_16 81 ((gi σ_16 81) + (1 : Int32))))) fun σ_12 => (f_X9_append_L3 c_1 n_4 (v_2 + (-8 : Int32)) σ_12)))
def f_X9_append (a1 : Int64) (σ : St) : Option (St) :=
  (bnd (f_X9_append_L3 a1 FU (56 : Int32) σ) fun σ_9 => some σ_9)
def f_X10_type (a1 : Int64) (σ : St) : Option ((String ⊕ Int32) × St) :=
  (bnd (f_X9_bytesIn a1) fun r_2 => (if ((gi σ 81) + r_2) ≤ (400 : Int32) then (bnd (f_X9_append a1 σ) fun σ_5 => some (.inr (gi σ_5 81), σ_5)) else some ((.inl "java/lang/IllegalStateException", σ))))
def f_X10_clearText (σ : St) : Option (Int32 × St) :=
  some (gi σ 81, si σ 81 (0 : Int32))
def f_X10_fault (σ : St) : Option (Int32 × St) :=
  (bnd2 (f_X5_readText σ) fun r_2 σ_3 => some (r_2, σ_3))
def f_X10_rowAt (a1 : Int32) (σ : St) : Option (String ⊕ Nat) :=
  (if a1 < 0 then some (.inl "java/lang/IndexOutOfBoundsException") else (if a1 < (4 : Int32) then if a1 < 0 ∨ 4 ≤ a1.toNatClampNeg then none else some (.inr (16 + a1.toNatClampNeg)) else some (.inl "java/lang/IndexOutOfBoundsException")))
def f_X10_needRoom (a1 : Nat) (a2 : Int32) (σ : St) : Option (String ⊕ Unit) :=
  (if ((gi σ (8 * a1 + 1)) + a2) ≤ (800 : Int32) then some (.inr ()) else some (.inl "java/lang/IllegalStateException"))
def f_X10_needCards (a1 : Int32) (σ : St) : Option (String ⊕ Unit) :=
  (if ((gi σ 10) + a1) ≤ (20000 : Int32) then some (.inr ()) else some (.inl "java/lang/IllegalStateException"))
def f_X10_layRun_L2 (c_1 : Nat) (c_3 : Nat) : Nat → Int32 → St → Option (St)
  | 0, _, _ => none
  | n_7 + 1, v_5, σ_6 => (if (gi σ_6 (8 * c_1 + 1)) ≤ v_5 then some (σ_6) else (bnd2 (f_X7_firstOf c_1 v_5 σ_6) fun r_15 σ_16 => (bnd (f_X7_secondOf c_1 v_5 σ_16) fun r_18 => (bnd2 (f_X1_make r_15 r_18 σ_16) fun r_20 σ_21 => (bnd (f_X6_append c_3 r_20 σ_21) fun σ_23 => (f_X10_layRun_L2 c_1 c_3 n_7 (v_5 + (1 : Int32)) σ_23))))))
def f_X10_layRun (a1 : Nat) (a2 : Nat) (σ : St) : Option (St) :=
  (bnd (f_X10_layRun_L2 a1 a2 FU (0 : Int32) σ) fun σ_12 => some σ_12)
def f_X10_lay_L48 (c_16 : Nat) : Nat → Int32 → St → Option (St)
  | 0, _, _ => none
  | n_21 + 1, v_19, σ_20 => (if (gi σ_20 98) ≤ v_19 then some (σ_20) else if v_19 < 0 ∨ 50 ≤ v_19.toNatClampNeg then none else (bnd (f_X10_layRun (64 + v_19.toNatClampNeg) c_16 σ_20) fun σ_30 => (f_X10_lay_L48 c_16 n_21 (v_19 + (1 : Int32)) σ_30)))
def f_X10_lay (a1 : Int32) (σ : St) : Option ((String ⊕ Int32) × St) :=
  (bndX (fun E9 => (.inl E9, σ)) (f_X10_rowAt a1 σ) fun r_2 => (bnd2 (f_X5_readText σ) fun r_5 σ_6 => (if r_5 = (-1 : Int32) then (bnd (f_X5_cardsOfAllRuns σ_6) fun r_9 => (bndX (fun E9 => (.inl E9, σ_6)) (f_X10_needRoom r_2 r_9 σ_6) fun _ => (bndX (fun E9 => (.inl E9, σ_6)) (f_X10_needCards r_9 σ_6) fun _ => (bnd (f_X10_lay_L48 r_2 FU (0 : Int32) σ_6) fun σ_26 => some (.inr r_9, σ_26))))) else some ((.inl "java/lang/IllegalStateException", σ_6)))))
def f_X10_put (a1 : Int32) (a2 : Int32) (a3 : Int32) (a4 : Int32) (σ : St) : Option ((String ⊕ Int32) × St) :=
  (bndX (fun E9 => (.inl E9, σ)) (f_X10_rowAt a1 σ) fun r_2 => (if a2 < 0 then some ((.inl "java/lang/IndexOutOfBoundsException", σ)) else (if a2 ≤ (gi σ (8 * r_2 + 1)) then (bndX (fun E9 => (.inl E9, σ)) (f_X10_needRoom r_2 (1 : Int32) σ) fun _ => (bndX (fun E9 => (.inl E9, σ)) (f_X10_needCards (1 : Int32) σ) fun _ => (bnd2 (f_X1_make a3 a4 σ) fun r_13 σ_14 => (bnd (f_X6_insert r_2 a2 r_13 σ_14) fun σ_16 => some (.inr r_13, σ_16))))) else some ((.inl "java/lang/IndexOutOfBoundsException", σ)))))
def f_X10_setSeed (a1 : Int32) (σ : St) : Option (Int32 × St) :=
  some (gi σ 112, si σ 112 a1)
def f_X10_arrangePart (a1 : Nat) (a2 : Int32) (a3 : Int32) (a4 : Nat) (σ : St) : Option (Int32 × St) :=
  (bnd (f_X8_clear σ) fun σ_2 => (bnd (f_X8_take a1 a2 a3 σ_2) fun σ_4 => (bnd2 (f_X8_arrange a4 σ_4) fun r_6 σ_7 => (bnd2 (f_X8_layBack (0 : Int32) a1 a2 a3 σ_7) fun r_9 σ_10 => some (r_9, σ_10)))))
def f_X10_arrangeRow (a1 : Nat) (a2 : Nat) (σ : St) : Option (Int32 × St) :=
  (bnd2 (f_X10_arrangePart a1 (0 : Int32) (gi σ (8 * a1 + 1)) a2 σ) fun r_2 σ_3 => some (r_2, σ_3))
def f_X10_sort (a1 : Int32) (σ : St) : Option ((String ⊕ Int32) × St) :=
  (bndX (fun E9 => (.inl E9, σ)) (f_X10_rowAt a1 σ) fun r_2 => (bnd2 (f_X10_arrangeRow r_2 0 σ) fun r_5 σ_6 => some (.inr r_5, σ_6)))
def f_X10_sortAll_L9 : Nat → Int32 → St → Option (St)
  | 0, _, _ => none
  | n_5 + 1, v_3, σ_4 => (if (4 : Int32) ≤ v_3 then some (σ_4) else if v_3 < 0 ∨ 4 ≤ v_3.toNatClampNeg then none else if v_3 < 0 ∨ 4 ≤ v_3.toNatClampNeg then none else (bnd (f_X8_take (16 + v_3.toNatClampNeg) (0 : Int32) (gi σ_4 (8 * (16 + v_3.toNatClampNeg) + 1)) σ_4) fun σ_15 => (f_X10_sortAll_L9 n_5 (v_3 + (1 : Int32)) σ_15)))
def f_X10_sortAll_L60 : Nat → Int32 → Int32 → Int32 → St → Option (Int32 × St)
  | 0, _, _, _, _ => none
  | n_24 + 1, v_20, v_21, v_22, σ_23 => (if (4 : Int32) ≤ v_22 then some (v_20, σ_23) else if v_22 < 0 ∨ 4 ≤ v_22.toNatClampNeg then none else if v_22 < 0 ∨ 4 ≤ v_22.toNatClampNeg then none else (bnd2 (f_X8_layBack v_21 (16 + v_22.toNatClampNeg) (0 : Int32) (gi σ_23 (8 * (16 + v_22.toNatClampNeg) + 1)) σ_23) fun r_35 σ_36 => if v_22 < 0 ∨ 4 ≤ v_22.toNatClampNeg then none else (f_X10_sortAll_L60 n_24 (v_20 + r_35) (v_21 + (gi σ_36 (8 * (16 + v_22.toNatClampNeg) + 1))) (v_22 + (1 : Int32)) σ_36)))
def f_X10_sortAll (σ : St) : Option (Int32 × St) :=
  (bnd (f_X8_clear σ) fun σ_2 => (bnd (f_X10_sortAll_L9 FU (0 : Int32) σ_2) fun σ_10 => (bnd2 (f_X8_arrange 0 σ_10) fun r_18 σ_19 => (bnd2 (f_X10_sortAll_L60 FU (0 : Int32) (0 : Int32) (0 : Int32) σ_19) fun o_30 σ_29 => some (o_30, σ_29)))))
def f_X10_needPart (a1 : Nat) (a2 : Int32) (a3 : Int32) (σ : St) : Option (String ⊕ Unit) :=
  (if a2 < 0 then some (.inl "java/lang/IndexOutOfBoundsException") else (if a3 ≤ (gi σ (8 * a1 + 1)) then (if a2 ≤ a3 then some (.inr ()) else some (.inl "java/lang/IllegalArgumentException")) else some (.inl "java/lang/IndexOutOfBoundsException")))
def f_X10_sortPart (a1 : Int32) (a2 : Int32) (a3 : Int32) (σ : St) : Option ((String ⊕ Int32) × St) :=
  (bndX (fun E9 => (.inl E9, σ)) (f_X10_rowAt a1 σ) fun r_2 => (bndX (fun E9 => (.inl E9, σ)) (f_X10_needPart r_2 a2 a3 σ) fun _ => (bnd2 (f_X10_arrangePart r_2 a2 a3 0 σ) fun r_8 σ_9 => some (.inr r_8, σ_9))))
def f_X10_sortDown (a1 : Int32) (a2 : Int32) (a3 : Int32) (σ : St) : Option ((String ⊕ Int32) × St) :=
  (bndX (fun E9 => (.inl E9, σ)) (f_X10_rowAt a1 σ) fun r_2 => (bndX (fun E9 => (.inl E9, σ)) (f_X10_needPart r_2 a2 a3 σ) fun _ => (if (a3 - a2) ≤ (31 : Int32) then (bnd2 (f_X10_arrangePart r_2 a2 a3 3 σ) fun r_9 σ_10 => some (.inr r_9, σ_10)) else some ((.inl "java/lang/IllegalArgumentException", σ)))))
def f_X10_sortBySecond (a1 : Int32) (σ : St) : Option ((String ⊕ Int32) × St) :=
  (bndX (fun E9 => (.inl E9, σ)) (f_X10_rowAt a1 σ) fun r_2 => (bnd2 (f_X10_arrangeRow r_2 1 σ) fun r_5 σ_6 => some (.inr r_5, σ_6)))
def f_X10_sortByBoth (a1 : Int32) (σ : St) : Option ((String ⊕ Int32) × St) :=
  (bndX (fun E9 => (.inl E9, σ)) (f_X10_rowAt a1 σ) fun r_2 => (bnd2 (f_X10_arrangeRow r_2 2 σ) fun r_5 σ_6 => some (.inr r_5, σ_6)))
def f_X10_needUnlikeRows (a1 : Int32) (a2 : Int32) : Option (String ⊕ Unit) :=
  (if a1 = a2 then some (.inl "java/lang/IllegalArgumentException") else some (.inr ()))
def f_X10_pour_L30 (c_13 : Nat) (c_15 : Nat) : Nat → Int32 → St → Option (St)
  | 0, _, _ => none
  | n_19 + 1, v_17, σ_18 => (if (gi σ_18 (8 * c_13 + 1)) ≤ v_17 then some (σ_18) else if v_17 < 0 ∨ 800 ≤ v_17.toNatClampNeg then none else (bnd (f_X6_append c_15 (gr σ_18 (c_13 + 16) v_17.toNatClampNeg) σ_18) fun σ_28 => (f_X10_pour_L30 c_13 c_15 n_19 (v_17 + (1 : Int32)) σ_28)))
def f_X10_pour (a1 : Int32) (a2 : Int32) (σ : St) : Option ((String ⊕ Int32) × St) :=
  (bndX (fun E9 => (.inl E9, σ)) (f_X10_rowAt a1 σ) fun r_2 => (bndX (fun E9 => (.inl E9, σ)) (f_X10_rowAt a2 σ) fun r_5 => (bndX (fun E9 => (.inl E9, σ)) (f_X10_needUnlikeRows a1 a2) fun _ => (bndX (fun E9 => (.inl E9, σ)) (f_X10_needRoom r_5 (gi σ (8 * r_2 + 1)) σ) fun _ => (bnd (f_X10_pour_L30 r_2 r_5 FU (0 : Int32) σ) fun σ_24 => some (.inr (gi (si σ_24 (8 * r_2 + 1) (0 : Int32)) (8 * r_5 + 1)), si σ_24 (8 * r_2 + 1) (0 : Int32)))))))
def f_X10_deal_L39 (c_13 : Nat) (c_15 : Nat) : Nat → Int32 → Int32 → St → Option (Int32 × St)
  | 0, _, _, _ => none
  | n_21 + 1, v_18, v_19, σ_20 => (if (gi σ_20 (8 * c_13 + 1)) ≤ v_19 then some (v_18, σ_20) else (bnd2 (if (v_19 - v_19 / (2 : Int32) * (2 : Int32)) = (1 : Int32) then if v_19 < 0 ∨ 800 ≤ v_19.toNatClampNeg then none else (bnd (f_X6_append c_15 (gr σ_20 (c_13 + 16) v_19.toNatClampNeg) σ_20) fun σ_39 => some (v_18, σ_39)) else if v_19 < 0 ∨ 800 ≤ v_19.toNatClampNeg then none else if v_18 < 0 ∨ 800 ≤ v_18.toNatClampNeg then none else bnd (some (sr σ_20 (c_13 + 16) (upd (gr σ_20 (c_13 + 16)) v_18.toNatClampNeg (gr σ_20 (c_13 + 16) v_19.toNatClampNeg)))) fun σ_35 => some (v_18 + (1 : Int32), σ_35)) fun v_30 σ_31 => (f_X10_deal_L39 c_13 c_15 n_21 v_30 (v_19 + (1 : Int32)) σ_31)))
def f_X10_deal (a1 : Int32) (a2 : Int32) (σ : St) : Option ((String ⊕ Int32) × St) :=
  (bndX (fun E9 => (.inl E9, σ)) (f_X10_rowAt a1 σ) fun r_2 => (bndX (fun E9 => (.inl E9, σ)) (f_X10_rowAt a2 σ) fun r_5 => (bndX (fun E9 => (.inl E9, σ)) (f_X10_needUnlikeRows a1 a2) fun _ => (bndX (fun E9 => (.inl E9, σ)) (f_X10_needRoom r_5 ((gi σ (8 * r_2 + 1)) / (2 : Int32)) σ) fun _ => (bnd2 (f_X10_deal_L39 r_2 r_5 FU (0 : Int32) (0 : Int32) σ) fun o_27 σ_26 => some (.inr ((gi σ (8 * r_2 + 1)) / (2 : Int32)), si σ_26 (8 * r_2 + 1) o_27))))))
def f_X10_turn (a1 : Int32) (σ : St) : Option ((String ⊕ Int32) × St) :=
  (bndX (fun E9 => (.inl E9, σ)) (f_X10_rowAt a1 σ) fun r_2 => (bnd (f_X6_reverse r_2 σ) fun σ_5 => some (.inr (gi σ_5 (8 * r_2 + 1)), σ_5)))
def f_X10_needPlace (a1 : Nat) (a2 : Int32) (σ : St) : Option (String ⊕ Unit) :=
  (if a2 < 0 then some (.inl "java/lang/IndexOutOfBoundsException") else (if a2 < (gi σ (8 * a1 + 1)) then some (.inr ()) else some (.inl "java/lang/IndexOutOfBoundsException")))
def f_X10_move (a1 : Int32) (a2 : Int32) (a3 : Int32) (σ : St) : Option ((String ⊕ Int32) × St) :=
  (bndX (fun E9 => (.inl E9, σ)) (f_X10_rowAt a1 σ) fun r_2 => (bndX (fun E9 => (.inl E9, σ)) (f_X10_needPlace r_2 a2 σ) fun _ => (bndX (fun E9 => (.inl E9, σ)) (f_X10_needPlace r_2 a3 σ) fun _ => (bnd2 (f_X6_takeOut r_2 a2 σ) fun r_11 σ_12 => (bnd (f_X6_insert r_2 a3 r_11 σ_12) fun σ_14 => some (.inr r_11, σ_14))))))
def f_X10_thin_L18 (c_4 : Int32) (c_5 : Nat) (c_7 : Int32) : Nat → Int32 → Int32 → St → Option (Int32 × St)
  | 0, _, _, _ => none
  | n_11 + 1, v_8, v_9, σ_10 => (if c_7 ≤ v_9 then some (v_8, σ_10) else if v_9 < 0 ∨ 800 ≤ v_9.toNatClampNeg then none else (bnd (f_X1_secondOf (gr σ_10 (c_5 + 16) v_9.toNatClampNeg) σ_10) fun r_21 => (bnd2 (if r_21 = c_4 then some (v_8, σ_10) else if v_8 < 0 ∨ 800 ≤ v_8.toNatClampNeg then none else bnd (some (sr σ_10 (c_5 + 16) (upd (gr σ_10 (c_5 + 16)) v_8.toNatClampNeg (gr σ_10 (c_5 + 16) v_9.toNatClampNeg)))) fun σ_27 => some (v_8 + (1 : Int32), σ_27)) fun v_23 σ_24 => (f_X10_thin_L18 c_4 c_5 c_7 n_11 v_23 (v_9 + (1 : Int32)) σ_24))))
def f_X10_thin (a1 : Int32) (a2 : Int32) (σ : St) : Option ((String ⊕ Int32) × St) :=
  (bndX (fun E9 => (.inl E9, σ)) (f_X10_rowAt a1 σ) fun r_2 => (bnd2 (f_X10_thin_L18 a2 r_2 (gi σ (8 * r_2 + 1)) FU (0 : Int32) (0 : Int32) σ) fun o_17 σ_16 => some (.inr ((gi σ (8 * r_2 + 1)) - o_17), si σ_16 (8 * r_2 + 1) o_17)))
def f_X10_single_L17 (c_4 : Nat) (c_6 : Int32) : Nat → Int32 → Int32 → St → Option (Int32 × St)
  | 0, _, _, _ => none
  | n_10 + 1, v_7, v_8, σ_9 => (if c_6 ≤ v_8 then some (v_7, σ_9) else if v_8 < 0 ∨ 800 ≤ v_8.toNatClampNeg then none else (bnd2 (if v_7 = 0 then if v_7 < 0 ∨ 800 ≤ v_7.toNatClampNeg then none else bnd (some (sr σ_9 (c_4 + 16) (upd (gr σ_9 (c_4 + 16)) v_7.toNatClampNeg (gr σ_9 (c_4 + 16) v_8.toNatClampNeg)))) fun σ_24 => some (v_7 + (1 : Int32), σ_24) else (bnd (f_X1_firstOf (gr σ_9 (c_4 + 16) v_8.toNatClampNeg) σ_9) fun r_27 => if (v_7 - (1 : Int32)) < 0 ∨ 800 ≤ (v_7 - (1 : Int32)).toNatClampNeg then none else (bnd (f_X1_firstOf (gr σ_9 (c_4 + 16) (v_7 - (1 : Int32)).toNatClampNeg) σ_9) fun r_30 => (if r_27 = r_30 then some (v_7, σ_9) else if v_7 < 0 ∨ 800 ≤ v_7.toNatClampNeg then none else bnd (some (sr σ_9 (c_4 + 16) (upd (gr σ_9 (c_4 + 16)) v_7.toNatClampNeg (gr σ_9 (c_4 + 16) v_8.toNatClampNeg)))) fun σ_33 => some (v_7 + (1 : Int32), σ_33))))) fun v_20 σ_21 => (f_X10_single_L17 c_4 c_6 n_10 v_20 (v_8 + (1 : Int32)) σ_21)))
def f_X10_single (a1 : Int32) (σ : St) : Option ((String ⊕ Int32) × St) :=
  (bndX (fun E9 => (.inl E9, σ)) (f_X10_rowAt a1 σ) fun r_2 => (bnd2 (f_X10_single_L17 r_2 (gi σ (8 * r_2 + 1)) FU (0 : Int32) (0 : Int32) σ) fun o_16 σ_15 => some (.inr ((gi σ (8 * r_2 + 1)) - o_16), si σ_15 (8 * r_2 + 1) o_16)))
def f_X10_keep (a1 : Int32) (σ : St) : Option ((String ⊕ Int32) × St) :=
  (bndX (fun E9 => (.inl E9, σ)) (f_X10_rowAt a1 σ) fun r_2 => if a1 < 0 ∨ 4 ≤ a1.toNatClampNeg then none else (bnd2 (f_X6_become (20 + a1.toNatClampNeg) r_2 σ) fun r_6 σ_7 => if a1 < 0 ∨ 4 ≤ a1.toNatClampNeg then none else bnd (some (sr σ_7 6 (upd (gr σ_7 6) a1.toNatClampNeg (vp_nar .boolean (1 : Int32))))) fun σ_9 => some (.inr (gi σ_9 (8 * r_2 + 1)), σ_9)))
def f_X10_restore (a1 : Int32) (σ : St) : Option ((String ⊕ Int32) × St) :=
  (bndX (fun E9 => (.inl E9, σ)) (f_X10_rowAt a1 σ) fun r_2 => if a1 < 0 ∨ 4 ≤ a1.toNatClampNeg then none else (if (gr σ 6 a1.toNatClampNeg) = 0 then some ((.inl "java/lang/IllegalStateException", σ)) else if a1 < 0 ∨ 4 ≤ a1.toNatClampNeg then none else (bnd2 (f_X6_become r_2 (20 + a1.toNatClampNeg) σ) fun r_8 σ_9 => some (.inr r_8, σ_9))))
def f_X10_count (a1 : Int32) (σ : St) : Option (String ⊕ Int32) :=
  (bndX (fun E9 => .inl E9) (f_X10_rowAt a1 σ) fun r_2 => some (.inr (gi σ (8 * r_2 + 1))))
def f_X10_cardAt (a1 : Int32) (a2 : Int32) (a3 : Int32) (σ : St) : Option (String ⊕ Int32) :=
  (bndX (fun E9 => .inl E9) (f_X10_rowAt a1 σ) fun r_2 => (bndX (fun E9 => .inl E9) (f_X10_needPlace r_2 a2 σ) fun _ => if a2 < 0 ∨ 800 ≤ a2.toNatClampNeg then none else (if a3 = 0 then (bnd (f_X1_firstOf (gr σ (r_2 + 16) a2.toNatClampNeg) σ) fun r_9 => some (.inr r_9)) else (if a3 = 1 then (bnd (f_X1_secondOf (gr σ (r_2 + 16) a2.toNatClampNeg) σ) fun r_12 => some (.inr r_12)) else (if a3 = 2 then some (.inr (gr σ (r_2 + 16) a2.toNatClampNeg)) else some (.inl "java/lang/IllegalArgumentException"))))))
def f_X10_placeOf_L9 (c_4 : Int32) (c_5 : Nat) (σ_8 : St) : Nat → Int32 → Option ((String ⊕ Int32) ⊕ (Unit))
  | 0, _ => none
  | n_9 + 1, v_7 => (if (gi σ_8 (8 * c_5 + 1)) ≤ v_7 then some (.inr (())) else if v_7 < 0 ∨ 800 ≤ v_7.toNatClampNeg then none else (if (gr σ_8 (c_5 + 16) v_7.toNatClampNeg) = c_4 then some (.inl (.inr v_7)) else (f_X10_placeOf_L9 c_4 c_5 σ_8 n_9 (v_7 + (1 : Int32)))))
def f_X10_placeOf (a1 : Int32) (a2 : Int32) (σ : St) : Option (String ⊕ Int32) :=
  (bndX (fun E9 => .inl E9) (f_X10_rowAt a1 σ) fun r_2 => (bndR id (f_X10_placeOf_L9 a2 r_2 σ FU (0 : Int32)) fun u_14 => some (.inr (-1 : Int32))))
def f_X10_firstAt (a1 : Nat) (a2 : Int32) (σ : St) : Option (Int32) :=
  if a2 < 0 ∨ 800 ≤ a2.toNatClampNeg then none else (bnd (f_X1_firstOf (gr σ (a1 + 16) a2.toNatClampNeg) σ) fun r_3 => some r_3)
def f_X10_startsRun (a1 : Nat) (a2 : Int32) (σ : St) : Option (Int32) :=
  (bnd (if a2 = 0 then some ((1 : Int32)) else (bnd (f_X10_firstAt a1 a2 σ) fun r_5 => (bnd (f_X10_firstAt a1 (a2 - (1 : Int32)) σ) fun r_7 => (if r_7 ≤ r_5 then some ((0 : Int32)) else some ((1 : Int32)))))) fun v_2 => (if ¬ (v_2 = 0 ∨ v_2 = 1) then none else some v_2))
def f_X10_numberOfRuns_L4 (c_1 : Nat) (σ_5 : St) : Nat → Int32 → Int32 → Option (Int32)
  | 0, _, _ => none
  | n_6 + 1, v_3, v_4 => (if (gi σ_5 (8 * c_1 + 1)) ≤ v_4 then some (v_3) else (bnd (f_X10_startsRun c_1 v_4 σ_5) fun r_15 => (bnd (if r_15 = 0 then some (v_3) else some (v_3 + (1 : Int32))) fun v_17 => (f_X10_numberOfRuns_L4 c_1 σ_5 n_6 v_17 (v_4 + (1 : Int32))))))
def f_X10_numberOfRuns (a1 : Nat) (σ : St) : Option (Int32) :=
  (bnd (f_X10_numberOfRuns_L4 a1 σ FU (0 : Int32) (0 : Int32)) fun o_11 => some o_11)
def f_X10_rises (a1 : Nat) (σ : St) : Option (Int32) :=
  (bnd (f_X10_numberOfRuns a1 σ) fun r_2 => (bnd (if (1 : Int32) < r_2 then some ((0 : Int32)) else some ((1 : Int32))) fun v_4 => (if ¬ (v_4 = 0 ∨ v_4 = 1) then none else some v_4)))
def f_X10_placeFor_L27 (c_7 : Int32) (c_8 : Nat) (σ_11 : St) : Nat → Int32 → Option (Int32)
  | 0, _ => none
  | n_12 + 1, v_10 => (if (gi σ_11 (8 * c_8 + 1)) ≤ v_10 then some (v_10) else (bnd (f_X10_firstAt c_8 v_10 σ_11) fun r_21 => (if c_7 < r_21 then some (v_10) else (f_X10_placeFor_L27 c_7 c_8 σ_11 n_12 (v_10 + (1 : Int32))))))
def f_X10_placeFor (a1 : Int32) (a2 : Int32) (σ : St) : Option (String ⊕ Int32) :=
  (bndX (fun E9 => .inl E9) (f_X10_rowAt a1 σ) fun r_2 => (bnd (f_X10_rises r_2 σ) fun r_5 => (if r_5 = 0 then some (.inl "java/lang/IllegalStateException") else (bnd (f_X10_placeFor_L27 a2 r_2 σ FU (0 : Int32)) fun o_17 => some (.inr o_17)))))
def f_X10_isSorted (a1 : Int32) (σ : St) : Option (String ⊕ Int32) :=
  (bndX (fun E9 => .inl E9) (f_X10_rowAt a1 σ) fun r_2 => (bnd (f_X10_rises r_2 σ) fun r_5 => (if ¬ (r_5 = 0 ∨ r_5 = 1) then none else some (.inr r_5))))
def f_X10_runs (a1 : Int32) (σ : St) : Option (String ⊕ Int32) :=
  (bndX (fun E9 => .inl E9) (f_X10_rowAt a1 σ) fun r_2 => (bnd (f_X10_numberOfRuns r_2 σ) fun r_5 => some (.inr r_5)))
def f_X10_lengthOfLongestRun_L7 (c_1 : Nat) (σ_6 : St) : Nat → Int32 → Int32 → Int32 → Option (Int32)
  | 0, _, _, _ => none
  | n_7 + 1, v_3, v_4, v_5 => (if (gi σ_6 (8 * c_1 + 1)) ≤ v_5 then some (v_3) else (bnd (f_X10_startsRun c_1 v_5 σ_6) fun r_16 => (bnd (if r_16 = 0 then some (v_4) else some (v_5)) fun v_18 => (f_X10_lengthOfLongestRun_L7 c_1 σ_6 n_7 (if v_3 < ((v_5 + (1 : Int32)) - v_18) then ((v_5 + (1 : Int32)) - v_18) else v_3) v_18 (v_5 + (1 : Int32))))))
def f_X10_lengthOfLongestRun (a1 : Nat) (σ : St) : Option (Int32) :=
  (bnd (f_X10_lengthOfLongestRun_L7 a1 σ FU (0 : Int32) (0 : Int32) (0 : Int32)) fun o_12 => some o_12)
def f_X10_longestRun (a1 : Int32) (σ : St) : Option (String ⊕ Int32) :=
  (bndX (fun E9 => .inl E9) (f_X10_rowAt a1 σ) fun r_2 => (bnd (f_X10_lengthOfLongestRun r_2 σ) fun r_5 => some (.inr r_5)))
def f_X10_sortCopy (a1 : Nat) (σ : St) : Option (Int32 × St) :=
  (bnd (f_X8_clear σ) fun σ_2 => (bnd (f_X8_take a1 (0 : Int32) (gi σ_2 (8 * a1 + 1)) σ_2) fun σ_4 => (bnd2 (f_X8_arrange 0 σ_4) fun r_6 σ_7 => some (r_6, σ_7))))
def f_X10_wrongPairs (a1 : Int32) (σ : St) : Option ((String ⊕ Int32) × St) :=
  (bndX (fun E9 => (.inl E9, σ)) (f_X10_rowAt a1 σ) fun r_2 => (bnd2 (f_X10_sortCopy r_2 σ) fun r_5 σ_6 => some (.inr r_5, σ_6)))
def f_X10_sum_L11 (c_4 : Nat) (σ_8 : St) : Nat → Int64 → Int32 → Option (Int64)
  | 0, _, _ => none
  | n_9 + 1, v_6, v_7 => (if (gi σ_8 (8 * c_4 + 1)) ≤ v_7 then some (v_6) else if v_7 < 0 ∨ 800 ≤ v_7.toNatClampNeg then none else (f_X10_sum_L11 c_4 σ_8 n_9 (v_6 + ((v_7.toInt64 + (1 : Int64)) * (((gr σ_8 (c_4 + 16) v_7.toNatClampNeg).toInt64) + (1 : Int64)))) (v_7 + (1 : Int32))))
def f_X10_sum (a1 : Int32) (σ : St) : Option (String ⊕ Int64) :=
  (bndX (fun E9 => .inl E9) (f_X10_rowAt a1 σ) fun r_2 => (bnd (f_X10_sum_L11 r_2 σ FU (0 : Int64) (0 : Int32)) fun o_14 => some (.inr o_14)))
def f_X10_middle (a1 : Int32) (σ : St) : Option ((String ⊕ Int32) × St) :=
  (bndX (fun E9 => (.inl E9, σ)) (f_X10_rowAt a1 σ) fun r_2 => (if (gi σ (8 * r_2 + 1)) = 0 then some ((.inl "java/util/NoSuchElementException", σ)) else (bnd2 (f_X10_sortCopy r_2 σ) fun r_6 σ_7 => (bnd (f_X8_firstAt (((gi σ_7 (8 * r_2 + 1)) - (1 : Int32)) / (2 : Int32)) σ_7) fun r_9 => some (.inr r_9, σ_7)))))
def f_X10_theoremHolds (a1 : Nat) (σ : St) : Option (Int32 × St) :=
  (bnd2 (f_X6_become 24 a1 σ) fun r_2 σ_3 => (bnd2 (f_X10_arrangePart 24 (0 : Int32) (gi σ (8 * a1 + 1)) 0 σ_3) fun r_5 σ_6 => (bnd (f_X10_rises 24 σ_6) fun r_8 => (if r_8 = 0 then some ((0 : Int32), σ_6) else (bnd2 (f_X10_arrangePart 24 (0 : Int32) (gi σ (8 * a1 + 1)) 0 σ_6) fun r_11 σ_12 => (if r_11 = 0 then (bnd2 (f_X6_become 24 a1 σ_12) fun r_15 σ_16 => (bnd2 (f_X10_arrangePart 24 (0 : Int32) (gi σ (8 * a1 + 1)) 1 σ_16) fun r_18 σ_19 => (bnd2 (f_X10_arrangePart 24 (0 : Int32) (gi σ (8 * a1 + 1)) 0 σ_19) fun r_21 σ_22 => (bnd2 (f_X6_become 25 a1 σ_22) fun r_24 σ_25 => (bnd2 (f_X10_arrangePart 25 (0 : Int32) (gi σ (8 * a1 + 1)) 2 σ_25) fun r_27 σ_28 => (bnd2 (f_X6_become 24 25 σ_28) fun r_30 σ_31 => (bnd (if r_30 = 0 then some ((1 : Int32)) else some ((0 : Int32))) fun v_33 => (if ¬ (v_33 = 0 ∨ v_33 = 1) then none else some (v_33, σ_31))))))))) else some ((0 : Int32), σ_12)))))))
def f_X10_errors_L4 : Nat → Int32 → Int32 → St → Option (Int32 × St)
  | 0, _, _, _ => none
  | n_4 + 1, v_1, v_2, σ_3 => (if (4 : Int32) ≤ v_2 then some (v_1, σ_3) else if v_2 < 0 ∨ 4 ≤ v_2.toNatClampNeg then none else (bnd2 (f_X10_theoremHolds (16 + v_2.toNatClampNeg) σ_3) fun r_14 σ_15 => (bnd (if r_14 = 0 then some (v_1 + (1 : Int32)) else some (v_1)) fun v_17 => (f_X10_errors_L4 n_4 v_17 (v_2 + (1 : Int32)) σ_15))))
def f_X10_errors (σ : St) : Option (Int32 × St) :=
  (bnd2 (f_X10_errors_L4 FU (0 : Int32) (0 : Int32) σ) fun o_10 σ_9 => some (o_10, σ_9))
