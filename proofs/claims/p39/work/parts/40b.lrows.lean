/-! a class's method that gives a long, called by the law -/
section XL
variable {p : Program} {l : Launch} {e : Env} {R : Room} {s : State} {m : MethodId} {args : Array Value} {below : List Frame} {meth : Method} {c : Code} {D : va_G} {tys : List (ClassId × FieldType)} {A : Nat → Prop} {nL : Nat} {Q : State → Prop} {cc : ByteArray} {Ts : List Cond} {own : String} {ret : Option FieldType} {ZZ : (Nat → Prop) → State → Heap → Prop}
variable {k n pc : Nat} {lv : List (Nat × Value)} {st st0 : List Value} {AD : Nat → Nat} {E : St → Nat → va_E} {L : List Nat} {X9 : va_W} {σ σ' : St} {ws ws9 : va_W}
variable {y2 : MethodName} {ws2 : List Cond} {rm2 : Room} {bytes : ByteArray} {maxL2 index nA : Nat} {ret2 : Option FieldType} {C : String} {T : u_T} {N ci j : Nat} {fs : List Value} {As : List Value} {mcq msq : Nat} {k' n' : Nat}
theorem g_xVL_ret (X : gC ZZ p s m args meth c D tys A cc Ts own nL ret) (hzz : gZ ZZ) {r : Int64} (hMm : xL ZZ D tys l y2 ws2 rm2 (wF AD E L X9) (.ref (AD j) :: As) σ (.inr r) σ' mcq msq) (cw : CallW R s args own C index y2 bytes maxL2 ret2 ws2 rm2 mcq msq nA) (hst : st0 = As.reverse ++ .ref (AD j) :: st) (hj : j ∈ L) (he : E σ j = .inr (ci, fs)) (hcq : vwCl[ci]? = some (C, T, N)) (hn : As.length = nA) (hcat : (st.map fun v => v.category).sum ≤ 8) (hkn : k + mcq ≤ R.cells ∧ n + msq ≤ R.slots) (hdg : decode cc pc = .ok (.invokevirtual index, 3)) (hk : k + mcq ≤ k') (hn' : n + msq ≤ n') (kk : gG p l e R s m args below meth c D tys A nL Q (wF AD E L X9 σ') k' n' (pc + 3) lv (.long r :: st)) : gG p l e R s m args below meth c D tys A nL Q (wF AD E L X9 σ) k n pc lv st0 := by
  subst hst
  intro H locs ls hP hD hSs hl0
  obtain ⟨q, hq⟩ := wF_get (A := AD) (E := E) (X := X9) (σ := σ) hj
  rw [he] at hq
  have hF := (gPre_of (av := []) hzz X.2.1 X.2.2.1 X.2.2.2.1 hP hD hSs).1
  refine vx_calll (vx_runV X.1 (hMm H.size) cw ⟨gPre_blind hzz, va_recv X.2.1 hP hcq hq, (gPre_of hzz X.2.1 X.2.2.1 X.2.2.2.1 hP hD hSs).2⟩ rfl hn hl0.1 rfl (lv_room hcat) hdg hkn) hSs (fun q _ h => hF q h) hF (fun q _ h => hF q h) (fun E9 ce qz9 u t H1 locs1 ht hvm hpx hBb hz hk1 hS1 hce hcv hcl => ?_) (fun r1 u1 t H1 locs1 ht hvm hw hBb hz1 hk1 hS1 => ?_)
  · exact nomatch hBb.1
  · obtain ⟨hr9, rfl⟩ := hw
    cases hr9
    obtain ⟨hP1, -, hD1⟩ := hBb
    rw [ht] at hP1
    exact W.widen hk hn' (kk H1 locs1 ls hP1 (hD1.weaken (fun k9 qz9 h9 _ => hF _ (hD1.2 k9 qz9 h9))) hS1 hl0)
end XL
theorem vaRA_u9 {U : State} {c1 c2 : ClassId} {ty : FieldType} (h1 : va_RA U c1 ty) (h2 : va_RA U c2 ty) : c1 = c2 := by
  cases ty with
  | object C =>
    obtain ⟨_, _, _, _, _, a⟩ := h1
    obtain ⟨_, _, _, _, _, b⟩ := h2
    exact Option.some.inj (a.symm.trans b)
  | _ => exact Option.some.inj (Eq.trans (Eq.symm h1) h2)
theorem vaK_u9 {D : va_G} {cl : List vw_C} {tys : List (ClassId × FieldType)} {s : State} {cA c0 : ClassId} {ty : FieldType} (hK : va_K D cl (tys ++ [(cA, ty)]) s) {t0 : Nat} (ht : tys[t0]? = some (c0, ty)) : cA = c0 := by
  have hl := (List.getElem?_eq_some_iff.mp ht).1
  exact vaRA_u9 (hK.2 tys.length (cA, ty) (by rw [List.getElem?_append_right (Nat.le_refl _), Nat.sub_self]; rfl)).2 (hK.2 t0 (c0, ty) (by rw [List.getElem?_append_left hl]; exact ht)).2
section NM
variable {p : Program} {l : Launch} {e : Env} {R : Room} {s : State} {m : MethodId} {args : Array Value} {below : List Frame} {meth : Method} {c : Code} {D : va_G} {A : Nat → Prop} {nL : Nat} {Q : State → Prop} {cc : ByteArray} {Ts : List Cond} {own : String} {ret : Option FieldType} {ZZ : (Nat → Prop) → State → Heap → Prop}
variable {k n pc : Nat} {lv : List (Nat × Value)} {st : List Value} {cy : Nat → ClassId} {Ac aK B : Nat → Nat} {X8 : va_W} {σ ρ : St}
theorem h_newMany (X : gC ZZ p s m args meth c D (cyT cy) A cc Ts own nL ret) (harr : Cond.arrayClass (newarray.typeOf .int) ∈ Ts) (hk : k + 1 ≤ 1) (hn : n + 4 ≤ 6) (hR : 1 ≤ R.cells ∧ 6 ≤ R.slots) (hdg : decode cc pc = .ok (.newarray .int, 2)) (kk : ∀ qm : Nat, gG p l e R s m args below meth c D (cyT cy) A nL Q (lW cy Ac aK B ((qm, .inl (cy 0, 4, .inl (fun _ => (0 : Int32)))) :: X8) σ ρ) 1 6 (pc + 2) lv (.ref qm :: st)) : gG p l e R s m args below meth c D (cyT cy) A nL Q (lW cy Ac aK B X8 σ ρ) k n pc lv (.int (4 : Int32) :: st) := by
  intro H locs ls hP hD hSs hl0
  refine va_newa (n := (4 : Int32)) (N' := 4) X.1.1 X.1.2.1 (X.1.2.2.2.2 _ harr) rfl X.2.1 hP hD hSs X.2.2.1 (show ∀ cA : ClassId, vp_cell cA (4, .inl (fun _ => (0 : Int32))) = arrV cA 4 (fun _ => defaultValue .int) from fun _ => rfl) (by decide) (by decide) (by decide) (Nat.le_trans hk hR.1) (Nat.le_trans hn hR.2) hdg (fun q cB H1 hK1 hP1 hD1 hS1 => ?_)
  have e1 := vaK_u9 hK1 (show (cyT cy)[0]? = some (cy 0, .int) from rfl)
  subst e1
  have e : ∀ z : va_W, lW cy Ac aK B z σ ρ = (cL.map (fun j => (Ac j, cE cy Ac aK σ j)) ++ lL.map (fun j => (B j, lE cy B ρ j))) ++ z := fun z => (List.append_assoc _ _ _).symm
  have hp : (lW cy Ac aK B X8 σ ρ ++ ([(q, .inl (cy 0, 4, .inl (fun _ => (0 : Int32))))] : va_W)).Perm (lW cy Ac aK B ((q, .inl (cy 0, 4, .inl (fun _ => (0 : Int32)))) :: X8) σ ρ) := by
    rw [e, e, List.append_assoc]
    exact List.Perm.append_left _ List.perm_append_comm
  exact W.widen hk hn ((g_perm hp (kk q)) H1 locs ls hP1 hD1 hS1 hl0)
end NM
