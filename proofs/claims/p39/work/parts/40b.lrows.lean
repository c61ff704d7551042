/-! a class's method that gives a long, called by the law -/
section XL
variable {p : Program} {l : Launch} {e : Env} {R : Room} {s : State} {m : MethodId} {args : Array Value} {below : List Frame} {meth : Method} {c : Code} {D : va_G} {tys : List (ClassId × FieldType)} {A : Nat → Prop} {nL : Nat} {Q : State → Prop} {cc : ByteArray} {Ts : List Cond} {own : String} {ret : Option FieldType} {ZZ : (Nat → Prop) → State → Heap → Prop}
variable {k n pc : Nat} {lv : List (Nat × Value)} {st st0 : List Value} {AD : Nat → Nat} {E : St → Nat → va_E} {L : List Nat} {X9 : va_W} {σ σ' : St} {ws ws9 : va_W}
variable {y2 : MethodName} {ws2 : List Cond} {rm2 : Room} {bytes : ByteArray} {maxL2 index nA : Nat} {ret2 : Option FieldType} {C : String} {T : u_T} {N ci j : Nat} {fs : List Value} {As : List Value} {mcq msq : Nat} {k' n' : Nat}
theorem g_xVL_ret (X : gC ZZ p s m args meth c D tys A cc Ts own nL ret) (hzz : gZ ZZ) {r : Int64} (hMm : xL ZZ D tys l y2 ws2 rm2 (wF AD E L X9) (.ref (AD j) :: As) σ (.inr r) σ' mcq msq) (cw : CallW R s args own C index y2 bytes maxL2 ret2 ws2 rm2 mcq msq nA) (hst : st0 = As.reverse ++ .ref (AD j) :: st) (hj : j ∈ L) (he : E σ j = .inr (ci, fs)) (hcq : vwCl[ci]? = some (C, T, N)) (hn : As.length = nA) (hcat : (st.map fun v => v.category).sum ≤ 8) (hkn : k + mcq ≤ R.cells ∧ n + msq ≤ R.slots) (hdg : decode cc pc = .ok (.invokevirtual index, 3)) (hk : k + mcq ≤ k') (hn' : n + msq ≤ n') (kk : gG p l e R s m args below meth c D tys A nL Q (wF AD E L X9 σ') k' n' (pc + 3) lv (.long r :: st)) : gG p l e R s m args below meth c D tys A nL Q (wF AD E L X9 σ) k n pc lv st0 := by
  subst hst
  intro H locs ls hP hD hSs hl0
  obtain ⟨q, hq⟩ := wF_get (A := AD) (E := E) (X := X9) (σ := σ) hj
  rw [he] at hq
  have hF := (gPre_of (av := []) hzz X.2.1 X.2.2.1 X.2.2.2.1 hP hD hSs).1
  refine vx_calll (vx_runV X.1 (hMm H.size) cw ⟨gPre_blind hzz, va_recv X.2.1 hP hcq hq, (gPre_of hzz X.2.1 X.2.2.1 X.2.2.2.1 hP hD hSs).2⟩ rfl hn hl0.1 rfl (lv_room hcat) hdg hkn) hSs (fun q _ h => hF q h) hF (fun q _ h => hF q h) (fun E9 ce qz9 u t H1 locs1 ht hvm hpx hBb hz hk1 hS1 hce hcv hcl => ?_) (fun r1 u1 t H1 locs1 ht hvm hw hBb hz1 hk1 hS1 => ?_)
  · exact nomatch hBb.1
  · obtain ⟨hr9, rfl⟩ := hw
    cases hr9
    obtain ⟨hP1, -, hD1⟩ := hBb
    rw [ht] at hP1
    exact W.widen hk hn' (kk H1 locs1 ls hP1 (hD1.weaken (fun k9 qz9 h9 _ => hF _ (hD1.2 k9 qz9 h9))) hS1 hl0)
end XL
