/-! this claim's law: its helpers' rows, its invariant -/
def IN (T : Nat) (En C : Int) (L N : Nat → Int) (G : Nat → Nat → Int) (z w : Nat) (hp : Nat → PS) : Prop :=
  PSV T En C L N G ∧ z ≤ 5 ∧ w < 5 ∧ ∀ i, i < z → PSVP (hp ((w + i) % 5))
theorem IN_rec {T T1 z w z1 w1 : Nat} {En E1 C C1 : Int} {L N L1 N1 : Nat → Int} {G G1 : Nat → Nat → Int} {hp hp1 : Nat → PS} (h : IN T En C L N G z w hp) (hV : PSV T1 E1 C1 L1 N1 G1) (hr : REC z w hp (T, En, C, L, N, G) z1 w1 hp1) : IN T1 E1 C1 L1 N1 G1 z1 w1 hp1 := by
  obtain ⟨a1, a3, a4, a5⟩ := h
  obtain ⟨r1, r2, r3, r4⟩ := hr
  refine ⟨hV, r1, r2, fun i hi => ?_⟩
  rw [r4 i hi]
  unfold rcQ
  by_cases c : z = 5
  · rw [if_pos c]
    by_cases c2 : i < 4
    · rw [if_pos c2]; exact a5 (i + 1) (by omega)
    · rw [if_neg c2]; exact a1
  · rw [if_neg c]
    by_cases c2 : i = z
    · rw [if_pos c2]; exact a1
    · rw [if_neg c2]; rw [if_neg c] at r3; exact a5 i (by omega)
theorem REC_z {z w z1 w1 : Nat} {hp hp1 : Nat → PS} {P : PS} (h : REC z w hp P z1 w1 hp1) : 1 ≤ z1 := by
  have := h.2.2.1
  split at this <;> omega
theorem IN_undo {T z w : Nat} {En C : Int} {L N : Nat → Int} {G : Nat → Nat → Int} {hp : Nat → PS} {P1 : PS} (h : IN T En C L N G z w hp) (hz : 1 ≤ z) (hP : P1 = hp ((w + (z - 1)) % 5)) : IN P1.1 P1.2.1 P1.2.2.1 P1.2.2.2.1 P1.2.2.2.2.1 P1.2.2.2.2.2 (z - 1) w hp := by
  obtain ⟨a1, a3, a4, a5⟩ := h
  have b := a5 (z - 1) (by omega)
  subst hP
  exact ⟨b, by omega, a4, fun i hi => a5 i (by omega)⟩
theorem tI_n {k : Nat} (h : k < 1000) : tI (nI k) = k := by
  unfold tI
  rw [nI_toInt (by omega)]; omega
theorem kLag_z2 {T : Nat} {G : Nat → Nat → Int} {t u : Int32} (h1 : hasB T t = true) (h2 : hasB T u = true) (h : kLag T G t u = 2) : G (tI t) (tI u) = -1 := by
  by_cases q : G (tI t) (tI u) = -1
  · exact q
  · rw [kLag_0 ⟨h1, h2⟩ q] at h; cases h
theorem kLag_no1 {T : Nat} {G : Nat → Nat → Int} {t u : Int32} (h1 : hasB T t = true) (h2 : hasB T u = true) : ¬ kLag T G t u = 1 := by
  by_cases q : G (tI t) (tI u) = -1
  · rw [kLag_2 ⟨h1, h2⟩ q]; decide
  · rw [kLag_0 ⟨h1, h2⟩ q]; decide
theorem kDep_z0 {T : Nat} {En : Int} {G : Nat → Nat → Int} {t u p : Int32} (h : kDep T En G t u p = 0) : ahB G T (tI u) (tI t) = false ∧ ¬ (40 ≤ En ∧ G (tI t) (tI u) = -1) := by
  have z := kDep_z h
  refine ⟨?_, z.2.2.2.2⟩
  unfold kDep at h
  split at h
  · cases h
  · split at h
    · cases h
    · split at h
      · cases h
      · rename_i q
        cases c : ahB G T (tI u) (tI t)
        · rfl
        · exact absurd (Or.inr c) q
theorem kDep_z3 {T : Nat} {En : Int} {G : Nat → Nat → Int} {t u p : Int32} (h : kDep T En G t u p = 3) : ahB G T (tI u) (tI t) = true ∨ (40 ≤ En ∧ G (tI t) (tI u) = -1) := by
  unfold kDep at h
  split at h
  · cases h
  · split at h
    · cases h
    · split at h
      · rename_i q; exact q.symm
      · cases h
theorem kDep_no {T : Nat} {En : Int} {G : Nat → Nat → Int} {t u p : Int32} (h1 : hasB T t = true) (h2 : hasB T u = true) (h3 : 0 ≤ p.toInt ∧ p.toInt ≤ 9) (h4 : tI t ≠ tI u) : ¬ kDep T En G t u p = 1 ∧ ¬ kDep T En G t u p = 2 := by
  have k := kDep_z3 (T := T) (En := En) (G := G) (t := t) (u := u) (p := p)
  unfold kDep
  rw [if_neg (hb2_n ⟨h1, h2⟩), if_neg (by omega)]
  split <;> exact ⟨by decide, by decide⟩
section XS5
variable {p : Program} {l : Launch} {e : Env} {R : Room} {s : State} {m : MethodId} {args : Array Value} {below : List Frame} {meth : Method} {c : Code} {H : Heap} {locs : List Loc} {cells slots mc ms : Nat} {Q : State → Prop}
variable {cc : ByteArray} {pc : Nat} {ls : Array Slot} {rest st0 : List Value} {D : va_G} {ca : Nat → ClassId} {A : Nat → Prop} {ws wc wr : va_W} {H0 : Heap} {a : Array Value}
variable {y : MethodName} {bytes : ByteArray} {maxL nL n index : Nat} {ret : Option FieldType} {wsC : List Cond} {rm : Room} {Ts : List Cond} {own C : String} {b : Addr} {As : List Value} {Qc : (Nat → Prop) → Array Value → State → Outcome → State → Prop}
/-- a static call of a method that needs the environment, and returns -/
theorem xt_SE (S0 : CallFix p m c cc nL s args Ts own) (hM : ME l y wsC rm D ca As H.size wc Qc) (cw : CallB R s args own index y bytes maxL ret wsC rm rm.cells rm.slots n ∧ (Cond.static y).before args s = true)
    (hK : va_K D vwCl (TY ca) s) (hP : va_P D vwCl ws H) (hD : va_D A ws) (hS : va_S A s.heap H locs) (hA : ∀ q, s.heap.size ≤ q → A q) (hEV : EV A s s.heap)
    (isC : List Nat) (hC : isC.map (fun i => ws[i]?) = wc.map some) (hn : va_nd isC = true)
    (hnA : As.length = n) (hsz : ls.size = nL) (hst : st0 = As.reverse ++ rest) (hW : (rest.map fun v => v.category).sum ≤ 8) (hdg : decode cc pc = .ok (.invokestatic index, 3)) (hf : cells + rm.cells ≤ R.cells ∧ slots + rm.slots ≤ R.slots) :
    va_Run p l e R s m args below meth c H locs cells slots rm.cells rm.slots (F0 m pc ls st0) rest (Qc (va_A wc H.size) As.toArray) (va_A wc H.size) :=
  va_runS (As := As) (rest := rest) S0 hM cw ⟨PE_blind, fun U hU hW => ⟨rfl, xt_PE hK hP hD hS hA hEV isC hC hn hU hW⟩⟩ rfl hnA hsz hst (lv_room hW) hdg hf
/-- a start with a script at b, which the method reads -/
def PX (D : va_G) (ca : Nat → ClassId) (sz b L : Nat) (xs : Nat → Int32) (U : State) : Prop := PB D ca sz [] U ∧ va_X b L xs U U.heap
theorem PX_blind {sz b0 L : Nat} {xs : Nat → Int32} {av : List Value} : FrameBlind (va_Pc av (PX D ca sz b0 L xs)) := fun a U g mk q => by
  obtain ⟨q0, ⟨q1, qP, qK, qD⟩, qX⟩ := q
  exact ⟨q0, ⟨q1, qP, va_K.moved (u := U) (U := U.calling g mk a) (Vm.Alike.refl U.vm) qK, qD⟩, va_X.moved (u := U) (U := U.calling g mk a) (Vm.Alike.refl U.vm) qX⟩
abbrev MC (l : Launch) (y : MethodName) (ws : List Cond) (rm : Room) (D : va_G) (ca : Nat → ClassId) (av : List Value) (sz b L : Nat) (xs : Nat → Int32) (Qc : (Nat → Prop) → Array Value → State → Outcome → State → Prop) : Prop :=
  Met l y ws rm (va_Pc av (PX D ca sz b L xs)) (Qc (va_A [] sz)) rm.cells rm.slots (va_A [] sz)
theorem MC_of {ws' : List Cond} {av : List Value} {sz b0 L : Nat} {xs : Nat → Int32} {lv0 : List (Nat × Value)} (own : String)
    (hy : plainName y.cls = true) (hc : y.cls = own) (hw : wsC = Cond.code y cc maxL ret :: ws') (hn : (lg_sl av).length ≤ maxL) (hlv : lv_args 0 av = lv0)
    (body : ∀ (p : Program) (e : Env) (s : State) (m : MethodId) (args : Array Value) (below : List Frame) (meth : Method) (c : Code), p.tables.exec = Jvm.exec → c.code = cc → meth.sig.returnType = ret → c.maxLocals = maxL → (∀ w ∈ wsC, w.before args s = true) → s.vm.findClass own = some m.cls → meth.locks = false →
      ∀ A : Nat → Prop, (∀ q : Nat, s.heap.size ≤ q → A q) → ∀ (H : Heap) (locs : List Loc), H.size = sz → va_P D vwCl [] H → va_K D vwCl (TY ca) s → va_D A [] → va_S A s.heap H locs → va_X b0 L xs s s.heap → b0 < s.heap.size → ¬ A b0 → ∀ Q : State → Prop, MQ below (Qc A) args s rm.cells rm.slots A = Q → ∀ ls : Array Slot, lv_has ls maxL lv0 →
      W p l e rm s m args below meth c H locs 0 0 Q (F0 m 0 ls [])) : MC l y wsC rm D ca av sz b0 L xs Qc := by
  refine Met.ofW (cc := cc) (maxL := maxL) (ret := ret) hy hw ?_
  intro p e s m args below meth c s₁ B hml hv
  obtain ⟨rfl, ⟨hsz, hP, hK, hD0⟩, hX⟩ := hv
  have hts := atoms_spec (ws := wsC) B.pre
  have hown : s.vm.findClass own = some m.cls := by rw [← hc]; exact findClass_of_methodNamed B.named
  have hl := lv_entry av (n := maxL) hn
  rw [lg_entry_eq]
  rw [hlv] at hl
  have hbl : b0 < s.heap.size := by
    obtain ⟨scr, h1, -⟩ := hX
    exact (Array.getElem?_eq_some_iff.mp h1).1
  refine body p e s m _ below meth c B.exec B.bytes B.returns hml hts hown B.notSynchronized (va_A [] sz) (fun q h => Or.inr (by rw [← hsz]; exact h)) s.heap [] hsz hP hK hD0.self va_S.rf hX hbl ?_ _ rfl _ hl
  rintro (⟨k, e, h⟩ | h)
  · cases h
  · omega
/-- calling it, from where the script is an old row that nobody wrote into -/
theorem xk_SX {b0 L : Nat} {xs : Nat → Int32} (S0 : CallFix p m c cc nL s args Ts own) (hM : MC l y wsC rm D ca As H.size b0 L xs Qc) (cw : CallB R s args own index y bytes maxL ret wsC rm rm.cells rm.slots n ∧ (Cond.static y).before args s = true)
    (hK : va_K D vwCl (TY ca) s) (hS : va_S A s.heap H locs) (hX : va_X b0 L xs s s.heap) (hbl : b0 < s.heap.size) (hbA : ¬ A b0)
    (hnA : As.length = n) (hsz : ls.size = nL) (hst : st0 = As.reverse ++ rest) (hW : (rest.map fun v => v.category).sum ≤ 8) (hdg : decode cc pc = .ok (.invokestatic index, 3)) (hf : cells + rm.cells ≤ R.cells ∧ slots + rm.slots ≤ R.slots) :
    va_Run p l e R s m args below meth c H locs cells slots rm.cells rm.slots (F0 m pc ls st0) rest (Qc (va_A [] H.size) As.toArray) (va_A [] H.size) :=
  va_runS (As := As) (rest := rest) S0 hM cw ⟨PX_blind, fun U hU hW => ⟨rfl, ⟨by rw [hU], fun k q h => by simp at h, va_K.moved hW.alike hK, ⟨fun i j p q h => by simp at h, fun k q h => by simp at h⟩⟩, by rw [hU]; exact (va_X.moved hW.alike hX).kept (hS.2.1 b0 hbl hbA)⟩⟩ rfl hnA hsz hst (lv_room hW) hdg hf
end XS5
/-! the sign of a comparison of doubles -/
theorem cv_l {o : Option Ordering} (h : o = some .gt ∨ o = some .eq) : ¬ Op.cmpValue o .l < 0 := by
  rcases h with h | h <;> rw [h] <;> decide
theorem cv_g {o : Option Ordering} (h : o = some .lt ∨ o = some .eq) : ¬ 0 < Op.cmpValue o .g := by
  rcases h with h | h <;> rw [h] <;> decide
theorem cmp9_pos {x : Int64} (h : 0 < x) : ¬ cmp9 x 0 ≤ 0 := by
  unfold cmp9; rw [if_pos h]; decide
section XSL
variable {p : Program} {l : Launch} {e : Env} {R : Room} {s : State} {m : MethodId} {args : Array Value} {below : List Frame} {meth : Method} {c : Code} {H : Heap} {locs : List Loc} {cells slots : Nat} {Q : State → Prop}
variable {cc : ByteArray} {pc : Nat} {ls : Array Slot} {rest : List Value} {A : Nat → Prop} {H0 : Heap}
theorem xr_sld (hexec : p.tables.exec = Jvm.exec) (hb : c.code = cc) {b L : Nat} {xs : Nat → Int32} (hX : va_X b L xs s H0) (hbl : b < H0.size) (hbA : ¬ A b) (hS : va_S A H0 H locs) {k : Nat} (hk : k < L) (hL : L < 2 ^ 31) (hdg : decode cc pc = .ok (.iaload, 1))
    (kk : W p l e R s m args below meth c H locs cells slots Q (F0 m (pc + 1) ls (.int (xs k) :: rest))) : W p l e R s m args below meth c H locs cells slots Q (F0 m pc ls (.int (nI k) :: .ref b :: rest)) :=
  va_sld hexec hb hX hbl hbA hS (vp_in_nI hk hL) hdg (by rw [nI_clamp (by omega)]; exact kk)
end XSL
