/-! what a method that may throw, or makes objects of private constructors, needs of the start -/
def exStr : List (Nat × String) := [(78, "there are 20 tasks"), (113, "both tasks are the same"), (120, "there are 40 dependencies"), (126, "the second task is ahead of the first one"), (169, "the history is empty"), (236, "no number of crews keeps to the length of the plan"), (245, "there is no such task"), (248, "an argument is out of range"), (250, "there is no such dependency"), (252, "there is no schedule")]
abbrev xIA : String := "java/lang/IllegalArgumentException"
abbrev xIS : String := "java/lang/IllegalStateException"
abbrev xIO : String := "java/lang/IndexOutOfBoundsException"
abbrev xNS : String := "java/util/NoSuchElementException"
def exCls : List String := [xIA, xIS, xIO, xNS]
def exNot : List (String × String) := []
def exNest : List (String × Nat × MethodName × String) := [(RX8, 32, yX4_init, RX8), (RX8, 39, yX1_init, RX8), (RX8, 49, yX5_init, RX8), (RX8, 56, yX0_init, RX8), (RX8, 63, yX6_init, RX8), (RX1, 27, yX3_init, RX8), (RX0, 11, yX3_init, RX8)]
def exDec : List String := ["java/lang/RuntimeException", "java/lang/Exception", Bundle.tN]
def EVs (U : State) : Prop := (∀ q ∈ exStr, ∃ sa, vk_R RX8 q.1 q.2 sa U) ∧ (∀ E ∈ exCls, va_Nw (.castable E E) U) ∧ (∀ q ∈ exNot, va_Nc q.1 q.2 U) ∧ (∀ q ∈ exNest, va_Nw (.methodLinkNest q.1 q.2.1 q.2.2.1 q.2.2.2) U) ∧ va_AO "SlackPlan$State" U ∧ va_Nw (.castable RX7 "SlackPlan$State") U ∧ ∀ n ∈ exDec, va_Nw (.declares (Bundle.initS n)) U
theorem EVs.warm {s U : State} (hW : s.WarmedH U.vm) (h : EVs s) : EVs U :=
  ⟨fun q hq => by obtain ⟨sa, h1⟩ := h.1 q hq; exact ⟨sa, vk_R.warm hW h1⟩, fun E hE => va_Nw.warmC hW (h.2.1 E hE), fun q hq => (h.2.2.1 q hq).moved hW.alike, fun q hq => va_Nw.warmM hW (h.2.2.2.1 q hq), va_AO.moved hW.alike h.2.2.2.2.1, va_Nw.warmC hW h.2.2.2.2.2.1, fun n hn => va_Nw.warmD hW (h.2.2.2.2.2.2 n hn)⟩
theorem EVs.same {u U : State} (hv : u.vm = U.vm) (h : EVs u) : EVs U := by
  refine ⟨fun q hq => ?_, fun E hE => va_Nw.same rfl hv (h.2.1 E hE), fun q hq => ?_, fun q hq => va_Nw.same rfl hv (h.2.2.2.1 q hq), ?_, va_Nw.same rfl hv h.2.2.2.2.2.1, fun n hn => va_Nw.same rfl hv (h.2.2.2.2.2.2 n hn)⟩
  · obtain ⟨sa, h1⟩ := h.1 q hq; exact ⟨sa, vk_R.same hv.symm h1⟩
  · obtain ⟨c, t, h1, h2, h3⟩ := h.2.2.1 q hq; exact ⟨c, t, by rw [← hv]; exact h1, by rw [← hv]; exact h2, by rw [← hv]; exact h3⟩
  · exact va_AO.moved (by rw [hv]; exact Vm.Alike.refl _) h.2.2.2.2.1
def EV (A : Nat → Prop) (U : State) (H : Heap) : Prop := vx_Zq Bundle.tN "UNASSIGNED_STACK" Bundle.steD A U H ∧ vx_Zq Bundle.tN "SUPPRESSED_SENTINEL" Bundle.listD A U H ∧ EVs U
/-- the callee's environment out of the caller's -/
theorem EV.call {A A' : Nat → Prop} {s U : State} {H : Heap} {locs : List Loc} (h : EV A s s.heap) (hS : va_S A s.heap H locs) (hU : U.heap = H) (hW : s.WarmedH U.vm) (hA : ∀ q, A' q → A q) : EV A' U U.heap := by
  rw [hU]
  exact ⟨((h.1.moved hW.alike).kept hS.2.1).narrow hA, ((h.2.1.moved hW.alike).kept hS.2.1).narrow hA, h.2.2.warm hW⟩
def PE (D : va_G) (ca : Nat → ClassId) (sz : Nat) (w : va_W) (U : State) : Prop := PB D ca sz w U ∧ EV (va_A w sz) U U.heap
theorem PE_blind {D : va_G} {ca : Nat → ClassId} {sz : Nat} {w : va_W} {av : List Value} : FrameBlind (va_Pc av (PE D ca sz w)) := fun a U g mk q => by
  obtain ⟨q0, ⟨q1, qP, qK, qD⟩, z1, z2, z3⟩ := q
  exact ⟨q0, ⟨q1, qP, va_K.moved (u := U) (U := U.calling g mk a) (Vm.Alike.refl U.vm) qK, qD⟩, vx_Zq.moved (u := U) (U := U.calling g mk a) (Vm.Alike.refl U.vm) z1, vx_Zq.moved (u := U) (U := U.calling g mk a) (Vm.Alike.refl U.vm) z2, EVs.same (u := U) (U := U.calling g mk a) rfl z3⟩
/-- a contract of a method that needs the environment, and returns -/
abbrev ME (l : Launch) (y : MethodName) (ws : List Cond) (rm : Room) (D : va_G) (ca : Nat → ClassId) (av : List Value) (sz : Nat) (w : va_W) (Qc : (Nat → Prop) → Array Value → State → Outcome → State → Prop) : Prop :=
  Met l y ws rm (va_Pc av (PE D ca sz w)) (Qc (va_A w sz)) rm.cells rm.slots (va_A w sz)
/-- how a method throws: which class, when, and what its world is then -/
abbrev QX {S : Type} (D : va_G) (ca : Nat → ClassId) (px : String → S → Prop) (w' : S → va_W) (A : Nat → Prop) : String → State → State → Prop := vx_X (fun _ : S => True) (fun E u t => px E u ∧ AW D ca A (w' u) t) A
/-- a contract of a method that returns or throws -/
abbrev MX (l : Launch) (y : MethodName) (ws : List Cond) (rm : Room) (D : va_G) (ca : Nat → ClassId) (av : List Value) (sz : Nat) (w : va_W) (Qc : (Nat → Prop) → Array Value → State → Outcome → State → Prop) (XC : (Nat → Prop) → String → State → State → Prop) : Prop :=
  vx_Met l y ws rm (va_Pc av (PE D ca sz w)) (Qc (va_A w sz)) (XC (va_A w sz)) rm.cells rm.slots (va_A w sz)
theorem ME_of {l : Launch} {y : MethodName} {ws ws' : List Cond} {rm : Room} {D : va_G} {ca : Nat → ClassId} {av : List Value} {sz : Nat} {w : va_W} {Qc : (Nat → Prop) → Array Value → State → Outcome → State → Prop} {cc : ByteArray} {maxL : Nat} {ret : Option FieldType} {lv0 : List (Nat × Value)} (own : String)
    (hy : plainName y.cls = true) (hc : y.cls = own) (hw : ws = Cond.code y cc maxL ret :: ws') (hn : (lg_sl av).length ≤ maxL) (hlv : lv_args 0 av = lv0)
    (body : ∀ (p : Program) (e : Env) (s : State) (m : MethodId) (args : Array Value) (below : List Frame) (meth : Method) (c : Code), p.tables.exec = Jvm.exec → c.code = cc → meth.sig.returnType = ret → c.maxLocals = maxL → (∀ w ∈ ws, w.before args s = true) → s.vm.findClass own = some m.cls → meth.locks = false → meth.name = y.name →
      ∀ A : Nat → Prop, (∀ q : Nat, s.heap.size ≤ q → A q) → ∀ (H : Heap) (locs : List Loc), H.size = sz → va_P D vwCl w H → va_K D vwCl (TY ca) s → va_D A w → va_S A s.heap H locs → EV A s s.heap → ∀ Q : State → Prop, MQ below (Qc A) args s rm.cells rm.slots A = Q → ∀ ls : Array Slot, lv_has ls maxL lv0 →
      W p l e rm s m args below meth c H locs 0 0 Q (F0 m 0 ls [])) : ME l y ws rm D ca av sz w Qc := by
  refine Met.ofW (cc := cc) (maxL := maxL) (ret := ret) hy hw ?_
  intro p e s m args below meth c s₁ B hml hv
  obtain ⟨rfl, ⟨hsz, hP, hK, hD0⟩, hEV⟩ := hv
  have hts := atoms_spec (ws := ws) B.pre
  have hown : s.vm.findClass own = some m.cls := by rw [← hc]; exact findClass_of_methodNamed B.named
  have hl := lv_entry av (n := maxL) hn
  rw [lg_entry_eq]
  rw [hlv] at hl
  exact body p e s m _ below meth c B.exec B.bytes B.returns hml hts hown B.notSynchronized (name_of_methodNamed B.named B.method).1 (va_A w sz) (fun q h => Or.inr (by rw [← hsz]; exact h)) s.heap [] hsz hP hK hD0.self va_S.rf hEV _ rfl _ hl
theorem MX_of {l : Launch} {y : MethodName} {ws ws' : List Cond} {rm : Room} {D : va_G} {ca : Nat → ClassId} {av : List Value} {sz : Nat} {w : va_W} {Qc : (Nat → Prop) → Array Value → State → Outcome → State → Prop} {XC : (Nat → Prop) → String → State → State → Prop} {cc : ByteArray} {maxL : Nat} {ret : Option FieldType} {lv0 : List (Nat × Value)} (own : String)
    (hy : plainName y.cls = true) (hc : y.cls = own) (hw : ws = Cond.code y cc maxL ret :: ws') (hn : (lg_sl av).length ≤ maxL) (hlv : lv_args 0 av = lv0)
    (body : ∀ (p : Program) (e : Env) (s : State) (m : MethodId) (args : Array Value) (below : List Frame) (meth : Method) (c : Code), p.tables.exec = Jvm.exec → c.code = cc → meth.sig.returnType = ret → c.maxLocals = maxL → (∀ w ∈ ws, w.before args s = true) → s.vm.findClass own = some m.cls → meth.locks = false → (∀ x ∈ c.exceptionTable.toList, False) →
      ∀ A : Nat → Prop, (∀ q : Nat, s.heap.size ≤ q → A q) → ∀ (H : Heap) (locs : List Loc), H.size = sz → va_P D vwCl w H → va_K D vwCl (TY ca) s → va_D A w → va_S A s.heap H locs → EV A s s.heap → ∀ Q : State → Prop, vx_MQ below (Qc A) (XC A) args s rm.cells rm.slots A = Q → ∀ ls : Array Slot, lv_has ls maxL lv0 →
      W p l e rm s m args below meth c H locs 0 0 Q (F0 m 0 ls [])) : MX l y ws rm D ca av sz w Qc XC := by
  refine vx_ofW (cc := cc) (maxL := maxL) (ret := ret) hy hw ?_
  intro p e s m args below meth c s₁ B hml ht hv
  obtain ⟨rfl, ⟨hsz, hP, hK, hD0⟩, hEV⟩ := hv
  have hts := atoms_spec (ws := ws) B.pre
  have hown : s.vm.findClass own = some m.cls := by rw [← hc]; exact findClass_of_methodNamed B.named
  have hl := lv_entry av (n := maxL) hn
  rw [lg_entry_eq]
  rw [hlv] at hl
  exact body p e s m _ below meth c B.exec B.bytes B.returns hml hts hown B.notSynchronized ht (va_A w sz) (fun q h => Or.inr (by rw [← hsz]; exact h)) s.heap [] hsz hP hK hD0.self va_S.rf hEV _ rfl _ hl
section XT
variable {p : Program} {l : Launch} {e : Env} {R : Room} {s : State} {m : MethodId} {args : Array Value} {below : List Frame} {meth : Method} {c : Code} {H : Heap} {locs : List Loc} {cells slots mc ms : Nat} {Q : State → Prop}
variable {cc : ByteArray} {pc : Nat} {ls : Array Slot} {rest st0 : List Value} {D : va_G} {ca : Nat → ClassId} {A : Nat → Prop} {ws wc wr : va_W} {H0 : Heap} {a : Array Value} {H1 : Heap}
theorem xt_AW {w : va_W} {t : State} (hK : va_K D vwCl (TY ca) s) (hP : va_P D vwCl w H) (hD : va_D A w) (hvm : s.vm.Alike t.vm) (hk : ∀ q : Nat, q < H.size → t.heap[q]? = H[q]?) : AW D ca A w t :=
  ⟨hP.kept (fun k q hq => hk q.1 ((hP k q hq).lt)), va_K.moved hvm hK, hD⟩
theorem xt_F {t : State} (hS : va_S A s.heap H locs) (hz : H.size ≤ t.heap.size) (hk : ∀ q : Nat, q < H.size → t.heap[q]? = H[q]?) : va_F A s t :=
  ⟨Nat.le_trans hS.1 hz, fun q h1 h2 => by rw [hk q (Nat.lt_of_lt_of_le h1 hS.1)]; exact hS.2.1 q h1 h2⟩
/-- throw new cls(text) -/
theorem xt_throw {S : Type} {px : String → S → Prop} {w' : S → va_W} {Qc : Array Value → State → Outcome → State → Prop} {own cls text : String} {names : List String} {ik is ic : Nat} (u : S) (hx : p.tables.exec = Jvm.exec) (hb : c.code = cc) (hl : l.stackTraces = false)
    (hown : s.vm.findClass own = some m.cls) (hcls : Bundle.fit cls = true) (hnames : ∀ n ∈ names, Bundle.fit n = true)
    (hk : (Cond.classLink own ik cls).before args s = true) (hini : (Cond.initialized cls).before args s = true) (hstr : ∃ sa, vk_R own is text sa s) (hat : ∀ w ∈ vx_atS own ic cls names, w.before args s = true)
    (hgood : ∀ w ∈ Cond.classLink own ik cls :: Cond.initialized cls :: vx_atS own ic cls names, vx_ot w = true)
    (hEV : EV A s s.heap) (hK : va_K D vwCl (TY ca) s) (hP : va_P D vwCl (w' u) H) (hD : va_D A (w' u)) (hS : va_S A s.heap H locs) (hsize : ls.size = c.maxLocals)
    (d0 : decode cc pc = .ok (.new ik, 3)) (d3 : decode cc (pc + 3) = .ok (.dup, 1)) (d4 : decode cc (pc + 4) = .ok (.ldc is, 2)) (d6 : decode cc (pc + 6) = .ok (.invokespecial ic, 3)) (d9 : decode cc (pc + 9) = .ok (.athrow, 1))
    (hout : ∀ x ∈ c.exceptionTable.toList, False)
    (hRframes : names.length + 3 < R.frames) (hRlocals : (rest.map fun v => v.category).sum + (13 * (names.length + 1) + 43) ≤ R.locals) (hRcells : cells + 1 ≤ R.cells) (hRslots : slots + 6 ≤ R.slots) (hlocks : meth.locks = false)
    (hpx : px cls u) (hc : cells + 1 ≤ mc) (hs : slots + 6 ≤ ms) :
    W p l e R s m args below meth c H locs cells slots (vx_MQ below Qc (QX D ca px w' A) args s mc ms A) (F0 m pc ls rest) := by
  obtain ⟨sa, hstr⟩ := hstr
  exact vx_throwS hx hb hl hown hcls hnames hk hini hstr hat hgood hEV.1 hEV.2.1 hS hsize d0 d3 d4 d6 d9 (fun x h => (hout x h).elim) hRframes hRlocals hRcells hRslots hlocks
    (fun t hvm hz hkp => ⟨u, trivial, ⟨hpx, xt_AW hK hP hD hvm hkp⟩, xt_F hS hz hkp⟩) hS.2.2 hc hs
/-- what a callee threw goes on to the caller's caller -/
theorem xt_out {S : Type} {px : String → S → Prop} {w' : S → va_W} {Qc : Array Value → State → Outcome → State → Prop} {E : String} {ce : Cell} {q : Addr} (u : S) (hout : ∀ x ∈ c.exceptionTable.toList, False) (hlocks : meth.locks = false) (hcell : H[q]? = some ce) (hv : ce.vm = .none) (hcl : s.vm.findClass E = some ce.cls)
    (hK : va_K D vwCl (TY ca) s) (hP : va_P D vwCl (w' u) H) (hD : va_D A (w' u)) (hS : va_S A s.heap H locs) (hpx : px E u) (hc : cells ≤ mc) (hs : slots ≤ ms) :
    vx_W p l e R s m args below meth c H locs cells slots (vx_MQ below Qc (QX D ca px w' A) args s mc ms A) (F0 m pc ls rest) q :=
  vx_out (fun x h => (hout x h).elim) hlocks hcell hv hcl (fun t ht hvm => ⟨u, trivial, ⟨hpx, xt_AW hK hP hD hvm (fun q _ => by rw [ht])⟩, hS.F ht⟩) hS.2.2 hc hs
variable {y : MethodName} {bytes : ByteArray} {maxL nL n index : Nat} {ret : Option FieldType} {wsC : List Cond} {rm : Room} {Ts : List Cond} {own C : String} {b : Addr} {As : List Value} {Qc : (Nat → Prop) → Array Value → State → Outcome → State → Prop} {XC : (Nat → Prop) → String → State → State → Prop}
theorem xt_PE (hK : va_K D vwCl (TY ca) s) (hP : va_P D vwCl ws H) (hD : va_D A ws) (hS : va_S A s.heap H locs) (hA : ∀ q, s.heap.size ≤ q → A q) (hEV : EV A s s.heap) (isC : List Nat) (hC : isC.map (fun i => ws[i]?) = wc.map some) (hn : va_nd isC = true) {U : State} (hU : U.heap = H) (hW : s.WarmedH U.vm) : PE D ca H.size wc U :=
  ⟨⟨by rw [hU], by rw [hU]; exact hP.sub2 isC hC, va_K.moved hW.alike hK, xk_D hD isC hn hC⟩, hEV.call hS hU hW (va_free hD hS hA isC hC)⟩
/-- a call of an instance's method that may throw -/
theorem xt_V (S0 : CallFix p m c cc nL s args Ts own) (hM : MX l y wsC rm D ca (.ref b :: As) H.size wc Qc XC) (cw : CallW R s args own C index y bytes maxL ret wsC rm rm.cells rm.slots n)
    (hK : va_K D vwCl (TY ca) s) (hP : va_P D vwCl ws H) (hD : va_D A ws) (hS : va_S A s.heap H locs) (hA : ∀ q, s.heap.size ≤ q → A q) (hEV : EV A s s.heap) (hrv : ∃ cell : Cell, H[b]? = some cell ∧ cell.vm.isStatics = false ∧ s.vm.findClass C = some cell.cls)
    (isC : List Nat) (hC : isC.map (fun i => ws[i]?) = wc.map some) (hn : va_nd isC = true)
    (hnA : As.length = n) (hsz : ls.size = nL) (hst : st0 = As.reverse ++ .ref b :: rest) (hW : (rest.map fun v => v.category).sum ≤ 8) (hdg : decode cc pc = .ok (.invokevirtual index, 3)) (hf : cells + rm.cells ≤ R.cells ∧ slots + rm.slots ≤ R.slots) :
    vx_Run p l e R s m args below meth c H locs cells slots rm.cells rm.slots (F0 m pc ls st0) rest (Qc (va_A wc H.size) (Value.ref b :: As).toArray) (XC (va_A wc H.size)) (va_A wc H.size) :=
  vx_runV (As := As) (rest := rest) S0 hM cw ⟨PE_blind, hrv, fun U hU hW => ⟨rfl, xt_PE hK hP hD hS hA hEV isC hC hn hU hW⟩⟩ rfl hnA hsz hst (lv_room hW) hdg hf
/-- .. of a method that needs the environment and returns -/
theorem xt_VE (S0 : CallFix p m c cc nL s args Ts own) (hM : ME l y wsC rm D ca (.ref b :: As) H.size wc Qc) (cw : CallW R s args own C index y bytes maxL ret wsC rm rm.cells rm.slots n)
    (hK : va_K D vwCl (TY ca) s) (hP : va_P D vwCl ws H) (hD : va_D A ws) (hS : va_S A s.heap H locs) (hA : ∀ q, s.heap.size ≤ q → A q) (hEV : EV A s s.heap) (hrv : ∃ cell : Cell, H[b]? = some cell ∧ cell.vm.isStatics = false ∧ s.vm.findClass C = some cell.cls)
    (isC : List Nat) (hC : isC.map (fun i => ws[i]?) = wc.map some) (hn : va_nd isC = true)
    (hnA : As.length = n) (hsz : ls.size = nL) (hst : st0 = As.reverse ++ .ref b :: rest) (hW : (rest.map fun v => v.category).sum ≤ 8) (hdg : decode cc pc = .ok (.invokevirtual index, 3)) (hf : cells + rm.cells ≤ R.cells ∧ slots + rm.slots ≤ R.slots) :
    va_Run p l e R s m args below meth c H locs cells slots rm.cells rm.slots (F0 m pc ls st0) rest (Qc (va_A wc H.size) (Value.ref b :: As).toArray) (va_A wc H.size) :=
  va_runV (As := As) (rest := rest) S0 hM cw ⟨PE_blind, hrv, fun U hU hW => ⟨rfl, xt_PE hK hP hD hS hA hEV isC hC hn hU hW⟩⟩ rfl hnA hsz hst (lv_room hW) hdg hf
theorem xt_I (S0 : CallFix p m c cc nL s args Ts own) (hM : ME l y wsC rm D ca (.ref b :: As) H.size wc Qc) (cw : CallB R s args own index y bytes maxL none wsC rm rm.cells rm.slots n ∧ y.name = "<init>" ∧ (Cond.instanceMethod y).before args s = true)
    (hK : va_K D vwCl (TY ca) s) (hP : va_P D vwCl ws H) (hD : va_D A ws) (hS : va_S A s.heap H locs) (hA : ∀ q, s.heap.size ≤ q → A q) (hEV : EV A s s.heap)
    (isC : List Nat) (hC : isC.map (fun i => ws[i]?) = wc.map some) (hn : va_nd isC = true)
    (hnA : As.length = n) (hsz : ls.size = nL) (hst : st0 = As.reverse ++ .ref b :: rest) (hW : (rest.map fun v => v.category).sum ≤ 8) (hdg : decode cc pc = .ok (.invokespecial index, 3)) (hf : cells + rm.cells ≤ R.cells ∧ slots + rm.slots ≤ R.slots) :
    va_Run p l e R s m args below meth c H locs cells slots rm.cells rm.slots (F0 m pc ls st0) rest (Qc (va_A wc H.size) (Value.ref b :: As).toArray) (va_A wc H.size) :=
  va_runI (As := As) (rest := rest) S0 hM cw ⟨PE_blind, fun U hU hW => ⟨rfl, xt_PE hK hP hD hS hA hEV isC hC hn hU hW⟩⟩ rfl hnA hsz hst (lv_room hW) hdg hf
theorem xt_IN {host : String} (S0 : CallFix p m c cc nL s args Ts own) (hM : ME l y wsC rm D ca (.ref b :: As) H.size wc Qc) (cw : va_CN R s args own index y host bytes maxL none wsC rm rm.cells rm.slots n ∧ y.name = "<init>" ∧ (Cond.instanceMethod y).before args s = true)
    (hK : va_K D vwCl (TY ca) s) (hP : va_P D vwCl ws H) (hD : va_D A ws) (hS : va_S A s.heap H locs) (hA : ∀ q, s.heap.size ≤ q → A q) (hEV : EV A s s.heap)
    (isC : List Nat) (hC : isC.map (fun i => ws[i]?) = wc.map some) (hn : va_nd isC = true)
    (hnA : As.length = n) (hsz : ls.size = nL) (hst : st0 = As.reverse ++ .ref b :: rest) (hW : (rest.map fun v => v.category).sum ≤ 8) (hdg : decode cc pc = .ok (.invokespecial index, 3)) (hf : cells + rm.cells ≤ R.cells ∧ slots + rm.slots ≤ R.slots) :
    va_Run p l e R s m args below meth c H locs cells slots rm.cells rm.slots (F0 m pc ls st0) rest (Qc (va_A wc H.size) (Value.ref b :: As).toArray) (va_A wc H.size) :=
  va_runIN (As := As) (rest := rest) S0 hM cw ⟨PE_blind, fun U hU hW => ⟨rfl, xt_PE hK hP hD hS hA hEV isC hC hn hU hW⟩⟩ rfl hnA hsz hst (lv_room hW) hdg hf
theorem xt_IN0 {host : String} (S0 : CallFix p m c cc nL s args Ts own) (hM : MM l y wsC rm D ca (.ref b :: As) H.size wc Qc) (cw : va_CN R s args own index y host bytes maxL none wsC rm rm.cells rm.slots n ∧ y.name = "<init>" ∧ (Cond.instanceMethod y).before args s = true)
    (hK : va_K D vwCl (TY ca) s) (hP : va_P D vwCl ws H) (hD : va_D A ws)
    (isC : List Nat) (hC : isC.map (fun i => ws[i]?) = wc.map some) (hn : va_nd isC = true)
    (hnA : As.length = n) (hsz : ls.size = nL) (hst : st0 = As.reverse ++ .ref b :: rest) (hW : (rest.map fun v => v.category).sum ≤ 8) (hdg : decode cc pc = .ok (.invokespecial index, 3)) (hf : cells + rm.cells ≤ R.cells ∧ slots + rm.slots ≤ R.slots) :
    va_Run p l e R s m args below meth c H locs cells slots rm.cells rm.slots (F0 m pc ls st0) rest (Qc (va_A wc H.size) (Value.ref b :: As).toArray) (va_A wc H.size) :=
  va_runIN (As := As) (rest := rest) S0 hM cw ⟨PB_blind, fun U hU hW => ⟨rfl, by rw [hU], by rw [hU]; exact hP.sub2 isC hC, va_K.moved hW.alike hK, xk_D hD isC hn hC⟩⟩ rfl hnA hsz hst (lv_room hW) hdg hf
theorem xt_join {w1 wn : va_W} (hP : va_P D vwCl ws H) (hD : va_D A ws) (hF : ∀ q, va_A wc H.size q → A q) (isC isR pm : List Nat) (hC : isC.map (fun i => ws[i]?) = wc.map some) (hR : isR.map (fun i => ws[i]?) = wr.map some) (hn1 : va_nd isR = true) (hdj : va_dj isR isC = true) (hpm : pm.map (fun i => (wr ++ w1)[i]?) = wn.map some) (hn2 : va_nd pm = true)
    (hk1 : ∀ q : Nat, q < H.size → ¬ va_A wc H.size q → H1[q]? = H[q]?) (hP1 : va_P D vwCl w1 H1) (hD1 : va_D (va_A wc H.size) w1) : va_P D vwCl wn H1 ∧ va_D A wn := by
  obtain ⟨h1, h2⟩ := va_join (wr := wr) hP hD isC isR hC hR hn1 (va_dj_of hdj) hk1 hF hP1 hD1
  exact ⟨h1.sub2 pm hpm, h2.sub pm hn2 hpm⟩
/-- behind a call that may throw: returned, or thrown -/
theorem xt_i {S SX : Type} {post : Int32 → S → Prop} {w' : S → va_W} {px : String → SX → Prop} {wX : SX → va_W} (wr : va_W) (wn : S → va_W) (wnX : SX → va_W) (hr : vx_Run p l e R s m args below meth c H locs cells slots mc ms (F0 m pc ls st0) rest (QI D ca post w' (va_A wc H.size) a) (QX D ca px wX (va_A wc H.size)) (va_A wc H.size)) (hP : va_P D vwCl ws H) (hD : va_D A ws) (hS : va_S A H0 H locs) (hA : ∀ q, H0.size ≤ q → A q)
    (isC isR pm : List Nat) (hC : isC.map (fun i => ws[i]?) = wc.map some) (hR : isR.map (fun i => ws[i]?) = wr.map some) (hn1 : va_nd isR = true) (hdj : va_dj isR isC = true) (hpm : ∀ u, pm.map (fun i => (wr ++ w' u)[i]?) = (wn u).map some) (hpmX : ∀ u, pm.map (fun i => (wr ++ wX u)[i]?) = (wnX u).map some) (hn2 : va_nd pm = true)
    (kx : ∀ (E : String) (ce : Cell) (q9 : Addr) (u : SX) (H1 : Heap) (locs1 : List Loc), px E u → va_P D vwCl (wnX u) H1 → va_D A (wnX u) → va_S A H0 H1 locs1 → H1[q9]? = some ce → ce.vm = .none → s.vm.findClass E = some ce.cls → vx_W p l e R s m args below meth c H1 locs1 (cells + mc) (slots + ms) Q (F0 m pc ls rest) q9)
    (kk : ∀ (r : Int32) (u : S) (H1 : Heap) (locs1 : List Loc), post r u → va_P D vwCl (wn u) H1 → va_D A (wn u) → va_S A H0 H1 locs1 → W p l e R s m args below meth c H1 locs1 (cells + mc) (slots + ms) Q (F0 m (pc + 3) ls (.int r :: rest))) : W p l e R s m args below meth c H locs cells slots Q (F0 m pc ls st0) := by
  have hF := va_free hD hS hA isC hC
  exact vx_calli hr hS (fun q _ h => hF q h) hF (fun q _ h => hF q h) (fun E ce q9 u t H1 locs1 ht hvm hw hB hz1 hk1 hS1 g1 g2 g3 => by
    obtain ⟨hpx, hP1, hK1, hD1⟩ := hB
    rw [ht] at hP1
    obtain ⟨h1, h2⟩ := xt_join hP hD hF isC isR pm hC hR hn1 hdj (hpmX u) hn2 hk1 hP1 hD1
    exact kx E ce q9 u H1 locs1 hpx h1 h2 hS1 g1 g2 g3) (fun r u t H1 locs1 ht hvm hw hB hz1 hk1 hS1 => by
    obtain ⟨hP1, hK1, hD1⟩ := hB
    rw [ht] at hP1
    obtain ⟨h1, h2⟩ := xt_join hP hD hF isC isR pm hC hR hn1 hdj (hpm u) hn2 hk1 hP1 hD1
    exact kk r u H1 locs1 hw h1 h2 hS1)
theorem xt_v {S SX : Type} {post : S → Prop} {w' : S → va_W} {px : String → SX → Prop} {wX : SX → va_W} (wr : va_W) (wn : S → va_W) (wnX : SX → va_W) (hr : vx_Run p l e R s m args below meth c H locs cells slots mc ms (F0 m pc ls st0) rest (QV D ca post w' (va_A wc H.size) a) (QX D ca px wX (va_A wc H.size)) (va_A wc H.size)) (hP : va_P D vwCl ws H) (hD : va_D A ws) (hS : va_S A H0 H locs) (hA : ∀ q, H0.size ≤ q → A q)
    (isC isR pm : List Nat) (hC : isC.map (fun i => ws[i]?) = wc.map some) (hR : isR.map (fun i => ws[i]?) = wr.map some) (hn1 : va_nd isR = true) (hdj : va_dj isR isC = true) (hpm : ∀ u, pm.map (fun i => (wr ++ w' u)[i]?) = (wn u).map some) (hpmX : ∀ u, pm.map (fun i => (wr ++ wX u)[i]?) = (wnX u).map some) (hn2 : va_nd pm = true)
    (kx : ∀ (E : String) (ce : Cell) (q9 : Addr) (u : SX) (H1 : Heap) (locs1 : List Loc), px E u → va_P D vwCl (wnX u) H1 → va_D A (wnX u) → va_S A H0 H1 locs1 → H1[q9]? = some ce → ce.vm = .none → s.vm.findClass E = some ce.cls → vx_W p l e R s m args below meth c H1 locs1 (cells + mc) (slots + ms) Q (F0 m pc ls rest) q9)
    (kk : ∀ (u : S) (H1 : Heap) (locs1 : List Loc), post u → va_P D vwCl (wn u) H1 → va_D A (wn u) → va_S A H0 H1 locs1 → W p l e R s m args below meth c H1 locs1 (cells + mc) (slots + ms) Q (F0 m (pc + 3) ls rest)) : W p l e R s m args below meth c H locs cells slots Q (F0 m pc ls st0) := by
  have hF := va_free hD hS hA isC hC
  exact vx_callv hr hS (fun q _ h => hF q h) hF (fun q _ h => hF q h) (fun E ce q9 u t H1 locs1 ht hvm hw hB hz1 hk1 hS1 g1 g2 g3 => by
    obtain ⟨hpx, hP1, hK1, hD1⟩ := hB
    rw [ht] at hP1
    obtain ⟨h1, h2⟩ := xt_join hP hD hF isC isR pm hC hR hn1 hdj (hpmX u) hn2 hk1 hP1 hD1
    exact kx E ce q9 u H1 locs1 hpx h1 h2 hS1 g1 g2 g3) (fun u t H1 locs1 ht hvm hw hB hz1 hk1 hS1 => by
    obtain ⟨hP1, hK1, hD1⟩ := hB
    rw [ht] at hP1
    obtain ⟨h1, h2⟩ := xt_join hP hD hF isC isR pm hC hR hn1 hdj (hpm u) hn2 hk1 hP1 hD1
    exact kk u H1 locs1 hw h1 h2 hS1)
end XT
