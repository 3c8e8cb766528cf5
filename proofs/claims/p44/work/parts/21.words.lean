abbrev xNm : List String := ["java/lang/RuntimeException", "java/lang/Exception"]
theorem xw_IO : ∀ w ∈ (vx_atS RX8 247 xIO xNm).filter (fun w => !goodWord w), w ∈ Cond.castable xIO xIO :: exDec.map (fun n => Cond.declares (Bundle.initS n)) := by decide +kernel
theorem xw_IA : ∀ w ∈ (vx_atS RX8 115 xIA xNm).filter (fun w => !goodWord w), w ∈ Cond.castable xIA xIA :: exDec.map (fun n => Cond.declares (Bundle.initS n)) := by decide +kernel
theorem xw_IS : ∀ w ∈ (vx_atS RX8 80 xIS xNm).filter (fun w => !goodWord w), w ∈ Cond.castable xIS xIS :: exDec.map (fun n => Cond.declares (Bundle.initS n)) := by decide +kernel
theorem xw_NS : ∀ w ∈ (xn_at RX8 238 xNS xNm).filter (fun w => !goodWord w), w ∈ Cond.castable xNS xNS :: exDec.map (fun n => Cond.declares (Bundle.initS n)) := by decide +kernel
theorem xg_IO : ∀ w ∈ Cond.classLink RX8 243 xIO :: Cond.initialized xIO :: vx_atS RX8 247 xIO xNm, vx_ot w = true := by decide +kernel
theorem xg_IA : ∀ w ∈ Cond.classLink RX8 111 xIA :: Cond.initialized xIA :: vx_atS RX8 115 xIA xNm, vx_ot w = true := by decide +kernel
theorem xg_IS : ∀ w ∈ Cond.classLink RX8 76 xIS :: Cond.initialized xIS :: vx_atS RX8 80 xIS xNm, vx_ot w = true := by decide +kernel
theorem xg_NS : ∀ w ∈ Cond.classLink RX8 234 xNS :: Cond.initialized xNS :: xn_at RX8 238 xNS xNm, vx_ot w = true := by decide +kernel
theorem xh_of {args : Array Value} {s : State} {L ws : List Cond} {E : String} (hts : ∀ w ∈ ws, w.before args s = true) (hin : ∀ w ∈ L.filter goodWord, w ∈ ws) (hb : ∀ w ∈ L.filter (fun w => !goodWord w), w ∈ Cond.castable E E :: exDec.map (fun n => Cond.declares (Bundle.initS n))) (hE : E ∈ exCls) (hEV : EVs s) : ∀ w ∈ L, w.before args s = true := by
  refine vx_hat (fun w h => hts w (hin w h)) hb (vx_c (va_Nw.use rfl (hEV.2.1 E hE)) (fun w hw => ?_))
  obtain ⟨n, hn, rfl⟩ := List.mem_map.mp hw
  exact va_Nw.use rfl (hEV.2.2.2.2.2.2 n hn)
theorem in_mid {α : Type} {a b : List α} {L : List α} : ∀ w ∈ L, w ∈ a ++ (L ++ b) := fun w h => List.mem_append_right _ (List.mem_append_left _ h)
section XTN
variable {p : Program} {l : Launch} {e : Env} {R : Room} {s : State} {m : MethodId} {args : Array Value} {below : List Frame} {meth : Method} {c : Code} {H : Heap} {locs : List Loc} {cells slots mc ms : Nat} {Q : State → Prop}
variable {cc : ByteArray} {pc : Nat} {ls : Array Slot} {rest st0 : List Value} {D : va_G} {ca : Nat → ClassId} {A : Nat → Prop} {ws wc wr : va_W} {H0 : Heap} {a : Array Value} {H1 : Heap}
/-- throw new cls(text) -/
theorem xt_throwN {S : Type} {px : String → S → Prop} {w' : S → va_W} {Qc : Array Value → State → Outcome → State → Prop} {own cls text : String} {names : List String} {ik is ic : Nat} (u : S) (hx : p.tables.exec = Jvm.exec) (hb : c.code = cc) (hl : l.stackTraces = false)
    (hown : s.vm.findClass own = some m.cls) (hcls : Bundle.fit cls = true) (hnames : ∀ n ∈ names, Bundle.fit n = true)
    (hk : (Cond.classLink own ik cls).before args s = true) (hini : (Cond.initialized cls).before args s = true) (hstr : ∃ sa, vk_R own is text sa s) (hat : ∀ w ∈ xn_at own ic cls names, w.before args s = true)
    (hgood : ∀ w ∈ Cond.classLink own ik cls :: Cond.initialized cls :: xn_at own ic cls names, vx_ot w = true)
    (hEV : EV A s s.heap) (hK : va_K D vwCl (TY ca) s) (hP : va_P D vwCl (w' u) H) (hD : va_D A (w' u)) (hS : va_S A s.heap H locs) (hsize : ls.size = c.maxLocals)
    (d0 : decode cc pc = .ok (.new ik, 3)) (d3 : decode cc (pc + 3) = .ok (.dup, 1)) (d4 : decode cc (pc + 4) = .ok (.ldc is, 2)) (d6 : decode cc (pc + 6) = .ok (.invokespecial ic, 3)) (d9 : decode cc (pc + 9) = .ok (.athrow, 1))
    (hout : ∀ x ∈ c.exceptionTable.toList, False)
    (hRframes : names.length + 3 < R.frames) (hRlocals : (rest.map fun v => v.category).sum + (13 * (names.length + 1) + 43) ≤ R.locals) (hRcells : cells + 1 ≤ R.cells) (hRslots : slots + 6 ≤ R.slots) (hlocks : meth.locks = false)
    (hpx : px cls u) (hc : cells + 1 ≤ mc) (hs : slots + 6 ≤ ms) :
    W p l e R s m args below meth c H locs cells slots (vx_MQ below Qc (QX D ca px w' A) args s mc ms A) (F0 m pc ls rest) := by
  obtain ⟨sa, hstr⟩ := hstr
  exact xn_throwS hx hb hl hown hcls hnames hk hini hstr hat hgood hEV.1 hEV.2.1 hS hsize d0 d3 d4 d6 d9 (fun x h => (hout x h).elim) hRframes hRlocals hRcells hRslots hlocks
    (fun t hvm hz hkp => ⟨u, trivial, ⟨hpx, xt_AW hK hP hD hvm hkp⟩, xt_F hS hz hkp⟩) hS.2.2 hc hs
end XTN
