abbrev xNm : List String := ["java/lang/RuntimeException", "java/lang/Exception"]
theorem xw_IO : ∀ w ∈ (vx_atS RX8 247 xIO xNm).filter (fun w => !goodWord w), w ∈ Cond.castable xIO xIO :: exDec.map (fun n => Cond.declares (Bundle.initS n)) := by decide +kernel
theorem xw_IA : ∀ w ∈ (vx_atS RX8 115 xIA xNm).filter (fun w => !goodWord w), w ∈ Cond.castable xIA xIA :: exDec.map (fun n => Cond.declares (Bundle.initS n)) := by decide +kernel
theorem xw_IS : ∀ w ∈ (vx_atS RX8 80 xIS xNm).filter (fun w => !goodWord w), w ∈ Cond.castable xIS xIS :: exDec.map (fun n => Cond.declares (Bundle.initS n)) := by decide +kernel
theorem xw_NS : ∀ w ∈ (vx_atS RX8 238 xNS xNm).filter (fun w => !goodWord w), w ∈ Cond.castable xNS xNS :: exDec.map (fun n => Cond.declares (Bundle.initS n)) := by decide +kernel
theorem xg_IO : ∀ w ∈ Cond.classLink RX8 243 xIO :: Cond.initialized xIO :: vx_atS RX8 247 xIO xNm, vx_ot w = true := by decide +kernel
theorem xg_IA : ∀ w ∈ Cond.classLink RX8 111 xIA :: Cond.initialized xIA :: vx_atS RX8 115 xIA xNm, vx_ot w = true := by decide +kernel
theorem xg_IS : ∀ w ∈ Cond.classLink RX8 76 xIS :: Cond.initialized xIS :: vx_atS RX8 80 xIS xNm, vx_ot w = true := by decide +kernel
theorem xg_NS : ∀ w ∈ Cond.classLink RX8 234 xNS :: Cond.initialized xNS :: vx_atS RX8 238 xNS xNm, vx_ot w = true := by decide +kernel
theorem xh_of {args : Array Value} {s : State} {L ws : List Cond} {E : String} (hts : ∀ w ∈ ws, w.before args s = true) (hin : ∀ w ∈ L.filter goodWord, w ∈ ws) (hb : ∀ w ∈ L.filter (fun w => !goodWord w), w ∈ Cond.castable E E :: exDec.map (fun n => Cond.declares (Bundle.initS n))) (hE : E ∈ exCls) (hEV : EVs s) : ∀ w ∈ L, w.before args s = true := by
  refine vx_hat (fun w h => hts w (hin w h)) hb (vx_c (va_Nw.use rfl (hEV.2.1 E hE)) (fun w hw => ?_))
  obtain ⟨n, hn, rfl⟩ := List.mem_map.mp hw
  exact va_Nw.use rfl (hEV.2.2.2.2.2.2 n hn)
theorem in_mid {α : Type} {a b : List α} {L : List α} : ∀ w ∈ L, w ∈ a ++ (L ++ b) := fun w h => List.mem_append_right _ (List.mem_append_left _ h)
