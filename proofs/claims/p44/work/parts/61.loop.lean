set_option maxHeartbeats 4000000 in
set_option maxRecDepth 100000 in
/-- the loop -/
theorem law_loop {l : Launch} {pG : Program} {eV : Env} {s : State} {mI : MethodId} {args : Array Value} {below : List Frame} {meth : Method} {cO : Code} {A : Nat → Prop} {D : va_G} {ca : Nat → ClassId} {Q : State → Prop} {b9 : Nat} (hx : pG.tables.exec = Jvm.exec) (hb : cO.code = cL_law) (hml : cO.maxLocals = 17) (hts : ∀ w ∈ wsL_law, w.before args s = true) (hown : s.vm.findClass RL = some mI.cls) (hA : ∀ q : Nat, s.heap.size ≤ q → A q) (hK : va_K D vwCl (TY ca) s) (hEV : EV A s s.heap) (hfl : l.stackTraces = false) {Ln : Nat} {xs : Nat → Int32} (hLn : Ln ≤ 260) (hX : va_X b9 Ln xs s s.heap) (hbl : b9 < s.heap.size) (hbA : ¬ A b9) {many turns cc ss : Nat} (hmany : many ≤ 20) (hturns : turns ≤ 25) (hcc : cc ≤ 13000) (hss : ss ≤ 90000) {x h a b c y ys y1 ya1 yb1 yc1 y2 ya2 yb2 yc2 y3 ya3 yb3 yc3 y4 ya4 yb4 yc4 y5 ya5 yb5 yc5 d de dl dn o ot ow d2 de2 dl2 dn2 o2 ot2 ow2 ro rs kc0 o3 ot3 ow3 kr kt kf kc sc s1 s2 s3 g tx : Nat} {hs : Bool} {T : Nat} {En C : Int} {L N : Nat → Int} {G : Nat → Nat → Int} {z w : Nat} {sp : Int} {e f M : Nat → Int} {zd : Nat} {od : Nat → Nat} {wd : Nat → Int} {sp2 : Int} {e2 f2 M2 : Nat → Int} {zd2 : Nat} {od2 : Nat → Nat} {wd2 rv : Nat → Int} {zc : Nat} {oc : Nat → Nat} {wc : Nat → Int} {rb : Nat → Bool} {lt lf : Nat → Int} {ct : Nat → Int64} {ln : Int} {sq wk ws : Nat → Int} {hp : Nat → PS} (hI : INL T En C L N G z w hp) {H : Heap} {locs : List Loc} (hP : va_P D vwCl (LW ca x h a b c y ys y1 ya1 yb1 yc1 y2 ya2 yb2 yc2 y3 ya3 yb3 yc3 y4 ya4 yb4 yc4 y5 ya5 yb5 yc5 d de dl dn o ot ow d2 de2 dl2 dn2 o2 ot2 ow2 ro rs kc0 o3 ot3 ow3 kr kt kf kc sc s1 s2 s3 g tx hs T En C L N G z w sp e f M zd od wd sp2 e2 f2 M2 zd2 od2 wd2 rv zc oc wc rb lt lf ct ln sq wk ws hp) H) (hD : va_D A (LW ca x h a b c y ys y1 ya1 yb1 yc1 y2 ya2 yb2 yc2 y3 ya3 yb3 yc3 y4 ya4 yb4 yc4 y5 ya5 yb5 yc5 d de dl dn o ot ow d2 de2 dl2 dn2 o2 ot2 ow2 ro rs kc0 o3 ot3 ow3 kr kt kf kc sc s1 s2 s3 g tx hs T En C L N G z w sp e f M zd od wd sp2 e2 f2 M2 zd2 od2 wd2 rv zc oc wc rb lt lf ct ln sq wk ws hp)) (hS : va_S A s.heap H locs) {ls : Array Slot} (hl : lv_has ls 17 [(0, .ref b9), (1, .ref x), (2, .int (nI many)), (3, .int (nI 1)), (4, .int (iZ C)), (5, .int (nI turns))]) (hend : ∀ (H : Heap) (locs : List Loc), va_S A s.heap H locs → ∀ ls : Array Slot, W pG l eV room_1 s mI args below meth cO H locs 500000 5000000 Q (F0 mI 836 ls [])) : W pG l eV room_1 s mI args below meth cO H locs cc ss Q (F0 mI 122 ls []) := by
  refine lv_iconst (v := nI (0)) hx hb dL_law_122 (by decide) ?_
  refine lv_istore (lv' := [(6, .int (nI 0)), (0, .ref b9), (1, .ref x), (2, .int (nI many)), (3, .int (nI 1)), (4, .int (iZ C)), (5, .int (nI turns))]) hx hb dL_law_123 hl (by decide) rfl (fun ls hl => ?_)
  have L125 : ∀ (fu : Nat) (hs : Bool) (T : Nat) (En : Int) (C : Int) (L : Nat → Int) (N : Nat → Int) (G : Nat → Nat → Int) (z : Nat) (w : Nat) (sp : Int) (e : Nat → Int) (f : Nat → Int) (M : Nat → Int) (zd : Nat) (od : Nat → Nat) (wd : Nat → Int) (sp2 : Int) (e2 : Nat → Int) (f2 : Nat → Int) (M2 : Nat → Int) (zd2 : Nat) (od2 : Nat → Nat) (wd2 : Nat → Int) (rv : Nat → Int) (zc : Nat) (oc : Nat → Nat) (wc : Nat → Int) (rb : Nat → Bool) (lt : Nat → Int) (lf : Nat → Int) (ct : Nat → Int64) (ln : Int) (sq : Nat → Int) (wk : Nat → Int) (ws : Nat → Int) (hp : Nat → PS) (n : Nat) (cc : Nat) (ss : Nat), (INL T En C L N G z w hp) → (n ≤ 26) → (cc ≤ 13000 + 6200 * n) → (ss ≤ 90000 + 42000 * n) → (turns - n) < fu → ∀ (H : Heap) (locs : List Loc), va_P D vwCl (LW ca x h a b c y ys y1 ya1 yb1 yc1 y2 ya2 yb2 yc2 y3 ya3 yb3 yc3 y4 ya4 yb4 yc4 y5 ya5 yb5 yc5 d de dl dn o ot ow d2 de2 dl2 dn2 o2 ot2 ow2 ro rs kc0 o3 ot3 ow3 kr kt kf kc sc s1 s2 s3 g tx hs T En C L N G z w sp e f M zd od wd sp2 e2 f2 M2 zd2 od2 wd2 rv zc oc wc rb lt lf ct ln sq wk ws hp) H → va_D A (LW ca x h a b c y ys y1 ya1 yb1 yc1 y2 ya2 yb2 yc2 y3 ya3 yb3 yc3 y4 ya4 yb4 yc4 y5 ya5 yb5 yc5 d de dl dn o ot ow d2 de2 dl2 dn2 o2 ot2 ow2 ro rs kc0 o3 ot3 ow3 kr kt kf kc sc s1 s2 s3 g tx hs T En C L N G z w sp e f M zd od wd sp2 e2 f2 M2 zd2 od2 wd2 rv zc oc wc rb lt lf ct ln sq wk ws hp) → va_S A s.heap H locs → ∀ ls : Array Slot, lv_has ls 17 [(6, .int (nI n)), (0, .ref b9), (1, .ref x), (2, .int (nI many)), (3, .int (nI 1)), (4, .int (iZ C)), (5, .int (nI turns))] → W pG l eV room_1 s mI args below meth cO H locs cc ss Q (F0 mI 125 ls []) := by
    clear hP hD hS hl
    intro fu; induction fu with
    | zero => intro hs T En C L N G z w sp e f M zd od wd sp2 e2 f2 M2 zd2 od2 wd2 rv zc oc wc rb lt lf ct ln sq wk ws hp n cc ss hI hn hcc hss hmu; exact absurd hmu (Nat.not_lt_zero _)
    | succ n125 ih125 =>
      intro hs T En C L N G z w sp e f M zd od wd sp2 e2 f2 M2 zd2 od2 wd2 rv zc oc wc rb lt lf ct ln sq wk ws hp n cc ss hI hn hcc hss hmu125 H locs hP hD hS ls hl
      refine lv_iload hx hb dL_law_125 (lv_at hl 0 rfl) ?_
      obtain ⟨hI0, hT1, hz1⟩ := id hI
      have hT := hI0.1.1
      have hC9 := hI0.1.2.1
      refine lv_iload hx hb dL_law_127 (lv_at hl 6 rfl) ?_
      refine lv_icmp_ge (tgt := 825) hx hb dL_law_129 (by decide) (fun h129 => ?_) (fun h129 => ?_)
      · skip
        have h129 := (cL (nI_toInt (by omega)) (nI_toInt (by omega))).mp h129
        refine lv_iload_n hx hb dL_law_825 rfl (lv_at hl 4 rfl) ?_
        refine lv_if_eq (tgt := 840) hx hb dL_law_826 (by decide) (fun h826 => ?_) (fun h826 => ?_)
        · skip
          have h826 := (cE (nI_toInt (by omega)) z0_toInt).mp h826
          exact absurd h826 (by omega)
        · skip
          have h826 := (not_congr (cE (nI_toInt (by omega)) z0_toInt)).mp h826
          refine lv_aload_n hx hb dL_law_829 rfl (lv_at hl 2 rfl) ?_
          refine xk_i [] (fun u => (LW ca x h a b c y ys y1 ya1 yb1 yc1 y2 ya2 yb2 yc2 y3 ya3 yb3 yc3 y4 ya4 yb4 yc4 y5 ya5 yb5 yc5 d de dl dn o ot ow d2 de2 dl2 dn2 o2 ot2 ow2 ro rs kc0 o3 ot3 ow3 kr kt kf kc sc s1 s2 s3 g tx hs T En C L N G z w u.2.2.1 u.1 u.2.1 u.2.2.2.1 u.2.2.2.2.1 u.2.2.2.2.2.1 u.2.2.2.2.2.2.1 sp2 e2 f2 M2 zd2 od2 wd2 u.2.2.2.2.2.2.2.1 u.2.2.2.2.2.2.2.2.1 u.2.2.2.2.2.2.2.2.2.1 u.2.2.2.2.2.2.2.2.2.2.1 rb u.2.2.2.2.2.2.2.2.2.2.2.1 u.2.2.2.2.2.2.2.2.2.2.2.2.1 u.2.2.2.2.2.2.2.2.2.2.2.2.2 ln sq wk ws hp)) (xt_SE (As := [.ref x]) (rest := []) ⟨hx, hb, hml, hown, hts⟩ (mL_days l D ca H.size x h a b c y ys y1 ya1 yb1 yc1 y2 ya2 yb2 yc2 y3 ya3 yb3 yc3 y4 ya4 yb4 yc4 y5 ya5 yb5 yc5 d de dl dn o ot ow d2 de2 dl2 dn2 o2 ot2 ow2 ro rs kc0 o3 ot3 ow3 kr kt kf kc sc s1 s2 s3 g tx hs T En C L N G z w sp e f M zd od wd sp2 e2 f2 M2 zd2 od2 wd2 rv zc oc wc rb lt lf ct ln sq wk ws hp hfl hI0.1 hI0.2.1) (va_cwS 1 hts gL_law_L_days rfl rfl rfl (by decide +kernel) ⟨Nat.le_of_ble_eq_true rfl, Nat.le_of_ble_eq_true rfl⟩) hK hP hD hS hA hEV [0, 1, 2, 3, 4, 5, 6, 7, 8, 9, 10, 11, 12, 13, 14, 15, 16, 17, 18, 19, 20, 21, 22, 23, 24, 25, 26, 27, 28, 29, 30, 31, 32, 33, 34, 35, 36, 37, 38, 39, 40, 41, 42, 43, 44, 45, 46, 47, 48, 49, 50, 51, 52, 53, 54] rfl rfl rfl hl.1 rfl (Nat.le_of_ble_eq_true rfl) dL_law_830 ⟨(by show cc + 6000 ≤ 646004; omega), (by show ss + 40000 ≤ 7163455; omega)⟩) hP hD hS hA [0, 1, 2, 3, 4, 5, 6, 7, 8, 9, 10, 11, 12, 13, 14, 15, 16, 17, 18, 19, 20, 21, 22, 23, 24, 25, 26, 27, 28, 29, 30, 31, 32, 33, 34, 35, 36, 37, 38, 39, 40, 41, 42, 43, 44, 45, 46, 47, 48, 49, 50, 51, 52, 53, 54] [] [0, 1, 2, 3, 4, 5, 6, 7, 8, 9, 10, 11, 12, 13, 14, 15, 16, 17, 18, 19, 20, 21, 22, 23, 24, 25, 26, 27, 28, 29, 30, 31, 32, 33, 34, 35, 36, 37, 38, 39, 40, 41, 42, 43, 44, 45, 46, 47, 48, 49, 50, 51, 52, 53, 54] rfl rfl rfl rfl (fun _ => rfl) rfl (fun r830 u830 H locs hw830 hP hD hS => ?_)
          obtain ⟨e1830, f1830, sp1830, M1830, zd1830, od1830, wd1830, rv1830, zc1830, oc1830, wc1830, lt1830, lf1830, ct1830⟩ := u830
          have hw830 : r830 = nI 1 := hw830
          have hP : va_P D vwCl (LW ca x h a b c y ys y1 ya1 yb1 yc1 y2 ya2 yb2 yc2 y3 ya3 yb3 yc3 y4 ya4 yb4 yc4 y5 ya5 yb5 yc5 d de dl dn o ot ow d2 de2 dl2 dn2 o2 ot2 ow2 ro rs kc0 o3 ot3 ow3 kr kt kf kc sc s1 s2 s3 g tx hs T En C L N G z w sp1830 e1830 f1830 M1830 zd1830 od1830 wd1830 sp2 e2 f2 M2 zd2 od2 wd2 rv1830 zc1830 oc1830 wc1830 rb lt1830 lf1830 ct1830 ln sq wk ws hp) H := hP
          have hD : va_D A (LW ca x h a b c y ys y1 ya1 yb1 yc1 y2 ya2 yb2 yc2 y3 ya3 yb3 yc3 y4 ya4 yb4 yc4 y5 ya5 yb5 yc5 d de dl dn o ot ow d2 de2 dl2 dn2 o2 ot2 ow2 ro rs kc0 o3 ot3 ow3 kr kt kf kc sc s1 s2 s3 g tx hs T En C L N G z w sp1830 e1830 f1830 M1830 zd1830 od1830 wd1830 sp2 e2 f2 M2 zd2 od2 wd2 rv1830 zc1830 oc1830 wc1830 rb lt1830 lf1830 ct1830 ln sq wk ws hp) := hD
          have hwr830 := hw830
          subst hwr830
          refine lv_if_eq (tgt := 840) hx hb dL_law_833 (by decide) (fun h833 => ?_) (fun h833 => ?_)
          · skip
            have h833 := (cE (nI_toInt (by omega)) z0_toInt).mp h833
            exact absurd h833 (by omega)
          · skip
            have h833 := (not_congr (cE (nI_toInt (by omega)) z0_toInt)).mp h833
            exact W.widen (by show cc + 6000 ≤ 500000; omega) (by show ss + 40000 ≤ 5000000; omega) (hend H locs hS ls)
      · skip
        have h129 := (not_congr (cL (nI_toInt (by omega)) (nI_toInt (by omega)))).mp h129
        refine lv_iload_n hx hb dL_law_132 rfl (lv_at hl 4 rfl) ?_
        refine lv_if_eq (tgt := 825) hx hb dL_law_133 (by decide) (fun h133 => ?_) (fun h133 => ?_)
        · skip
          have h133 := (cE (nI_toInt (by omega)) z0_toInt).mp h133
          exact absurd h133 (by omega)
        · skip
          have h133 := (not_congr (cE (nI_toInt (by omega)) z0_toInt)).mp h133
          refine lv_aload_n hx hb dL_law_136 rfl (lv_at hl 1 rfl) ?_
          refine lv_bipush (v := nI (23)) hx hb dL_law_137 (by decide) ?_
          refine lv_iload hx hb dL_law_139 (lv_at hl 0 rfl) ?_
          refine xr_iadd hx hb dL_law_141 ?_
          refine xk_pi (xk_SX (As := [.ref b9, .int (nI (23 + n))]) (rest := []) ⟨hx, hb, hml, hown, hts⟩ (mL_cell l D ca H.size b9 (23 + n) Ln xs hLn (by omega)) (va_cwS 2 hts gL_law_L_cell rfl rfl rfl (by decide +kernel) ⟨Nat.le_of_ble_eq_true rfl, Nat.le_of_ble_eq_true rfl⟩) hK hS hX hbl hbA rfl hl.1 rfl (Nat.le_of_ble_eq_true rfl) dL_law_142 ⟨(by show cc + 0 ≤ 646004; omega), (by show ss + 0 ≤ 7163455; omega)⟩) hP hD hS hA [] rfl ⟨rfl, rfl⟩ (fun r142 H locs hw142 hP hS => ?_)
          refine lv_istore (lv' := [(7, .int (r142)), (6, .int (nI n)), (0, .ref b9), (1, .ref x), (2, .int (nI many)), (3, .int (nI 1)), (4, .int (iZ C)), (5, .int (nI turns))]) hx hb dL_law_145 hl (by decide) rfl (fun ls hl => ?_)
          refine lv_aload_n hx hb dL_law_147 rfl (lv_at hl 3 rfl) ?_
          refine xt_i [(a, .inl (ca 0, 20, .inl (zF L))), (b, .inl (ca 0, 20, .inl (zF N))), (c, .inl (ca 0, 400, .inl (zG G))), (y, .inr (2, [.int (nI z), .int (nI w), .ref ys])), (ys, .inl (ca 5, 5, .inr (.inr (.inr (.inr (hs5 y1 y2 y3 y4 y5)))))), (y1, .inr (7, [.int (nI ((hp 0).1)), .int (iZ ((hp 0).2.1)), .int (iZ ((hp 0).2.2.1)), .ref ya1, .ref yb1, .ref yc1])), (ya1, .inl (ca 0, 20, .inl (zF ((hp 0).2.2.2.1)))), (yb1, .inl (ca 0, 20, .inl (zF ((hp 0).2.2.2.2.1)))), (yc1, .inl (ca 0, 400, .inl (zG ((hp 0).2.2.2.2.2)))), (y2, .inr (7, [.int (nI ((hp 1).1)), .int (iZ ((hp 1).2.1)), .int (iZ ((hp 1).2.2.1)), .ref ya2, .ref yb2, .ref yc2])), (ya2, .inl (ca 0, 20, .inl (zF ((hp 1).2.2.2.1)))), (yb2, .inl (ca 0, 20, .inl (zF ((hp 1).2.2.2.2.1)))), (yc2, .inl (ca 0, 400, .inl (zG ((hp 1).2.2.2.2.2)))), (y3, .inr (7, [.int (nI ((hp 2).1)), .int (iZ ((hp 2).2.1)), .int (iZ ((hp 2).2.2.1)), .ref ya3, .ref yb3, .ref yc3])), (ya3, .inl (ca 0, 20, .inl (zF ((hp 2).2.2.2.1)))), (yb3, .inl (ca 0, 20, .inl (zF ((hp 2).2.2.2.2.1)))), (yc3, .inl (ca 0, 400, .inl (zG ((hp 2).2.2.2.2.2)))), (y4, .inr (7, [.int (nI ((hp 3).1)), .int (iZ ((hp 3).2.1)), .int (iZ ((hp 3).2.2.1)), .ref ya4, .ref yb4, .ref yc4])), (ya4, .inl (ca 0, 20, .inl (zF ((hp 3).2.2.2.1)))), (yb4, .inl (ca 0, 20, .inl (zF ((hp 3).2.2.2.2.1)))), (yc4, .inl (ca 0, 400, .inl (zG ((hp 3).2.2.2.2.2)))), (y5, .inr (7, [.int (nI ((hp 4).1)), .int (iZ ((hp 4).2.1)), .int (iZ ((hp 4).2.2.1)), .ref ya5, .ref yb5, .ref yc5])), (ya5, .inl (ca 0, 20, .inl (zF ((hp 4).2.2.2.1)))), (yb5, .inl (ca 0, 20, .inl (zF ((hp 4).2.2.2.2.1)))), (yc5, .inl (ca 0, 400, .inl (zG ((hp 4).2.2.2.2.2)))), (d, .inr (1, [.ref de, .ref dl, .int (iZ sp), .ref dn, .ref o])), (de, .inl (ca 0, 20, .inl (zF e))), (dl, .inl (ca 0, 20, .inl (zF f))), (dn, .inl (ca 0, 20, .inl (zF M))), (o, .inr (3, [.int (nI zd), .ref ot, .ref ow])), (ot, .inl (ca 0, 20, .inl (nF od))), (ow, .inl (ca 0, 20, .inl (zF wd))), (d2, .inr (1, [.ref de2, .ref dl2, .int (iZ sp2), .ref dn2, .ref o2])), (de2, .inl (ca 0, 20, .inl (zF e2))), (dl2, .inl (ca 0, 20, .inl (zF f2))), (dn2, .inl (ca 0, 20, .inl (zF M2))), (o2, .inr (3, [.int (nI zd2), .ref ot2, .ref ow2])), (ot2, .inl (ca 0, 20, .inl (nF od2))), (ow2, .inl (ca 0, 20, .inl (zF wd2))), (ro, .inr (5, [.ref rs])), (rs, .inl (ca 0, 20, .inl (zF rv))), (kc0, .inr (0, [.ref o3, .ref kr, .ref kt, .ref kf, .ref kc])), (o3, .inr (3, [.int (nI zc), .ref ot3, .ref ow3])), (ot3, .inl (ca 0, 20, .inl (nF oc))), (ow3, .inl (ca 0, 20, .inl (zF wc))), (kr, .inl (ca 1, 20, .inl (bF rb))), (kt, .inl (ca 0, 20, .inl (zF lt))), (kf, .inl (ca 0, 20, .inl (zF lf))), (kc, .inl (ca 3, 20, .inr (.inl ct))), (sc, .inr (6, [.int (iZ ln), .ref s1, .ref s2, .ref s3])), (s1, .inl (ca 0, 20, .inl (zF sq))), (s2, .inl (ca 0, 1000, .inl (zF wk))), (s3, .inl (ca 0, 20, .inl (zF ws)))] (fun u => (LW ca x h a b c y ys y1 ya1 yb1 yc1 y2 ya2 yb2 yc2 y3 ya3 yb3 yc3 y4 ya4 yb4 yc4 y5 ya5 yb5 yc5 d de dl dn o ot ow d2 de2 dl2 dn2 o2 ot2 ow2 ro rs kc0 o3 ot3 ow3 kr kt kf kc sc s1 s2 s3 g tx hs T En C L N G z w sp e f M zd od wd sp2 e2 f2 M2 zd2 od2 wd2 rv zc oc wc rb lt lf ct ln sq wk ws hp)) (fun v => (LW ca x h a b c y ys y1 ya1 yb1 yc1 y2 ya2 yb2 yc2 y3 ya3 yb3 yc3 y4 ya4 yb4 yc4 y5 ya5 yb5 yc5 d de dl dn o ot ow d2 de2 dl2 dn2 o2 ot2 ow2 ro rs kc0 o3 ot3 ow3 kr kt kf kc sc s1 s2 s3 g tx hs T En C L N G z w sp e f M zd od wd sp2 e2 f2 M2 zd2 od2 wd2 rv zc oc wc rb lt lf ct ln sq wk ws hp)) (xt_V (As := []) (rest := []) ⟨hx, hb, hml, hown, hts⟩ (mX8_taskCount l hfl D ca H.size x g y tx d d2 ro kc0 sc hs h a b c T En C L N G hI0.1) (cwV 0 hts gL_law_X8_taskCount rfl rfl rfl (by decide +kernel) ⟨Nat.le_of_ble_eq_true rfl, Nat.le_of_ble_eq_true rfl⟩) hK hP hD hS hA hEV (va_recv (q := (RX8, TX8, 10)) hK hP (ci := 8) (q0 := 0) rfl rfl) [0, 1] rfl rfl rfl hl.1 rfl (Nat.le_of_ble_eq_true rfl) dL_law_148 ⟨(by show cc + 0 ≤ 646004; omega), (by show ss + 0 ≤ 7163455; omega)⟩) hP hD hS hA [0, 1] [2, 3, 4, 5, 6, 7, 8, 9, 10, 11, 12, 13, 14, 15, 16, 17, 18, 19, 20, 21, 22, 23, 24, 25, 26, 27, 28, 29, 30, 31, 32, 33, 34, 35, 36, 37, 38, 39, 40, 41, 42, 43, 44, 45, 46, 47, 48, 49, 50, 51, 52, 53, 54] [53, 54, 0, 1, 2, 3, 4, 5, 6, 7, 8, 9, 10, 11, 12, 13, 14, 15, 16, 17, 18, 19, 20, 21, 22, 23, 24, 25, 26, 27, 28, 29, 30, 31, 32, 33, 34, 35, 36, 37, 38, 39, 40, 41, 42, 43, 44, 45, 46, 47, 48, 49, 50, 51, 52] rfl rfl rfl rfl (fun _ => rfl) (fun _ => rfl) rfl (fun E9 ce9 q9 v148 H locs hpx hP hD hS g1 g2 g3 => ?_) (fun r148 u148 H locs hw148 hP hD hS => ?_)
          · skip
            have hpx : False := hpx
            have hP : va_P D vwCl (LW ca x h a b c y ys y1 ya1 yb1 yc1 y2 ya2 yb2 yc2 y3 ya3 yb3 yc3 y4 ya4 yb4 yc4 y5 ya5 yb5 yc5 d de dl dn o ot ow d2 de2 dl2 dn2 o2 ot2 ow2 ro rs kc0 o3 ot3 ow3 kr kt kf kc sc s1 s2 s3 g tx hs T En C L N G z w sp e f M zd od wd sp2 e2 f2 M2 zd2 od2 wd2 rv zc oc wc rb lt lf ct ln sq wk ws hp) H := hP
            have hD : va_D A (LW ca x h a b c y ys y1 ya1 yb1 yc1 y2 ya2 yb2 yc2 y3 ya3 yb3 yc3 y4 ya4 yb4 yc4 y5 ya5 yb5 yc5 d de dl dn o ot ow d2 de2 dl2 dn2 o2 ot2 ow2 ro rs kc0 o3 ot3 ow3 kr kt kf kc sc s1 s2 s3 g tx hs T En C L N G z w sp e f M zd od wd sp2 e2 f2 M2 zd2 od2 wd2 rv zc oc wc rb lt lf ct ln sq wk ws hp) := hD
            exact hpx.elim
          · skip
            have hw148 : r148 = nI T := hw148
            have hP : va_P D vwCl (LW ca x h a b c y ys y1 ya1 yb1 yc1 y2 ya2 yb2 yc2 y3 ya3 yb3 yc3 y4 ya4 yb4 yc4 y5 ya5 yb5 yc5 d de dl dn o ot ow d2 de2 dl2 dn2 o2 ot2 ow2 ro rs kc0 o3 ot3 ow3 kr kt kf kc sc s1 s2 s3 g tx hs T En C L N G z w sp e f M zd od wd sp2 e2 f2 M2 zd2 od2 wd2 rv zc oc wc rb lt lf ct ln sq wk ws hp) H := hP
            have hD : va_D A (LW ca x h a b c y ys y1 ya1 yb1 yc1 y2 ya2 yb2 yc2 y3 ya3 yb3 yc3 y4 ya4 yb4 yc4 y5 ya5 yb5 yc5 d de dl dn o ot ow d2 de2 dl2 dn2 o2 ot2 ow2 ro rs kc0 o3 ot3 ow3 kr kt kf kc sc s1 s2 s3 g tx hs T En C L N G z w sp e f M zd od wd sp2 e2 f2 M2 zd2 od2 wd2 rv zc oc wc rb lt lf ct ln sq wk ws hp) := hD
            have hwr148 := hw148
            subst hwr148
            refine lv_istore (lv' := [(8, .int (nI T)), (7, .int (r142)), (6, .int (nI n)), (0, .ref b9), (1, .ref x), (2, .int (nI many)), (3, .int (nI 1)), (4, .int (iZ C)), (5, .int (nI turns))]) hx hb dL_law_151 hl (by decide) rfl (fun ls hl => ?_)
            refine lv_iload hx hb dL_law_153 (lv_at hl 1 rfl) ?_
            refine lv_iconst (v := nI (4)) hx hb dL_law_155 (by decide) ?_
            refine lv_ishr hx hb dL_law_156 ?_
            refine lv_iload hx hb dL_law_157 (lv_at hl 0 rfl) ?_
            refine xk_pi (xk_S (As := [.int ((r142) >>> ((nI (4)) &&& 31)), .int (nI T)]) (rest := []) ⟨hx, hb, hml, hown, hts⟩ (mL_low l D ca H.size ((r142) >>> ((nI (4)) &&& 31)) T (by omega)) (va_cwS 2 hts gL_law_L_low rfl rfl rfl (by decide +kernel) ⟨Nat.le_of_ble_eq_true rfl, Nat.le_of_ble_eq_true rfl⟩) hK hP hD [] rfl rfl rfl hl.1 rfl (Nat.le_of_ble_eq_true rfl) dL_law_159 ⟨(by show cc + 0 + 0 ≤ 646004; omega), (by show ss + 0 + 0 ≤ 7163455; omega)⟩) hP hD hS hA [] rfl ⟨rfl, rfl⟩ (fun r159 H locs hw159 hP hS => ?_)
            have hw159 : ∃ k : Nat, r159 = nI k ∧ k < T := hw159
            obtain ⟨k159, hk159, hkb159⟩ := hw159
            subst hk159
            refine lv_istore (lv' := [(9, .int (nI k159)), (8, .int (nI T)), (7, .int (r142)), (6, .int (nI n)), (0, .ref b9), (1, .ref x), (2, .int (nI many)), (3, .int (nI 1)), (4, .int (iZ C)), (5, .int (nI turns))]) hx hb dL_law_162 hl (by decide) rfl (fun ls hl => ?_)
            refine lv_iload hx hb dL_law_164 (lv_at hl 2 rfl) ?_
            refine lv_bipush (v := nI (9)) hx hb dL_law_166 (by decide) ?_
            refine lv_ishr hx hb dL_law_168 ?_
            refine lv_iload hx hb dL_law_169 (lv_at hl 1 rfl) ?_
            refine xk_pi (xk_S (As := [.int ((r142) >>> ((nI (9)) &&& 31)), .int (nI T)]) (rest := []) ⟨hx, hb, hml, hown, hts⟩ (mL_low l D ca H.size ((r142) >>> ((nI (9)) &&& 31)) T (by omega)) (va_cwS 2 hts gL_law_L_low rfl rfl rfl (by decide +kernel) ⟨Nat.le_of_ble_eq_true rfl, Nat.le_of_ble_eq_true rfl⟩) hK hP hD [] rfl rfl rfl hl.1 rfl (Nat.le_of_ble_eq_true rfl) dL_law_171 ⟨(by show cc + 0 + 0 ≤ 646004; omega), (by show ss + 0 + 0 ≤ 7163455; omega)⟩) hP hD hS hA [] rfl ⟨rfl, rfl⟩ (fun r171 H locs hw171 hP hS => ?_)
            have hw171 : ∃ k : Nat, r171 = nI k ∧ k < T := hw171
            obtain ⟨k171, hk171, hkb171⟩ := hw171
            subst hk171
            refine lv_istore (lv' := [(10, .int (nI k171)), (9, .int (nI k159)), (8, .int (nI T)), (7, .int (r142)), (6, .int (nI n)), (0, .ref b9), (1, .ref x), (2, .int (nI many)), (3, .int (nI 1)), (4, .int (iZ C)), (5, .int (nI turns))]) hx hb dL_law_174 hl (by decide) rfl (fun ls hl => ?_)
            refine lv_aload_n hx hb dL_law_176 rfl (lv_at hl 6 rfl) ?_
            refine xt_i [(y, .inr (2, [.int (nI z), .int (nI w), .ref ys])), (ys, .inl (ca 5, 5, .inr (.inr (.inr (.inr (hs5 y1 y2 y3 y4 y5)))))), (y1, .inr (7, [.int (nI ((hp 0).1)), .int (iZ ((hp 0).2.1)), .int (iZ ((hp 0).2.2.1)), .ref ya1, .ref yb1, .ref yc1])), (ya1, .inl (ca 0, 20, .inl (zF ((hp 0).2.2.2.1)))), (yb1, .inl (ca 0, 20, .inl (zF ((hp 0).2.2.2.2.1)))), (yc1, .inl (ca 0, 400, .inl (zG ((hp 0).2.2.2.2.2)))), (y2, .inr (7, [.int (nI ((hp 1).1)), .int (iZ ((hp 1).2.1)), .int (iZ ((hp 1).2.2.1)), .ref ya2, .ref yb2, .ref yc2])), (ya2, .inl (ca 0, 20, .inl (zF ((hp 1).2.2.2.1)))), (yb2, .inl (ca 0, 20, .inl (zF ((hp 1).2.2.2.2.1)))), (yc2, .inl (ca 0, 400, .inl (zG ((hp 1).2.2.2.2.2)))), (y3, .inr (7, [.int (nI ((hp 2).1)), .int (iZ ((hp 2).2.1)), .int (iZ ((hp 2).2.2.1)), .ref ya3, .ref yb3, .ref yc3])), (ya3, .inl (ca 0, 20, .inl (zF ((hp 2).2.2.2.1)))), (yb3, .inl (ca 0, 20, .inl (zF ((hp 2).2.2.2.2.1)))), (yc3, .inl (ca 0, 400, .inl (zG ((hp 2).2.2.2.2.2)))), (y4, .inr (7, [.int (nI ((hp 3).1)), .int (iZ ((hp 3).2.1)), .int (iZ ((hp 3).2.2.1)), .ref ya4, .ref yb4, .ref yc4])), (ya4, .inl (ca 0, 20, .inl (zF ((hp 3).2.2.2.1)))), (yb4, .inl (ca 0, 20, .inl (zF ((hp 3).2.2.2.2.1)))), (yc4, .inl (ca 0, 400, .inl (zG ((hp 3).2.2.2.2.2)))), (y5, .inr (7, [.int (nI ((hp 4).1)), .int (iZ ((hp 4).2.1)), .int (iZ ((hp 4).2.2.1)), .ref ya5, .ref yb5, .ref yc5])), (ya5, .inl (ca 0, 20, .inl (zF ((hp 4).2.2.2.1)))), (yb5, .inl (ca 0, 20, .inl (zF ((hp 4).2.2.2.2.1)))), (yc5, .inl (ca 0, 400, .inl (zG ((hp 4).2.2.2.2.2)))), (d2, .inr (1, [.ref de2, .ref dl2, .int (iZ sp2), .ref dn2, .ref o2])), (de2, .inl (ca 0, 20, .inl (zF e2))), (dl2, .inl (ca 0, 20, .inl (zF f2))), (dn2, .inl (ca 0, 20, .inl (zF M2))), (o2, .inr (3, [.int (nI zd2), .ref ot2, .ref ow2])), (ot2, .inl (ca 0, 20, .inl (nF od2))), (ow2, .inl (ca 0, 20, .inl (zF wd2))), (ro, .inr (5, [.ref rs])), (rs, .inl (ca 0, 20, .inl (zF rv))), (kc0, .inr (0, [.ref o3, .ref kr, .ref kt, .ref kf, .ref kc])), (o3, .inr (3, [.int (nI zc), .ref ot3, .ref ow3])), (ot3, .inl (ca 0, 20, .inl (nF oc))), (ow3, .inl (ca 0, 20, .inl (zF wc))), (kr, .inl (ca 1, 20, .inl (bF rb))), (kt, .inl (ca 0, 20, .inl (zF lt))), (kf, .inl (ca 0, 20, .inl (zF lf))), (kc, .inl (ca 3, 20, .inr (.inl ct))), (sc, .inr (6, [.int (iZ ln), .ref s1, .ref s2, .ref s3])), (s1, .inl (ca 0, 20, .inl (zF sq))), (s2, .inl (ca 0, 1000, .inl (zF wk))), (s3, .inl (ca 0, 20, .inl (zF ws)))] (fun u => (LW ca x h a b c y ys y1 ya1 yb1 yc1 y2 ya2 yb2 yc2 y3 ya3 yb3 yc3 y4 ya4 yb4 yc4 y5 ya5 yb5 yc5 d de dl dn o ot ow d2 de2 dl2 dn2 o2 ot2 ow2 ro rs kc0 o3 ot3 ow3 kr kt kf kc sc s1 s2 s3 g tx hs T En C L N G z w u.2.2.1 u.1 u.2.1 u.2.2.2.1 u.2.2.2.2.1 u.2.2.2.2.2.1 u.2.2.2.2.2.2 sp2 e2 f2 M2 zd2 od2 wd2 rv zc oc wc rb lt lf ct ln sq wk ws hp)) (fun v => (LW ca x h a b c y ys y1 ya1 yb1 yc1 y2 ya2 yb2 yc2 y3 ya3 yb3 yc3 y4 ya4 yb4 yc4 y5 ya5 yb5 yc5 d de dl dn o ot ow d2 de2 dl2 dn2 o2 ot2 ow2 ro rs kc0 o3 ot3 ow3 kr kt kf kc sc s1 s2 s3 g tx hs T En C L N G z w sp e f M zd od wd sp2 e2 f2 M2 zd2 od2 wd2 rv zc oc wc rb lt lf ct ln sq wk ws hp)) (xt_V (As := []) (rest := []) ⟨hx, hb, hml, hown, hts⟩ (mX8_planLength l hfl D ca H.size x g y tx d d2 ro kc0 sc hs h a b c T En C L N G de dl dn o ot ow e f sp M zd od wd hI0.1) (cwV 0 hts gL_law_X8_planLength rfl rfl rfl (by decide +kernel) ⟨Nat.le_of_ble_eq_true rfl, Nat.le_of_ble_eq_true rfl⟩) hK hP hD hS hA hEV (va_recv (q := (RX8, TX8, 10)) hK hP (ci := 8) (q0 := 0) rfl rfl) [0, 1, 2, 3, 4, 27, 28, 29, 30, 31, 32, 33] rfl rfl rfl hl.1 rfl (Nat.le_of_ble_eq_true rfl) dL_law_177 ⟨(by show cc + 0 + 0 ≤ 646004; omega), (by show ss + 0 + 0 ≤ 7163455; omega)⟩) hP hD hS hA [0, 1, 2, 3, 4, 27, 28, 29, 30, 31, 32, 33] [5, 6, 7, 8, 9, 10, 11, 12, 13, 14, 15, 16, 17, 18, 19, 20, 21, 22, 23, 24, 25, 26, 34, 35, 36, 37, 38, 39, 40, 41, 42, 43, 44, 45, 46, 47, 48, 49, 50, 51, 52, 53, 54] [43, 44, 45, 46, 47, 0, 1, 2, 3, 4, 5, 6, 7, 8, 9, 10, 11, 12, 13, 14, 15, 16, 17, 18, 19, 20, 21, 48, 49, 50, 51, 52, 53, 54, 22, 23, 24, 25, 26, 27, 28, 29, 30, 31, 32, 33, 34, 35, 36, 37, 38, 39, 40, 41, 42] rfl rfl rfl rfl (fun _ => rfl) (fun _ => rfl) rfl (fun E9 ce9 q9 v177 H locs hpx hP hD hS g1 g2 g3 => ?_) (fun r177 u177 H locs hw177 hP hD hS => ?_)
            · skip
              have hpx : False := hpx
              have hP : va_P D vwCl (LW ca x h a b c y ys y1 ya1 yb1 yc1 y2 ya2 yb2 yc2 y3 ya3 yb3 yc3 y4 ya4 yb4 yc4 y5 ya5 yb5 yc5 d de dl dn o ot ow d2 de2 dl2 dn2 o2 ot2 ow2 ro rs kc0 o3 ot3 ow3 kr kt kf kc sc s1 s2 s3 g tx hs T En C L N G z w sp e f M zd od wd sp2 e2 f2 M2 zd2 od2 wd2 rv zc oc wc rb lt lf ct ln sq wk ws hp) H := hP
              have hD : va_D A (LW ca x h a b c y ys y1 ya1 yb1 yc1 y2 ya2 yb2 yc2 y3 ya3 yb3 yc3 y4 ya4 yb4 yc4 y5 ya5 yb5 yc5 d de dl dn o ot ow d2 de2 dl2 dn2 o2 ot2 ow2 ro rs kc0 o3 ot3 ow3 kr kt kf kc sc s1 s2 s3 g tx hs T En C L N G z w sp e f M zd od wd sp2 e2 f2 M2 zd2 od2 wd2 rv zc oc wc rb lt lf ct ln sq wk ws hp) := hD
              exact hpx.elim
            · skip
              obtain ⟨e1177, f1177, sp1177, M1177, zd1177, od1177, wd1177⟩ := u177
              have hw177 : r177 = iZ (span G T L) := hw177
              have hP : va_P D vwCl (LW ca x h a b c y ys y1 ya1 yb1 yc1 y2 ya2 yb2 yc2 y3 ya3 yb3 yc3 y4 ya4 yb4 yc4 y5 ya5 yb5 yc5 d de dl dn o ot ow d2 de2 dl2 dn2 o2 ot2 ow2 ro rs kc0 o3 ot3 ow3 kr kt kf kc sc s1 s2 s3 g tx hs T En C L N G z w sp1177 e1177 f1177 M1177 zd1177 od1177 wd1177 sp2 e2 f2 M2 zd2 od2 wd2 rv zc oc wc rb lt lf ct ln sq wk ws hp) H := hP
              have hD : va_D A (LW ca x h a b c y ys y1 ya1 yb1 yc1 y2 ya2 yb2 yc2 y3 ya3 yb3 yc3 y4 ya4 yb4 yc4 y5 ya5 yb5 yc5 d de dl dn o ot ow d2 de2 dl2 dn2 o2 ot2 ow2 ro rs kc0 o3 ot3 ow3 kr kt kf kc sc s1 s2 s3 g tx hs T En C L N G z w sp1177 e1177 f1177 M1177 zd1177 od1177 wd1177 sp2 e2 f2 M2 zd2 od2 wd2 rv zc oc wc rb lt lf ct ln sq wk ws hp) := hD
              have hwr177 := hw177
              subst hwr177
              have hsp1 := span_le hI0.1.1 hI0.1.2.2.2.2.1 (L30_LOK hI0.1.2.2.1)
              have hsp0 := span_0 (G := G) (T := T) (L := L)
              refine lv_istore (lv' := [(11, .int (iZ (span G T L))), (10, .int (nI k171)), (9, .int (nI k159)), (8, .int (nI T)), (7, .int (r142)), (6, .int (nI n)), (0, .ref b9), (1, .ref x), (2, .int (nI many)), (3, .int (nI 1)), (4, .int (iZ C)), (5, .int (nI turns))]) hx hb dL_law_180 hl (by decide) rfl (fun ls hl => ?_)
              refine lv_iload hx hb dL_law_182 (lv_at hl 4 rfl) ?_
              refine lv_bipush (v := nI (13)) hx hb dL_law_184 (by decide) ?_
              refine xk_pi (xk_S (As := [.int (r142), .int (nI 13)]) (rest := []) ⟨hx, hb, hml, hown, hts⟩ (mL_low l D ca H.size r142 13 (by omega)) (va_cwS 2 hts gL_law_L_low rfl rfl rfl (by decide +kernel) ⟨Nat.le_of_ble_eq_true rfl, Nat.le_of_ble_eq_true rfl⟩) hK hP hD [] rfl rfl rfl hl.1 rfl (Nat.le_of_ble_eq_true rfl) dL_law_186 ⟨(by show cc + 0 + 0 + 0 ≤ 646004; omega), (by show ss + 0 + 0 + 0 ≤ 7163455; omega)⟩) hP hD hS hA [] rfl ⟨rfl, rfl⟩ (fun r186 H locs hw186 hP hS => ?_)
              have hw186 : ∃ k : Nat, r186 = nI k ∧ k < 13 := hw186
              obtain ⟨k186, hk186, hkb186⟩ := hw186
              subst hk186
              refine lv_istore (lv' := [(12, .int (nI k186)), (11, .int (iZ (span G T L))), (10, .int (nI k171)), (9, .int (nI k159)), (8, .int (nI T)), (7, .int (r142)), (6, .int (nI n)), (0, .ref b9), (1, .ref x), (2, .int (nI many)), (3, .int (nI 1)), (4, .int (iZ C)), (5, .int (nI turns))]) hx hb dL_law_189 hl (by decide) rfl (fun ls hl => ?_)
              have L795 : ∀ (hs : Bool) (T : Nat) (En : Int) (C : Int) (L : Nat → Int) (N : Nat → Int) (G : Nat → Nat → Int) (z : Nat) (w : Nat) (sp : Int) (e : Nat → Int) (f : Nat → Int) (M : Nat → Int) (zd : Nat) (od : Nat → Nat) (wd : Nat → Int) (sp2 : Int) (e2 : Nat → Int) (f2 : Nat → Int) (M2 : Nat → Int) (zd2 : Nat) (od2 : Nat → Nat) (wd2 : Nat → Int) (rv : Nat → Int) (zc : Nat) (oc : Nat → Nat) (wc : Nat → Int) (rb : Nat → Bool) (lt : Nat → Int) (lf : Nat → Int) (ct : Nat → Int64) (ln : Int) (sq : Nat → Int) (wk : Nat → Int) (ws : Nat → Int) (hp : Nat → PS) (cc : Nat) (ss : Nat), (INL T En C L N G z w hp) → (cc ≤ 13000 + 6200 * n + 60) → (ss ≤ 90000 + 42000 * n + 400) → ∀ (H : Heap) (locs : List Loc), va_P D vwCl (LW ca x h a b c y ys y1 ya1 yb1 yc1 y2 ya2 yb2 yc2 y3 ya3 yb3 yc3 y4 ya4 yb4 yc4 y5 ya5 yb5 yc5 d de dl dn o ot ow d2 de2 dl2 dn2 o2 ot2 ow2 ro rs kc0 o3 ot3 ow3 kr kt kf kc sc s1 s2 s3 g tx hs T En C L N G z w sp e f M zd od wd sp2 e2 f2 M2 zd2 od2 wd2 rv zc oc wc rb lt lf ct ln sq wk ws hp) H → va_D A (LW ca x h a b c y ys y1 ya1 yb1 yc1 y2 ya2 yb2 yc2 y3 ya3 yb3 yc3 y4 ya4 yb4 yc4 y5 ya5 yb5 yc5 d de dl dn o ot ow d2 de2 dl2 dn2 o2 ot2 ow2 ro rs kc0 o3 ot3 ow3 kr kt kf kc sc s1 s2 s3 g tx hs T En C L N G z w sp e f M zd od wd sp2 e2 f2 M2 zd2 od2 wd2 rv zc oc wc rb lt lf ct ln sq wk ws hp) → va_S A s.heap H locs → ∀ ls : Array Slot, lv_has ls 17 [(6, .int (nI n)), (0, .ref b9), (1, .ref x), (2, .int (nI many)), (3, .int (nI 1)), (4, .int (iZ C)), (5, .int (nI turns))] → W pG l eV room_1 s mI args below meth cO H locs cc ss Q (F0 mI 795 ls []) := by
                clear hP hD hS hl
                intro hs T En C L N G z w sp e f M zd od wd sp2 e2 f2 M2 zd2 od2 wd2 rv zc oc wc rb lt lf ct ln sq wk ws hp cc ss hI hcc795 hss795 H locs hP hD hS ls hl
                obtain ⟨hI0, hT1, hz1⟩ := id hI
                refine lv_iload_n hx hb dL_law_795 rfl (lv_at hl 4 rfl) ?_
                refine lv_if_eq (tgt := 817) hx hb dL_law_796 (by decide) (fun h796 => ?_) (fun h796 => ?_)
                · skip
                  have h796 := (cE (nI_toInt (by omega)) z0_toInt).mp h796
                  exact absurd h796 (by omega)
                · skip
                  have h796 := (not_congr (cE (nI_toInt (by omega)) z0_toInt)).mp h796
                  refine lv_iload hx hb dL_law_799 (lv_at hl 0 rfl) ?_
                  refine lv_iconst (v := nI (3)) hx hb dL_law_801 (by decide) ?_
                  refine xr_irem hx hb (by omega) (by omega) (by omega) dL_law_802 ?_
                  refine lv_if_gt (tgt := 813) hx hb dL_law_803 (by decide) (fun h803 => ?_) (fun h803 => ?_)
                  · skip
                    have h803 := (cT z0_toInt (nI_toInt (by omega))).mp h803
                    refine lv_iconst (v := nI (1)) hx hb dL_law_813 (by decide) ?_
                    refine lv_goto (tgt := 818) hx hb dL_law_814 (by decide) ?_
                    refine lv_istore_n (lv' := [(3, .int (nI 1)), (6, .int (nI n)), (0, .ref b9), (1, .ref x), (2, .int (nI many)), (4, .int (iZ C)), (5, .int (nI turns))]) hx hb dL_law_818 rfl hl (by decide) rfl (fun ls hl => ?_)
                    refine lv_iinc (v := nI (n + 1)) (lv' := [(6, .int (nI (n + 1))), (3, .int (nI 1)), (0, .ref b9), (1, .ref x), (2, .int (nI many)), (4, .int (iZ C)), (5, .int (nI turns))]) hx hb dL_law_819 hl (k := 1) rfl (nI_add _ 1) (by decide) rfl (fun ls hl => ?_)
                    refine lv_goto (tgt := 125) hx hb dL_law_822 (by decide) ?_
                    exact ih125 hs T En C L N G z w sp e f M zd od wd sp2 e2 f2 M2 zd2 od2 wd2 rv zc oc wc rb lt lf ct ln sq wk ws hp (n + 1) cc ss hI (by omega) (by omega) (by omega) (by omega) _ _ hP hD hS _ (lv_sub hl [0, 2, 3, 4, 1, 5, 6] rfl)
                  · skip
                    have h803 := (not_congr (cT z0_toInt (nI_toInt (by omega)))).mp h803
                    refine lv_aload_n hx hb dL_law_806 rfl (lv_at hl 2 rfl) ?_
                    refine xk_i [] (fun u => (LW ca x h a b c y ys y1 ya1 yb1 yc1 y2 ya2 yb2 yc2 y3 ya3 yb3 yc3 y4 ya4 yb4 yc4 y5 ya5 yb5 yc5 d de dl dn o ot ow d2 de2 dl2 dn2 o2 ot2 ow2 ro rs kc0 o3 ot3 ow3 kr kt kf kc sc s1 s2 s3 g tx hs T En C L N G z w u.2.2.1 u.1 u.2.1 u.2.2.2.1 u.2.2.2.2.1 u.2.2.2.2.2.1 u.2.2.2.2.2.2.1 sp2 e2 f2 M2 zd2 od2 wd2 u.2.2.2.2.2.2.2.1 u.2.2.2.2.2.2.2.2.1 u.2.2.2.2.2.2.2.2.2.1 u.2.2.2.2.2.2.2.2.2.2.1 rb u.2.2.2.2.2.2.2.2.2.2.2.1 u.2.2.2.2.2.2.2.2.2.2.2.2.1 u.2.2.2.2.2.2.2.2.2.2.2.2.2 ln sq wk ws hp)) (xt_SE (As := [.ref x]) (rest := []) ⟨hx, hb, hml, hown, hts⟩ (mL_days l D ca H.size x h a b c y ys y1 ya1 yb1 yc1 y2 ya2 yb2 yc2 y3 ya3 yb3 yc3 y4 ya4 yb4 yc4 y5 ya5 yb5 yc5 d de dl dn o ot ow d2 de2 dl2 dn2 o2 ot2 ow2 ro rs kc0 o3 ot3 ow3 kr kt kf kc sc s1 s2 s3 g tx hs T En C L N G z w sp e f M zd od wd sp2 e2 f2 M2 zd2 od2 wd2 rv zc oc wc rb lt lf ct ln sq wk ws hp hfl hI0.1 hI0.2.1) (va_cwS 1 hts gL_law_L_days rfl rfl rfl (by decide +kernel) ⟨Nat.le_of_ble_eq_true rfl, Nat.le_of_ble_eq_true rfl⟩) hK hP hD hS hA hEV [0, 1, 2, 3, 4, 5, 6, 7, 8, 9, 10, 11, 12, 13, 14, 15, 16, 17, 18, 19, 20, 21, 22, 23, 24, 25, 26, 27, 28, 29, 30, 31, 32, 33, 34, 35, 36, 37, 38, 39, 40, 41, 42, 43, 44, 45, 46, 47, 48, 49, 50, 51, 52, 53, 54] rfl rfl rfl hl.1 rfl (Nat.le_of_ble_eq_true rfl) dL_law_807 ⟨(by show cc + 6000 ≤ 646004; omega), (by show ss + 40000 ≤ 7163455; omega)⟩) hP hD hS hA [0, 1, 2, 3, 4, 5, 6, 7, 8, 9, 10, 11, 12, 13, 14, 15, 16, 17, 18, 19, 20, 21, 22, 23, 24, 25, 26, 27, 28, 29, 30, 31, 32, 33, 34, 35, 36, 37, 38, 39, 40, 41, 42, 43, 44, 45, 46, 47, 48, 49, 50, 51, 52, 53, 54] [] [0, 1, 2, 3, 4, 5, 6, 7, 8, 9, 10, 11, 12, 13, 14, 15, 16, 17, 18, 19, 20, 21, 22, 23, 24, 25, 26, 27, 28, 29, 30, 31, 32, 33, 34, 35, 36, 37, 38, 39, 40, 41, 42, 43, 44, 45, 46, 47, 48, 49, 50, 51, 52, 53, 54] rfl rfl rfl rfl (fun _ => rfl) rfl (fun r807 u807 H locs hw807 hP hD hS => ?_)
                    obtain ⟨e1807, f1807, sp1807, M1807, zd1807, od1807, wd1807, rv1807, zc1807, oc1807, wc1807, lt1807, lf1807, ct1807⟩ := u807
                    have hw807 : r807 = nI 1 := hw807
                    have hP : va_P D vwCl (LW ca x h a b c y ys y1 ya1 yb1 yc1 y2 ya2 yb2 yc2 y3 ya3 yb3 yc3 y4 ya4 yb4 yc4 y5 ya5 yb5 yc5 d de dl dn o ot ow d2 de2 dl2 dn2 o2 ot2 ow2 ro rs kc0 o3 ot3 ow3 kr kt kf kc sc s1 s2 s3 g tx hs T En C L N G z w sp1807 e1807 f1807 M1807 zd1807 od1807 wd1807 sp2 e2 f2 M2 zd2 od2 wd2 rv1807 zc1807 oc1807 wc1807 rb lt1807 lf1807 ct1807 ln sq wk ws hp) H := hP
                    have hD : va_D A (LW ca x h a b c y ys y1 ya1 yb1 yc1 y2 ya2 yb2 yc2 y3 ya3 yb3 yc3 y4 ya4 yb4 yc4 y5 ya5 yb5 yc5 d de dl dn o ot ow d2 de2 dl2 dn2 o2 ot2 ow2 ro rs kc0 o3 ot3 ow3 kr kt kf kc sc s1 s2 s3 g tx hs T En C L N G z w sp1807 e1807 f1807 M1807 zd1807 od1807 wd1807 sp2 e2 f2 M2 zd2 od2 wd2 rv1807 zc1807 oc1807 wc1807 rb lt1807 lf1807 ct1807 ln sq wk ws hp) := hD
                    have hwr807 := hw807
                    subst hwr807
                    refine lv_if_eq (tgt := 817) hx hb dL_law_810 (by decide) (fun h810 => ?_) (fun h810 => ?_)
                    · skip
                      have h810 := (cE (nI_toInt (by omega)) z0_toInt).mp h810
                      exact absurd h810 (by omega)
                    · skip
                      have h810 := (not_congr (cE (nI_toInt (by omega)) z0_toInt)).mp h810
                      refine lv_iconst (v := nI (1)) hx hb dL_law_813 (by decide) ?_
                      refine lv_goto (tgt := 818) hx hb dL_law_814 (by decide) ?_
                      refine lv_istore_n (lv' := [(3, .int (nI 1)), (6, .int (nI n)), (0, .ref b9), (1, .ref x), (2, .int (nI many)), (4, .int (iZ C)), (5, .int (nI turns))]) hx hb dL_law_818 rfl hl (by decide) rfl (fun ls hl => ?_)
                      refine lv_iinc (v := nI (n + 1)) (lv' := [(6, .int (nI (n + 1))), (3, .int (nI 1)), (0, .ref b9), (1, .ref x), (2, .int (nI many)), (4, .int (iZ C)), (5, .int (nI turns))]) hx hb dL_law_819 hl (k := 1) rfl (nI_add _ 1) (by decide) rfl (fun ls hl => ?_)
                      refine lv_goto (tgt := 125) hx hb dL_law_822 (by decide) ?_
                      exact ih125 hs T En C L N G z w sp1807 e1807 f1807 M1807 zd1807 od1807 wd1807 sp2 e2 f2 M2 zd2 od2 wd2 rv1807 zc1807 oc1807 wc1807 rb lt1807 lf1807 ct1807 ln sq wk ws hp (n + 1) (cc + 6000) (ss + 40000) hI (by omega) (by omega) (by omega) (by omega) _ _ hP hD hS _ (lv_sub hl [0, 2, 3, 4, 1, 5, 6] rfl)
              have L397 : ∀ (H : Heap) (locs : List Loc), va_P D vwCl (LW ca x h a b c y ys y1 ya1 yb1 yc1 y2 ya2 yb2 yc2 y3 ya3 yb3 yc3 y4 ya4 yb4 yc4 y5 ya5 yb5 yc5 d de dl dn o ot ow d2 de2 dl2 dn2 o2 ot2 ow2 ro rs kc0 o3 ot3 ow3 kr kt kf kc sc s1 s2 s3 g tx hs T En C L N G z w sp1177 e1177 f1177 M1177 zd1177 od1177 wd1177 sp2 e2 f2 M2 zd2 od2 wd2 rv zc oc wc rb lt lf ct ln sq wk ws hp) H → va_D A (LW ca x h a b c y ys y1 ya1 yb1 yc1 y2 ya2 yb2 yc2 y3 ya3 yb3 yc3 y4 ya4 yb4 yc4 y5 ya5 yb5 yc5 d de dl dn o ot ow d2 de2 dl2 dn2 o2 ot2 ow2 ro rs kc0 o3 ot3 ow3 kr kt kf kc sc s1 s2 s3 g tx hs T En C L N G z w sp1177 e1177 f1177 M1177 zd1177 od1177 wd1177 sp2 e2 f2 M2 zd2 od2 wd2 rv zc oc wc rb lt lf ct ln sq wk ws hp) → va_S A s.heap H locs → ∀ ls : Array Slot, lv_has ls 17 [(12, .int (nI k186)), (11, .int (iZ (span G T L))), (10, .int (nI k171)), (9, .int (nI k159)), (8, .int (nI T)), (7, .int (r142)), (6, .int (nI n)), (0, .ref b9), (1, .ref x), (2, .int (nI many)), (3, .int (nI 1)), (4, .int (iZ C)), (5, .int (nI turns))] → W pG l eV room_1 s mI args below meth cO H locs (cc + 0 + 0) (ss + 0 + 0) Q (F0 mI 397 ls []) := by
                clear hP hD hS hl
                intro   H locs hP hD hS ls hl
                refine lv_iload hx hb dL_law_397 (lv_at hl 0 rfl) ?_
                refine lv_bipush (v := nI (8)) hx hb dL_law_399 (by decide) ?_
                refine lv_icmp_ge (tgt := 450) hx hb dL_law_401 (by decide) (fun h401 => ?_) (fun h401 => ?_)
                · skip
                  have h401 := (cL (nI_toInt (by omega)) (nI_toInt (by omega))).mp h401
                  refine lv_iload hx hb dL_law_450 (lv_at hl 0 rfl) ?_
                  refine lv_bipush (v := nI (9)) hx hb dL_law_452 (by decide) ?_
                  refine lv_icmp_ge (tgt := 542) hx hb dL_law_454 (by decide) (fun h454 => ?_) (fun h454 => ?_)
                  · skip
                    have h454 := (cL (nI_toInt (by omega)) (nI_toInt (by omega))).mp h454
                    refine lv_iload hx hb dL_law_542 (lv_at hl 0 rfl) ?_
                    refine lv_bipush (v := nI (10)) hx hb dL_law_544 (by decide) ?_
                    refine lv_icmp_ge (tgt := 596) hx hb dL_law_546 (by decide) (fun h546 => ?_) (fun h546 => ?_)
                    · skip
                      have h546 := (cL (nI_toInt (by omega)) (nI_toInt (by omega))).mp h546
                      refine lv_iload hx hb dL_law_596 (lv_at hl 0 rfl) ?_
                      refine lv_bipush (v := nI (11)) hx hb dL_law_598 (by decide) ?_
                      refine lv_icmp_ge (tgt := 695) hx hb dL_law_600 (by decide) (fun h600 => ?_) (fun h600 => ?_)
                      · skip
                        have h600 := (cL (nI_toInt (by omega)) (nI_toInt (by omega))).mp h600
                        refine lv_iload hx hb dL_law_695 (lv_at hl 0 rfl) ?_
                        refine lv_bipush (v := nI (12)) hx hb dL_law_697 (by decide) ?_
                        refine lv_icmp_ge (tgt := 753) hx hb dL_law_699 (by decide) (fun h699 => ?_) (fun h699 => ?_)
                        · skip
                          have h699 := (cL (nI_toInt (by omega)) (nI_toInt (by omega))).mp h699
                          refine W.eq (g2 := F0 mI 753 ls []) rfl ?_
                          exact lc_G hx hb hml hts hown hA hK hEV hfl hLn hX hbl hbA (by show cc + 60 ≤ 646004; omega) (by show ss + 400 ≤ 7163455; omega) hI (by omega) (by omega) hP hD hS (lv_sub hl [7, 8, 9, 10, 11, 12, 6, 5, 4, 3, 2, 1] rfl) (by unfold LJ; intro hs' T' En' C' L' N' G' z' w' sp' e' f' M' zd' od' wd' sp2' e2' f2' M2' zd2' od2' wd2' rv' zc' oc' wc' rb' lt' lf' ct' ln' sq' wk' ws' hp' hI9 H9 locs9 hP9 hD9 hS9 ls9 hl9; exact L795 hs' T' En' C' L' N' G' z' w' sp' e' f' M' zd' od' wd' sp2' e2' f2' M2' zd2' od2' wd2' rv' zc' oc' wc' rb' lt' lf' ct' ln' sq' wk' ws' hp' (cc + 60) (ss + 400) hI9 (by omega) (by omega) H9 locs9 hP9 hD9 hS9 ls9 (lv_sub hl9 [6, 0, 1, 2, 3, 4, 5] rfl))
                        · skip
                          have h699 := (not_congr (cL (nI_toInt (by omega)) (nI_toInt (by omega)))).mp h699
                          refine lv_iload hx hb dL_law_702 (lv_at hl 4 rfl) ?_
                          refine lv_bipush (v := nI (8)) hx hb dL_law_704 (by decide) ?_
                          refine lv_icmp_ge (tgt := 753) hx hb dL_law_706 (by decide) (fun h706 => ?_) (fun h706 => ?_)
                          · skip
                            have h706 := (cL (nI_toInt (by omega)) (nI_toInt (by omega))).mp h706
                            refine W.eq (g2 := F0 mI 753 ls []) rfl ?_
                            exact lc_G hx hb hml hts hown hA hK hEV hfl hLn hX hbl hbA (by show cc + 60 ≤ 646004; omega) (by show ss + 400 ≤ 7163455; omega) hI (by omega) (by omega) hP hD hS (lv_sub hl [7, 8, 9, 10, 11, 12, 6, 5, 4, 3, 2, 1] rfl) (by unfold LJ; intro hs' T' En' C' L' N' G' z' w' sp' e' f' M' zd' od' wd' sp2' e2' f2' M2' zd2' od2' wd2' rv' zc' oc' wc' rb' lt' lf' ct' ln' sq' wk' ws' hp' hI9 H9 locs9 hP9 hD9 hS9 ls9 hl9; exact L795 hs' T' En' C' L' N' G' z' w' sp' e' f' M' zd' od' wd' sp2' e2' f2' M2' zd2' od2' wd2' rv' zc' oc' wc' rb' lt' lf' ct' ln' sq' wk' ws' hp' (cc + 60) (ss + 400) hI9 (by omega) (by omega) H9 locs9 hP9 hD9 hS9 ls9 (lv_sub hl9 [6, 0, 1, 2, 3, 4, 5] rfl))
                          · skip
                            have h706 := (not_congr (cL (nI_toInt (by omega)) (nI_toInt (by omega)))).mp h706
                            refine W.eq (g2 := F0 mI 709 ls []) rfl ?_
                            exact lc_F hx hb hml hts hown hA hK hEV hfl hLn hX hbl hbA (by show cc + 60 ≤ 646004; omega) (by show ss + 400 ≤ 7163455; omega) hI (by omega) (by omega) hP hD hS (lv_sub hl [7, 8, 9, 10, 11, 12, 6, 5, 4, 3, 2, 1] rfl) (by unfold LJ; intro hs' T' En' C' L' N' G' z' w' sp' e' f' M' zd' od' wd' sp2' e2' f2' M2' zd2' od2' wd2' rv' zc' oc' wc' rb' lt' lf' ct' ln' sq' wk' ws' hp' hI9 H9 locs9 hP9 hD9 hS9 ls9 hl9; exact L795 hs' T' En' C' L' N' G' z' w' sp' e' f' M' zd' od' wd' sp2' e2' f2' M2' zd2' od2' wd2' rv' zc' oc' wc' rb' lt' lf' ct' ln' sq' wk' ws' hp' (cc + 60) (ss + 400) hI9 (by omega) (by omega) H9 locs9 hP9 hD9 hS9 ls9 (lv_sub hl9 [6, 0, 1, 2, 3, 4, 5] rfl))
                      · skip
                        have h600 := (not_congr (cL (nI_toInt (by omega)) (nI_toInt (by omega)))).mp h600
                        refine W.eq (g2 := F0 mI 603 ls []) rfl ?_
                        exact lc_E hx hb hml hts hown hA hK hEV hfl hLn hX hbl hbA (by show cc + 60 ≤ 646004; omega) (by show ss + 400 ≤ 7163455; omega) hI (by omega) (by omega) hP hD hS (lv_sub hl [7, 8, 9, 10, 11, 12, 6, 5, 4, 3, 2, 1] rfl) (by unfold LJ; intro hs' T' En' C' L' N' G' z' w' sp' e' f' M' zd' od' wd' sp2' e2' f2' M2' zd2' od2' wd2' rv' zc' oc' wc' rb' lt' lf' ct' ln' sq' wk' ws' hp' hI9 H9 locs9 hP9 hD9 hS9 ls9 hl9; exact L795 hs' T' En' C' L' N' G' z' w' sp' e' f' M' zd' od' wd' sp2' e2' f2' M2' zd2' od2' wd2' rv' zc' oc' wc' rb' lt' lf' ct' ln' sq' wk' ws' hp' (cc + 60) (ss + 400) hI9 (by omega) (by omega) H9 locs9 hP9 hD9 hS9 ls9 (lv_sub hl9 [6, 0, 1, 2, 3, 4, 5] rfl))
                    · skip
                      have h546 := (not_congr (cL (nI_toInt (by omega)) (nI_toInt (by omega)))).mp h546
                      refine W.eq (g2 := F0 mI 549 ls []) rfl ?_
                      exact lc_D hx hb hml hts hown hA hK hEV hfl hLn hX hbl hbA (by show cc + 60 ≤ 646004; omega) (by show ss + 400 ≤ 7163455; omega) hI (by omega) (by omega) hP hD hS (lv_sub hl [7, 8, 9, 10, 11, 12, 6, 5, 4, 3, 2, 1] rfl) (by unfold LJ; intro hs' T' En' C' L' N' G' z' w' sp' e' f' M' zd' od' wd' sp2' e2' f2' M2' zd2' od2' wd2' rv' zc' oc' wc' rb' lt' lf' ct' ln' sq' wk' ws' hp' hI9 H9 locs9 hP9 hD9 hS9 ls9 hl9; exact L795 hs' T' En' C' L' N' G' z' w' sp' e' f' M' zd' od' wd' sp2' e2' f2' M2' zd2' od2' wd2' rv' zc' oc' wc' rb' lt' lf' ct' ln' sq' wk' ws' hp' (cc + 60) (ss + 400) hI9 (by omega) (by omega) H9 locs9 hP9 hD9 hS9 ls9 (lv_sub hl9 [6, 0, 1, 2, 3, 4, 5] rfl))
                  · skip
                    have h454 := (not_congr (cL (nI_toInt (by omega)) (nI_toInt (by omega)))).mp h454
                    refine W.eq (g2 := F0 mI 457 ls []) rfl ?_
                    exact lc_C hx hb hml hts hown hA hK hEV hfl hLn hX hbl hbA (by show cc + 60 ≤ 646004; omega) (by show ss + 400 ≤ 7163455; omega) hI (by omega) (by omega) hP hD hS (lv_sub hl [7, 8, 9, 10, 11, 12, 6, 5, 4, 3, 2, 1] rfl) (by unfold LJ; intro hs' T' En' C' L' N' G' z' w' sp' e' f' M' zd' od' wd' sp2' e2' f2' M2' zd2' od2' wd2' rv' zc' oc' wc' rb' lt' lf' ct' ln' sq' wk' ws' hp' hI9 H9 locs9 hP9 hD9 hS9 ls9 hl9; exact L795 hs' T' En' C' L' N' G' z' w' sp' e' f' M' zd' od' wd' sp2' e2' f2' M2' zd2' od2' wd2' rv' zc' oc' wc' rb' lt' lf' ct' ln' sq' wk' ws' hp' (cc + 60) (ss + 400) hI9 (by omega) (by omega) H9 locs9 hP9 hD9 hS9 ls9 (lv_sub hl9 [6, 0, 1, 2, 3, 4, 5] rfl))
                · skip
                  have h401 := (not_congr (cL (nI_toInt (by omega)) (nI_toInt (by omega)))).mp h401
                  refine W.eq (g2 := F0 mI 404 ls []) rfl ?_
                  exact lc_B hx hb hml hts hown hA hK hEV hfl hLn hX hbl hbA (by show cc + 60 ≤ 646004; omega) (by show ss + 400 ≤ 7163455; omega) hI (by omega) (by omega) hP hD hS (lv_sub hl [7, 8, 9, 10, 11, 12, 6, 5, 4, 3, 2, 1] rfl) (by unfold LJ; intro hs' T' En' C' L' N' G' z' w' sp' e' f' M' zd' od' wd' sp2' e2' f2' M2' zd2' od2' wd2' rv' zc' oc' wc' rb' lt' lf' ct' ln' sq' wk' ws' hp' hI9 H9 locs9 hP9 hD9 hS9 ls9 hl9; exact L795 hs' T' En' C' L' N' G' z' w' sp' e' f' M' zd' od' wd' sp2' e2' f2' M2' zd2' od2' wd2' rv' zc' oc' wc' rb' lt' lf' ct' ln' sq' wk' ws' hp' (cc + 60) (ss + 400) hI9 (by omega) (by omega) H9 locs9 hP9 hD9 hS9 ls9 (lv_sub hl9 [6, 0, 1, 2, 3, 4, 5] rfl))
              refine lv_iload hx hb dL_law_191 (lv_at hl 0 rfl) ?_
              refine lv_bipush (v := nI (6)) hx hb dL_law_193 (by decide) ?_
              refine lv_icmp_ge (tgt := 397) hx hb dL_law_195 (by decide) (fun h195 => ?_) (fun h195 => ?_)
              · skip
                have h195 := (cL (nI_toInt (by omega)) (nI_toInt (by omega))).mp h195
                exact L397  _ _ hP hD hS _ (lv_sub hl [0, 1, 2, 3, 4, 5, 6, 7, 8, 9, 10, 11, 12] rfl)
              · skip
                have h195 := (not_congr (cL (nI_toInt (by omega)) (nI_toInt (by omega)))).mp h195
                refine lv_iload hx hb dL_law_198 (lv_at hl 3 rfl) ?_
                refine lv_iload hx hb dL_law_200 (lv_at hl 2 rfl) ?_
                refine lv_icmp_eq (tgt := 397) hx hb dL_law_202 (by decide) (fun h202 => ?_) (fun h202 => ?_)
                · skip
                  have h202 := (cE (nI_toInt (by omega)) (nI_toInt (by omega))).mp h202
                  exact L397  _ _ hP hD hS _ (lv_sub hl [0, 1, 2, 3, 4, 5, 6, 7, 8, 9, 10, 11, 12] rfl)
                · skip
                  have h202 := (not_congr (cE (nI_toInt (by omega)) (nI_toInt (by omega)))).mp h202
                  refine W.eq (g2 := F0 mI 205 ls []) rfl ?_
                  exact lc_A hx hb hml hts hown hA hK hEV hfl hLn hX hbl hbA (by show cc + 60 ≤ 646004; omega) (by show ss + 400 ≤ 7163455; omega) hI (by omega) (by omega) (fun h9 => h202 (by omega)) hP hD hS (lv_sub hl [7, 8, 9, 10, 11, 12, 6, 5, 4, 3, 2, 1] rfl) (by unfold LJ; intro hs' T' En' C' L' N' G' z' w' sp' e' f' M' zd' od' wd' sp2' e2' f2' M2' zd2' od2' wd2' rv' zc' oc' wc' rb' lt' lf' ct' ln' sq' wk' ws' hp' hI9 H9 locs9 hP9 hD9 hS9 ls9 hl9; exact L795 hs' T' En' C' L' N' G' z' w' sp' e' f' M' zd' od' wd' sp2' e2' f2' M2' zd2' od2' wd2' rv' zc' oc' wc' rb' lt' lf' ct' ln' sq' wk' ws' hp' (cc + 60) (ss + 400) hI9 (by omega) (by omega) H9 locs9 hP9 hD9 hS9 ls9 (lv_sub hl9 [6, 0, 1, 2, 3, 4, 5] rfl))
  exact L125 _ hs T En C L N G z w sp e f M zd od wd sp2 e2 f2 M2 zd2 od2 wd2 rv zc oc wc rb lt lf ct ln sq wk ws hp 0 cc ss hI (by omega) (by omega) (by omega) (Nat.lt_succ_self _) _ _ hP hD hS _ (lv_sub hl [0, 1, 2, 3, 4, 5, 6] rfl)

