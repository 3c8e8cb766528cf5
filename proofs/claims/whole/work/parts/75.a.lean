set_option maxHeartbeats 4000000 in
theorem law_sw {l : Launch} {pG : Program} {eV : Env} {s : State} {mI : MethodId} {args : Array Value} {below : List Frame} {meth : Method} {cO : Code} {A : Nat → Prop} {D : va_G} {ca : Nat → ClassId} {Q : State → Prop} {b9 : Nat} (hx : pG.tables.exec = Jvm.exec) (hb : cO.code = cL_law) (hml : cO.maxLocals = 9) (hts : ∀ w ∈ wsL_law, w.before args s = true) (hown : s.vm.findClass RL = some mI.cls) (hA : ∀ q : Nat, s.heap.size ≤ q → A q) (hK : va_K D vwCl (TY ca) s) (hEV : EV A s s.heap) (hfl : l.stackTraces = false) {Ln : Nat} {xs : Nat → Int32} (hX : va_X b9 Ln xs s s.heap) (hbl : b9 < s.heap.size) (hbA : ¬ A b9) {i cc ss : Nat} (hi : i + 4 ≤ Ln ∧ Ln ≤ 2048) (hcc : cc + 20 ≤ 601024) (hss : ss + 120 ≤ 7293034) {x h a b c g ga gb gc y ys y1 ya1 yb1 yc1 y2 ya2 yb2 yc2 y3 ya3 yb3 yc3 y4 ya4 yb4 yc4 y5 ya5 yb5 yc5 tx th ta tb tc ts d de dl dn o ot ow d2 de2 dl2 dn2 o2 ot2 ow2 ro rs kc0 o3 ot3 ow3 kr kt kf kc sc s1 s2 s3 mo na nb nc nd ne nf ng nh ni nj nl oa oq : Nat} {hs : Bool} {T : Nat} {En C : Int} {L N : Nat → Int} {G : Nat → Nat → Int} {gT : Nat} {gE gC : Int} {gL gN : Nat → Int} {gG : Nat → Nat → Int} {z w tl tp tT : Nat} {tE tC : Int} {tL tN : Nat → Int} {tG : Nat → Nat → Int} {sg : Nat → Int} {sp : Int} {e f M : Nat → Int} {zd : Nat} {od : Nat → Nat} {wd : Nat → Int} {sp2 : Int} {e2 f2 M2 : Nat → Int} {zd2 : Nat} {od2 : Nat → Nat} {wd2 rv : Nat → Int} {zc : Nat} {oc : Nat → Nat} {wc : Nat → Int} {rb : Nat → Bool} {lt lf : Nat → Int} {ct : Nat → Int64} {ln : Int} {sq wk ws : Nat → Int} {mt mp : Nat} {sn sv pa sh me mf mst mmv : Nat → Int} {mcs mcl ov : Nat → Int64} {od9 : Nat → UInt64} {hp : Nat → PS} (hI : INV T En C L N G hs gT gE gC gL gN gG z w hp tl sg sn pa sh) {H : Heap} {locs : List Loc} (hP : va_P D vwCl (LW ca x h a b c g ga gb gc y ys y1 ya1 yb1 yc1 y2 ya2 yb2 yc2 y3 ya3 yb3 yc3 y4 ya4 yb4 yc4 y5 ya5 yb5 yc5 tx th ta tb tc ts d de dl dn o ot ow d2 de2 dl2 dn2 o2 ot2 ow2 ro rs kc0 o3 ot3 ow3 kr kt kf kc sc s1 s2 s3 mo na nb nc nd ne nf ng nh ni nj nl oa oq hs T En C L N G gT gE gC gL gN gG z w tl tp tT tE tC tL tN tG sg sp e f M zd od wd sp2 e2 f2 M2 zd2 od2 wd2 rv zc oc wc rb lt lf ct ln sq wk ws hs z tl mt mp sn sv pa sh sg me mf mst mmv mcs mcl ov od9 hp) H) (hD : va_D A (LW ca x h a b c g ga gb gc y ys y1 ya1 yb1 yc1 y2 ya2 yb2 yc2 y3 ya3 yb3 yc3 y4 ya4 yb4 yc4 y5 ya5 yb5 yc5 tx th ta tb tc ts d de dl dn o ot ow d2 de2 dl2 dn2 o2 ot2 ow2 ro rs kc0 o3 ot3 ow3 kr kt kf kc sc s1 s2 s3 mo na nb nc nd ne nf ng nh ni nj nl oa oq hs T En C L N G gT gE gC gL gN gG z w tl tp tT tE tC tL tN tG sg sp e f M zd od wd sp2 e2 f2 M2 zd2 od2 wd2 rv zc oc wc rb lt lf ct ln sq wk ws hs z tl mt mp sn sv pa sh sg me mf mst mmv mcs mcl ov od9 hp)) (hS : va_S A s.heap H locs) {ls : Array Slot} (hl : lv_has ls 9 [(5, .int (nI i)), (0, .ref b9), (1, .ref x), (2, .ref mo), (3, .ref oa), (4, .ref oq)]) (hlp : LJ l pG eV s mI args below meth cO A D ca Q b9 i (cc + 20) (ss + 120) x h a b c g ga gb gc y ys y1 ya1 yb1 yc1 y2 ya2 yb2 yc2 y3 ya3 yb3 yc3 y4 ya4 yb4 yc4 y5 ya5 yb5 yc5 tx th ta tb tc ts d de dl dn o ot ow d2 de2 dl2 dn2 o2 ot2 ow2 ro rs kc0 o3 ot3 ow3 kr kt kf kc sc s1 s2 s3 mo na nb nc nd ne nf ng nh ni nj nl oa oq) (k : Nat) (hk : k < 64) : W pG l eV room_1 s mI args below meth cO H locs cc ss Q (F0 mI 44 ls [.int (nI k)]) := by
  by_cases hk0 : k = 0
  · subst hk0; exact lv_tableIn (x := nI 0) (off := 180) (tgt := 224) hx hb dL_law_44 (by decide) (by decide) rfl (by decide) (lc_0_addTask hx hb hml hts hown hA hK hEV hfl hX hbl hbA hi hcc hss hI hP hD hS hl hlp)
  by_cases hk1 : k = 1
  · subst hk1; exact lv_tableIn (x := nI 1) (off := 248) (tgt := 292) hx hb dL_law_44 (by decide) (by decide) rfl (by decide) (lc_1_removeTask hx hb hml hts hown hA hK hEV hfl hX hbl hbA hi hcc hss hI hP hD hS hl hlp)
  by_cases hk2 : k = 2
  · subst hk2; exact lv_tableIn (x := nI 2) (off := 292) (tgt := 336) hx hb dL_law_44 (by decide) (by decide) rfl (by decide) (lc_2_setLength hx hb hml hts hown hA hK hEV hfl hX hbl hbA hi hcc hss hI hP hD hS hl hlp)
  by_cases hk3 : k = 3
  · subst hk3; exact lv_tableIn (x := nI 3) (off := 360) (tgt := 404) hx hb dL_law_44 (by decide) (by decide) rfl (by decide) (lc_3_depend hx hb hml hts hown hA hK hEV hfl hX hbl hbA hi hcc hss hI hP hD hS hl hlp)
  by_cases hk4 : k = 4
  · subst hk4; exact lv_tableIn (x := nI 4) (off := 440) (tgt := 484) hx hb dL_law_44 (by decide) (by decide) rfl (by decide) (lc_4_release hx hb hml hts hown hA hK hEV hfl hX hbl hbA hi hcc hss hI hP hD hS hl hlp)
  by_cases hk5 : k = 5
  · subst hk5; exact lv_tableIn (x := nI 5) (off := 508) (tgt := 552) hx hb dL_law_44 (by decide) (by decide) rfl (by decide) (lc_5_setCrews hx hb hml hts hown hA hK hEV hfl hX hbl hbA hi hcc hss hI hP hD hS hl hlp)
  by_cases hk6 : k = 6
  · subst hk6; exact lv_tableIn (x := nI 6) (off := 564) (tgt := 608) hx hb dL_law_44 (by decide) (by decide) rfl (by decide) (lc_6_readPlan hx hb hml hts hown hA hK hEV hfl hX hbl hbA hi hcc hss hI hP hD hS hl hlp)
  by_cases hk7 : k = 7
  · subst hk7; exact lv_tableIn (x := nI 7) (off := 608) (tgt := 652) hx hb dL_law_44 (by decide) (by decide) rfl (by decide) (lc_7_append hx hb hml hts hown hA hK hEV hfl hX hbl hbA hi hcc hss hI hP hD hS hl hlp)
  by_cases hk8 : k = 8
  · subst hk8; exact lv_tableIn (x := nI 8) (off := 666) (tgt := 710) hx hb dL_law_44 (by decide) (by decide) rfl (by decide) (lc_8_clearText hx hb hml hts hown hA hK hEV hfl hX hbl hbA hi hcc hss hI hP hD hS hl hlp)
  by_cases hk9 : k = 9
  · subst hk9; exact lv_tableIn (x := nI 9) (off := 679) (tgt := 723) hx hb dL_law_44 (by decide) (by decide) rfl (by decide) (lc_9_isValid hx hb hml hts hown hA hK hEV hfl hX hbl hbA hi hcc hss hI hP hD hS hl hlp)
  by_cases hk10 : k = 10
  · subst hk10; exact lv_tableIn (x := nI 10) (off := 692) (tgt := 736) hx hb dL_law_44 (by decide) (by decide) rfl (by decide) (lc_10_firstError hx hb hml hts hown hA hK hEV hfl hX hbl hbA hi hcc hss hI hP hD hS hl hlp)
  by_cases hk11 : k = 11
  · subst hk11; exact lv_tableIn (x := nI 11) (off := 736) (tgt := 780) hx hb dL_law_44 (by decide) (by decide) rfl (by decide) (lc_11_undo hx hb hml hts hown hA hK hEV hfl hX hbl hbA hi hcc hss hI hP hD hS hl hlp)
  by_cases hk12 : k = 12
  · subst hk12; exact lv_tableIn (x := nI 12) (off := 780) (tgt := 824) hx hb dL_law_44 (by decide) (by decide) rfl (by decide) (lc_12_takeSnapshot hx hb hml hts hown hA hK hEV hfl hX hbl hbA hi hcc hss hI hP hD hS hl hlp)
  by_cases hk13 : k = 13
  · subst hk13; exact lv_tableIn (x := nI 13) (off := 793) (tgt := 837) hx hb dL_law_44 (by decide) (by decide) rfl (by decide) (lc_13_restoreSnapshot hx hb hml hts hown hA hK hEV hfl hX hbl hbA hi hcc hss hI hP hD hS hl hlp)
  by_cases hk14 : k = 14
  · subst hk14; exact lv_tableIn (x := nI 14) (off := 837) (tgt := 881) hx hb dL_law_44 (by decide) (by decide) rfl (by decide) (lc_14_taskCount hx hb hml hts hown hA hK hEV hfl hX hbl hbA hi hcc hss hI hP hD hS hl hlp)
  by_cases hk15 : k = 15
  · subst hk15; exact lv_tableIn (x := nI 15) (off := 850) (tgt := 894) hx hb dL_law_44 (by decide) (by decide) rfl (by decide) (lc_15_dependencyCount hx hb hml hts hown hA hK hEV hfl hX hbl hbA hi hcc hss hI hP hD hS hl hlp)
  by_cases hk16 : k = 16
  · subst hk16; exact lv_tableIn (x := nI 16) (off := 863) (tgt := 907) hx hb dL_law_44 (by decide) (by decide) rfl (by decide) (lc_16_lengthOf hx hb hml hts hown hA hK hEV hfl hX hbl hbA hi hcc hss hI hP hD hS hl hlp)
  by_cases hk17 : k = 17
  · subst hk17; exact lv_tableIn (x := nI 17) (off := 919) (tgt := 963) hx hb dL_law_44 (by decide) (by decide) rfl (by decide) (lc_17_crewsOf hx hb hml hts hown hA hK hEV hfl hX hbl hbA hi hcc hss hI hP hD hS hl hlp)
  by_cases hk18 : k = 18
  · subst hk18; exact lv_tableIn (x := nI 18) (off := 975) (tgt := 1019) hx hb dL_law_44 (by decide) (by decide) rfl (by decide) (lc_18_lagOf hx hb hml hts hown hA hK hEV hfl hX hbl hbA hi hcc hss hI hP hD hS hl hlp)
  by_cases hk19 : k = 19
  · subst hk19; exact lv_tableIn (x := nI 19) (off := 1043) (tgt := 1087) hx hb dL_law_44 (by decide) (by decide) rfl (by decide) (lc_19_isAhead hx hb hml hts hown hA hK hEV hfl hX hbl hbA hi hcc hss hI hP hD hS hl hlp)
  by_cases hk20 : k = 20
  · subst hk20; exact lv_tableIn (x := nI 20) (off := 1118) (tgt := 1162) hx hb dL_law_44 (by decide) (by decide) rfl (by decide) (lc_20_earliestStart hx hb hml hts hown hA hK hEV hfl hX hbl hbA hi hcc hss hI hP hD hS hl hlp)
  by_cases hk21 : k = 21
  · subst hk21; exact lv_tableIn (x := nI 21) (off := 1174) (tgt := 1218) hx hb dL_law_44 (by decide) (by decide) rfl (by decide) (lc_21_latestStart hx hb hml hts hown hA hK hEV hfl hX hbl hbA hi hcc hss hI hP hD hS hl hlp)
  by_cases hk22 : k = 22
  · subst hk22; exact lv_tableIn (x := nI 22) (off := 1230) (tgt := 1274) hx hb dL_law_44 (by decide) (by decide) rfl (by decide) (lc_22_planLength hx hb hml hts hown hA hK hEV hfl hX hbl hbA hi hcc hss hI hP hD hS hl hlp)
  by_cases hk23 : k = 23
  · subst hk23; exact lv_tableIn (x := nI 23) (off := 1243) (tgt := 1287) hx hb dL_law_44 (by decide) (by decide) rfl (by decide) (lc_23_planLengthByRounds hx hb hml hts hown hA hK hEV hfl hX hbl hbA hi hcc hss hI hP hD hS hl hlp)
  by_cases hk24 : k = 24
  · subst hk24; exact lv_tableIn (x := nI 24) (off := 1256) (tgt := 1300) hx hb dL_law_44 (by decide) (by decide) rfl (by decide) (lc_24_slack hx hb hml hts hown hA hK hEV hfl hX hbl hbA hi hcc hss hI hP hD hS hl hlp)
  by_cases hk25 : k = 25
  · subst hk25; exact lv_tableIn (x := nI 25) (off := 1312) (tgt := 1356) hx hb dL_law_44 (by decide) (by decide) rfl (by decide) (lc_25_slackByChain hx hb hml hts hown hA hK hEV hfl hX hbl hbA hi hcc hss hI hP hD hS hl hlp)
  by_cases hk26 : k = 26
  · subst hk26; exact lv_tableIn (x := nI 26) (off := 1368) (tgt := 1412) hx hb dL_law_44 (by decide) (by decide) rfl (by decide) (lc_26_freeSlack hx hb hml hts hown hA hK hEV hfl hX hbl hbA hi hcc hss hI hP hD hS hl hlp)
  by_cases hk27 : k = 27
  · subst hk27; exact lv_tableIn (x := nI 27) (off := 1424) (tgt := 1468) hx hb dL_law_44 (by decide) (by decide) rfl (by decide) (lc_27_criticalTasks hx hb hml hts hown hA hK hEV hfl hX hbl hbA hi hcc hss hI hP hD hS hl hlp)
  by_cases hk28 : k = 28
  · subst hk28; exact lv_tableIn (x := nI 28) (off := 1437) (tgt := 1481) hx hb dL_law_44 (by decide) (by decide) rfl (by decide) (lc_28_criticalChains hx hb hml hts hown hA hK hEV hfl hX hbl hbA hi hcc hss hI hP hD hS hl hlp)
  by_cases hk29 : k = 29
  · subst hk29; exact lv_tableIn (x := nI 29) (off := 1451) (tgt := 1495) hx hb dL_law_44 (by decide) (by decide) rfl (by decide) (lc_29_longestHarmless hx hb hml hts hown hA hK hEV hfl hX hbl hbA hi hcc hss hI hP hD hS hl hlp)
  by_cases hk30 : k = 30
  · subst hk30; exact lv_tableIn (x := nI 30) (off := 1507) (tgt := 1551) hx hb dL_law_44 (by decide) (by decide) rfl (by decide) (lc_30_delayOfPlan hx hb hml hts hown hA hK hEV hfl hX hbl hbA hi hcc hss hI hP hD hS hl hlp)
  by_cases hk31 : k = 31
  · subst hk31; exact lv_tableIn (x := nI 31) (off := 1575) (tgt := 1619) hx hb dL_law_44 (by decide) (by decide) rfl (by decide) (lc_31_delayBySlack hx hb hml hts hown hA hK hEV hfl hX hbl hbA hi hcc hss hI hP hD hS hl hlp)
  by_cases hk32 : k = 32
  · subst hk32; exact lv_tableIn (x := nI 32) (off := 1643) (tgt := 1687) hx hb dL_law_44 (by decide) (by decide) rfl (by decide) (lc_32_tasksMoved hx hb hml hts hown hA hK hEV hfl hX hbl hbA hi hcc hss hI hP hD hS hl hlp)
  by_cases hk33 : k = 33
  · subst hk33; exact lv_tableIn (x := nI 33) (off := 1711) (tgt := 1755) hx hb dL_law_44 (by decide) (by decide) rfl (by decide) (lc_33_scheduledStart hx hb hml hts hown hA hK hEV hfl hX hbl hbA hi hcc hss hI hP hD hS hl hlp)
  by_cases hk34 : k = 34
  · subst hk34; exact lv_tableIn (x := nI 34) (off := 1767) (tgt := 1811) hx hb dL_law_44 (by decide) (by decide) rfl (by decide) (lc_34_crewsOn hx hb hml hts hown hA hK hEV hfl hX hbl hbA hi hcc hss hI hP hD hS hl hlp)
  by_cases hk35 : k = 35
  · subst hk35; exact lv_tableIn (x := nI 35) (off := 1823) (tgt := 1867) hx hb dL_law_44 (by decide) (by decide) rfl (by decide) (lc_35_scheduleLength hx hb hml hts hown hA hK hEV hfl hX hbl hbA hi hcc hss hI hP hD hS hl hlp)
  by_cases hk36 : k = 36
  · subst hk36; exact lv_tableIn (x := nI 36) (off := 1867) (tgt := 1911) hx hb dL_law_44 (by decide) (by decide) rfl (by decide) (lc_36_work hx hb hml hts hown hA hK hEV hfl hX hbl hbA hi hcc hss hI hP hD hS hl hlp)
  by_cases hk37 : k = 37
  · subst hk37; exact lv_tableIn (x := nI 37) (off := 1880) (tgt := 1924) hx hb dL_law_44 (by decide) (by decide) rfl (by decide) (lc_37_workByDays hx hb hml hts hown hA hK hEV hfl hX hbl hbA hi hcc hss hI hP hD hS hl hlp)
  by_cases hk38 : k = 38
  · subst hk38; exact lv_tableIn (x := nI 38) (off := 1924) (tgt := 1968) hx hb dL_law_44 (by decide) (by decide) rfl (by decide) (lc_38_leastCrews hx hb hml hts hown hA hK hEV hfl hX hbl hbA hi hcc hss hI hP hD hS hl hlp)
  by_cases hk39 : k = 39
  · subst hk39; exact lv_tableIn (x := nI 39) (off := 1968) (tgt := 2012) hx hb dL_law_44 (by decide) (by decide) rfl (by decide) (lc_39_usage hx hb hml hts hown hA hK hEV hfl hX hbl hbA hi hcc hss hI hP hD hS hl hlp)
  by_cases hk40 : k = 40
  · subst hk40; exact lv_tableIn (x := nI 40) (off := 2033) (tgt := 2077) hx hb dL_law_44 (by decide) (by decide) rfl (by decide) (lc_40_historySize hx hb hml hts hown hA hK hEV hfl hX hbl hbA hi hcc hss hI hP hD hS hl hlp)
  refine lv_tableOut (x := nI k) (tgt := 2090) hx hb dL_law_44 (Or.inr (by rw [nI_toInt (by omega)]; omega)) (by decide) ?_
  refine W.widen (k := cc + 20) (n := ss + 120) (by omega) (by omega) ?_
  unfold LJ at hlp
  exact hlp _ _ _ _ _ _ _ _ _ _ _ _ _ _ _ _ _ _ _ _ _ _ _ _ _ _ _ _ _ _ _ _ _ _ _ _ _ _ _ _ _ _ _ _ _ _ _ _ _ _ _ _ _ _ _ _ _ _ _ _ _ _ _ _ _ hI H locs hP hD hS ls hl
set_option maxHeartbeats 4000000 in
theorem law_loop {l : Launch} {pG : Program} {eV : Env} {s : State} {mI : MethodId} {args : Array Value} {below : List Frame} {meth : Method} {cO : Code} {A : Nat → Prop} {D : va_G} {ca : Nat → ClassId} {Q : State → Prop} {b9 : Nat} (hx : pG.tables.exec = Jvm.exec) (hb : cO.code = cL_law) (hml : cO.maxLocals = 9) (hts : ∀ w ∈ wsL_law, w.before args s = true) (hown : s.vm.findClass RL = some mI.cls) (hA : ∀ q : Nat, s.heap.size ≤ q → A q) (hK : va_K D vwCl (TY ca) s) (hEV : EV A s s.heap) (hfl : l.stackTraces = false) {Ln : Nat} {xs : Nat → Int32} (hX : va_X b9 Ln xs s s.heap) (hbl : b9 < s.heap.size) (hbA : ¬ A b9) (hL : Ln ≤ 2048) {x h a b c g ga gb gc y ys y1 ya1 yb1 yc1 y2 ya2 yb2 yc2 y3 ya3 yb3 yc3 y4 ya4 yb4 yc4 y5 ya5 yb5 yc5 tx th ta tb tc ts d de dl dn o ot ow d2 de2 dl2 dn2 o2 ot2 ow2 ro rs kc0 o3 ot3 ow3 kr kt kf kc sc s1 s2 s3 mo na nb nc nd ne nf ng nh ni nj nl oa oq : Nat} (hend : ∀ (H : Heap) (locs : List Loc), va_S A s.heap H locs → ∀ ls : Array Slot, W pG l eV room_1 s mI args below meth cO H locs 11000 80000 Q (F0 mI 2096 ls [])) : ∀ (fu : Nat) (hs : Bool) (T : Nat) (En C : Int) (L N : Nat → Int) (G : Nat → Nat → Int) (gT : Nat) (gE gC : Int) (gL gN : Nat → Int) (gG : Nat → Nat → Int) (z w tl tp tT : Nat) (tE tC : Int) (tL tN : Nat → Int) (tG : Nat → Nat → Int) (sg : Nat → Int) (sp : Int) (e f M : Nat → Int) (zd : Nat) (od : Nat → Nat) (wd : Nat → Int) (sp2 : Int) (e2 f2 M2 : Nat → Int) (zd2 : Nat) (od2 : Nat → Nat) (wd2 rv : Nat → Int) (zc : Nat) (oc : Nat → Nat) (wc : Nat → Int) (rb : Nat → Bool) (lt lf : Nat → Int) (ct : Nat → Int64) (ln : Int) (sq wk ws : Nat → Int) (mt mp : Nat) (sn sv pa sh me mf mst mmv : Nat → Int) (mcs mcl ov : Nat → Int64) (od9 : Nat → UInt64) (hp : Nat → PS) (i cc ss : Nat), Ln - i < fu → cc ≤ 100 + 5 * i → ss ≤ 10000 + 30 * i → i ≤ Ln + 4 → INV T En C L N G hs gT gE gC gL gN gG z w hp tl sg sn pa sh → ∀ (H : Heap) (locs : List Loc), va_P D vwCl (LW ca x h a b c g ga gb gc y ys y1 ya1 yb1 yc1 y2 ya2 yb2 yc2 y3 ya3 yb3 yc3 y4 ya4 yb4 yc4 y5 ya5 yb5 yc5 tx th ta tb tc ts d de dl dn o ot ow d2 de2 dl2 dn2 o2 ot2 ow2 ro rs kc0 o3 ot3 ow3 kr kt kf kc sc s1 s2 s3 mo na nb nc nd ne nf ng nh ni nj nl oa oq hs T En C L N G gT gE gC gL gN gG z w tl tp tT tE tC tL tN tG sg sp e f M zd od wd sp2 e2 f2 M2 zd2 od2 wd2 rv zc oc wc rb lt lf ct ln sq wk ws hs z tl mt mp sn sv pa sh sg me mf mst mmv mcs mcl ov od9 hp) H → va_D A (LW ca x h a b c g ga gb gc y ys y1 ya1 yb1 yc1 y2 ya2 yb2 yc2 y3 ya3 yb3 yc3 y4 ya4 yb4 yc4 y5 ya5 yb5 yc5 tx th ta tb tc ts d de dl dn o ot ow d2 de2 dl2 dn2 o2 ot2 ow2 ro rs kc0 o3 ot3 ow3 kr kt kf kc sc s1 s2 s3 mo na nb nc nd ne nf ng nh ni nj nl oa oq hs T En C L N G gT gE gC gL gN gG z w tl tp tT tE tC tL tN tG sg sp e f M zd od wd sp2 e2 f2 M2 zd2 od2 wd2 rv zc oc wc rb lt lf ct ln sq wk ws hs z tl mt mp sn sv pa sh sg me mf mst mmv mcs mcl ov od9 hp) → va_S A s.heap H locs → ∀ ls : Array Slot, lv_has ls 9 [(5, .int (nI i)), (0, .ref b9), (1, .ref x), (2, .ref mo), (3, .ref oa), (4, .ref oq)] → W pG l eV room_1 s mI args below meth cO H locs cc ss Q (F0 mI 28 ls []) := by
  intro fu
  induction fu with
  | zero => intro hs T En C L N G gT gE gC gL gN gG z w tl tp tT tE tC tL tN tG sg sp e f M zd od wd sp2 e2 f2 M2 zd2 od2 wd2 rv zc oc wc rb lt lf ct ln sq wk ws mt mp sn sv pa sh me mf mst mmv mcs mcl ov od9 hp i cc ss hmu; exact absurd hmu (Nat.not_lt_zero _)
  | succ n ih =>
    intro hs T En C L N G gT gE gC gL gN gG z w tl tp tT tE tC tL tN tG sg sp e f M zd od wd sp2 e2 f2 M2 zd2 od2 wd2 rv zc oc wc rb lt lf ct ln sq wk ws mt mp sn sv pa sh me mf mst mmv mcs mcl ov od9 hp i cc ss hmu hcc hss hile hI H locs hP hD hS ls hl
    refine lv_iload hx hb dL_law_28 (lv_at hl 0 rfl) ?_
    refine lv_aload_n hx hb dL_law_30 rfl (lv_at hl 1 rfl) ?_
    refine va_slen hx hb hX hbl hbA hS dL_law_31 ?_
    refine lv_iconst (v := nI 4) hx hb dL_law_32 (by decide) ?_
    refine lv_isub hx hb dL_law_33 ?_
    refine xr_top (y := iZ ((Ln : Int) - 4)) (by rw [show Int32.ofNat Ln = nI Ln from rfl, iZ_n, iZ_n]; exact (Int32.ofInt_sub _ _).symm) ?_
    refine lv_icmp_gt (tgt := 2096) hx hb dL_law_34 (by decide) (fun h34 => ?_) (fun h34 => ?_)
    · exact W.widen (by omega) (by omega) (hend H locs hS ls)
    · have h34 := (not_congr (cT (iZ_toInt (by omega) (by omega)) (nI_toInt (by omega)))).mp h34
      refine lv_aload_n hx hb dL_law_37 rfl (lv_at hl 1 rfl) ?_
      refine lv_iload hx hb dL_law_38 (lv_at hl 0 rfl) ?_
      refine xr_sld hx hb hX hbl hbA hS (k := i) (by omega) (by omega) dL_law_40 ?_
      refine lv_bipush (v := nI 63) hx hb dL_law_41 (by decide) ?_
      refine lv_iand hx hb dL_law_43 ?_
      refine xr_top (y := nI ((xs i).toBitVec.toNat % 64)) (pk_and (xs i) 6 (m := nI 63) (by decide)) ?_
      refine law_sw hx hb hml hts hown hA hK hEV hfl hX hbl hbA (i := i) (by omega) (by omega) (by omega) hI hP hD hS hl ?_ _ (Nat.mod_lt _ (by decide))
      unfold LJ
      intro hs' T' En' C' L' N' G' gT' gE' gC' gL' gN' gG' z' w' tl' tp' tT' tE' tC' tL' tN' tG' sg' sp' e' f' M' zd' od' wd' sp2' e2' f2' M2' zd2' od2' wd2' rv' zc' oc' wc' rb' lt' lf' ct' ln' sq' wk' ws' mt' mp' sn' sv' pa' sh' me' mf' mst' mmv' mcs' mcl' ov' od9' hp' hI H locs hP hD hS ls hl
      refine lv_iinc (v := nI (i + 4)) (lv' := [(5, .int (nI (i + 4))), (0, .ref b9), (1, .ref x), (2, .ref mo), (3, .ref oa), (4, .ref oq)]) hx hb dL_law_2090 hl (k := 0) rfl (nI_add _ 4) (by decide) rfl (fun ls hl => ?_)
      refine lv_goto (tgt := 28) hx hb dL_law_2093 (by decide) ?_
      exact ih _ _ _ _ _ _ _ _ _ _ _ _ _ _ _ _ _ _ _ _ _ _ _ _ _ _ _ _ _ _ _ _ _ _ _ _ _ _ _ _ _ _ _ _ _ _ _ _ _ _ _ _ _ _ _ _ _ _ _ _ _ _ _ _ _ (i + 4) (cc + 20) (ss + 120) (by omega) (by omega) (by omega) (by omega) hI H locs hP hD hS ls hl

