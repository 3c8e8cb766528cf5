def rX1_findEarliest : Room := { frames := 2, cells := 0, slots := 0, locals := 43 }
set_option maxHeartbeats 4000000 in
set_option maxRecDepth 100000 in
/-- findEarliest(plan) -/
theorem mX1_findEarliest (l : Launch) (D : va_G) (ca : Nat → ClassId) (sz : Nat) (d : Nat) (de : Nat) (dl : Nat) (dn : Nat) (o : Nat) (ot : Nat) (ow : Nat) (e : Nat → Int) (sp : Int) (M : Nat → Int) (od : Nat → Nat) (h : Nat) (a : Nat) (b : Nat) (c : Nat) (T : Nat) (E : Int) (C : Int) (G : Nat → Nat → Int) (hT : T ≤ 20) (hG : GOK G) (hac : ACY G T) (htp : TOPO G T od) (hM : LOK T M) : MM l yX1_findEarliest wsX1_findEarliest rX1_findEarliest D ca [.ref d, .ref h] sz [(d, .inr (1, [.ref de, .ref dl, .int (iZ sp), .ref dn, .ref o])), (de, .inl (ca 0, 20, .inl (zF e))), (dn, .inl (ca 0, 20, .inl (zF M))), (o, .inr (3, [.int (nI T), .ref ot, .ref ow])), (ot, .inl (ca 0, 20, .inl (nF od))), (h, .inr (7, [.int (nI T), .int (iZ E), .int (iZ C), .ref a, .ref b, .ref c])), (c, .inl (ca 0, 400, .inl (zG G)))] (QV D ca (fun (u : (Nat → Int) × Int) => (∀ j, j < T → u.1 j = es G T M j) ∧ u.2 = span G T M) (fun u => [(d, .inr (1, [.ref de, .ref dl, .int (iZ u.2), .ref dn, .ref o])), (de, .inl (ca 0, 20, .inl (zF u.1))), (dn, .inl (ca 0, 20, .inl (zF M))), (o, .inr (3, [.int (nI T), .ref ot, .ref ow])), (ot, .inl (ca 0, 20, .inl (nF od))), (h, .inr (7, [.int (nI T), .int (iZ E), .int (iZ C), .ref a, .ref b, .ref c])), (c, .inl (ca 0, 400, .inl (zG G)))])) := by
  refine MM_of (cc := cX1_findEarliest) (maxL := 7) (ret := none) (lv0 := [(0, .ref d), (1, .ref h)]) RX1 (by decide) rfl rfl (Nat.le_of_ble_eq_true rfl) rfl ?_
  intro pG eV s mI args below meth cO hx hb hr hml hts hown hlocks hnm A hA H locs hsz hP hK hD hS Q hE ls hl
  have f9 := hts (.fieldLink RX1 9 "SlackPlan$Days" "earliest" "[I") (List.mem_of_getElem? (i := 1) rfl)
  have inX1 : ∀ w ∈ u_ws RX1 TX1 5, w ∈ wsX1_findEarliest := in_r _ [27, 28, 29, 30, 31] rfl
  have f18 := hts (.fieldLink RX1 18 "SlackPlan$Days" "span" "I") (List.mem_of_getElem? (i := 2) rfl)
  have f28 := hts (.fieldLink RX1 28 "SlackPlan$Days" "order" "LSlackPlan$Order;") (List.mem_of_getElem? (i := 3) rfl)
  have f77 := hts (.fieldLink RX1 77 "SlackPlan$Order" "size" "I") (List.mem_of_getElem? (i := 4) rfl)
  have inX3 : ∀ w ∈ u_ws RX3 TX3 3, w ∈ wsX1_findEarliest := in_r _ [32, 33, 34] rfl
  have f80 := hts (.fieldLink RX1 80 "SlackPlan$Order" "tasks" "[I") (List.mem_of_getElem? (i := 5) rfl)
  have f22 := hts (.fieldLink RX1 22 "SlackPlan$Days" "lengths" "[I") (List.mem_of_getElem? (i := 6) rfl)
  have ml82 := hts (.methodLink RX1 82 Lib.Math.max.name) (List.mem_of_getElem? (i := 7) rfl)
  have stmax := hts (.static Lib.Math.max.name) (List.mem_of_getElem? (i := 8) rfl)
  have iniM := hts (.initialized "java/lang/Math") (List.mem_of_getElem? (i := 9) rfl)
  have cdmax := hts (.code Lib.Math.max.name Lib.Math.max.code 2 (some .int)) (List.mem_of_getElem? (i := 10) rfl)
  have f49 := hts (.fieldLink RX1 49 "SlackPlan$State" "tasks" "I") (List.mem_of_getElem? (i := 11) rfl)
  have inX7 : ∀ w ∈ u_ws RX7 TX7 6, w ∈ wsX1_findEarliest := in_r _ [35, 36, 37, 38, 39, 40] rfl
  refine lv_aload_n hx hb dX1_findEarliest_0 rfl (lv_at hl 0 rfl) ?_
  refine va_get (D := D) (ci := 1) (v := .ref de) (C := RX1) (T := TX1) (N := 5) hx hb hts inX1 hown hK hP 0 rfl rfl 0 (by decide) f9 (fun _ h9 => h9) rfl dX1_findEarliest_1 ?_
  refine lv_iconst (v := nI (0)) hx hb dX1_findEarliest_4 (by decide) ?_
  refine xk_v [(d, .inr (1, [.ref de, .ref dl, .int (iZ sp), .ref dn, .ref o])), (dn, .inl (ca 0, 20, .inl (zF M))), (o, .inr (3, [.int (nI T), .ref ot, .ref ow])), (ot, .inl (ca 0, 20, .inl (nF od))), (h, .inr (7, [.int (nI T), .int (iZ E), .int (iZ C), .ref a, .ref b, .ref c])), (c, .inl (ca 0, 400, .inl (zG G)))] (fun u => [(d, .inr (1, [.ref de, .ref dl, .int (iZ sp), .ref dn, .ref o])), (de, .inl (ca 0, 20, .inl ((fun _ => (nI (0)))))), (dn, .inl (ca 0, 20, .inl (zF M))), (o, .inr (3, [.int (nI T), .ref ot, .ref ow])), (ot, .inl (ca 0, 20, .inl (nF od))), (h, .inr (7, [.int (nI T), .int (iZ E), .int (iZ C), .ref a, .ref b, .ref c])), (c, .inl (ca 0, 400, .inl (zG G)))]) (xk_S (As := [.ref de, .int (nI 0)]) (rest := []) ⟨hx, hb, hml, hown, hts⟩ (mJ7_fill_53178 l D ca H.size de 20 (zF e) (nI (0)) (by omega)) (va_cwS 2 hts gX1_findEarliest_J7_fill_53178 rfl rfl rfl (by decide +kernel) ⟨Nat.le_of_ble_eq_true rfl, Nat.le_of_ble_eq_true rfl⟩) hK hP hD [1] rfl rfl rfl hl.1 rfl (Nat.le_of_ble_eq_true rfl) dX1_findEarliest_5 ⟨Nat.le_of_ble_eq_true rfl, Nat.le_of_ble_eq_true rfl⟩) hP hD hS hA [1] [0, 2, 3, 4, 5, 6] [0, 6, 1, 2, 3, 4, 5] rfl rfl rfl rfl (fun _ => rfl) rfl (fun u5 H locs hw5 hP hD hS => ?_)
  have hw5 : True := hw5
  have hP : va_P D vwCl [(d, .inr (1, [.ref de, .ref dl, .int (iZ sp), .ref dn, .ref o])), (de, .inl (ca 0, 20, .inl ((fun _ => (nI (0)))))), (dn, .inl (ca 0, 20, .inl (zF M))), (o, .inr (3, [.int (nI T), .ref ot, .ref ow])), (ot, .inl (ca 0, 20, .inl (nF od))), (h, .inr (7, [.int (nI T), .int (iZ E), .int (iZ C), .ref a, .ref b, .ref c])), (c, .inl (ca 0, 400, .inl (zG G)))] H := hP
  have hD : va_D A [(d, .inr (1, [.ref de, .ref dl, .int (iZ sp), .ref dn, .ref o])), (de, .inl (ca 0, 20, .inl ((fun _ => (nI (0)))))), (dn, .inl (ca 0, 20, .inl (zF M))), (o, .inr (3, [.int (nI T), .ref ot, .ref ow])), (ot, .inl (ca 0, 20, .inl (nF od))), (h, .inr (7, [.int (nI T), .int (iZ E), .int (iZ C), .ref a, .ref b, .ref c])), (c, .inl (ca 0, 400, .inl (zG G)))] := hD
  have hP := hP.arr 1 (zF (fun _ => 0)) rfl (fun _ _ => rfl)
  have hD := hD.set (p := 1) (e := .inl (ca 0, 20, .inl (zF (fun _ => 0)))) rfl
  have hP : va_P D vwCl [(d, .inr (1, [.ref de, .ref dl, .int (iZ sp), .ref dn, .ref o])), (de, .inl (ca 0, 20, .inl (zF (fun _ => 0)))), (dn, .inl (ca 0, 20, .inl (zF M))), (o, .inr (3, [.int (nI T), .ref ot, .ref ow])), (ot, .inl (ca 0, 20, .inl (nF od))), (h, .inr (7, [.int (nI T), .int (iZ E), .int (iZ C), .ref a, .ref b, .ref c])), (c, .inl (ca 0, 400, .inl (zG G)))] H := hP
  have hD : va_D A [(d, .inr (1, [.ref de, .ref dl, .int (iZ sp), .ref dn, .ref o])), (de, .inl (ca 0, 20, .inl (zF (fun _ => 0)))), (dn, .inl (ca 0, 20, .inl (zF M))), (o, .inr (3, [.int (nI T), .ref ot, .ref ow])), (ot, .inl (ca 0, 20, .inl (nF od))), (h, .inr (7, [.int (nI T), .int (iZ E), .int (iZ C), .ref a, .ref b, .ref c])), (c, .inl (ca 0, 400, .inl (zG G)))] := hD
  refine lv_aload_n hx hb dX1_findEarliest_8 rfl (lv_at hl 0 rfl) ?_
  refine lv_iconst (v := nI (0)) hx hb dX1_findEarliest_9 (by decide) ?_
  refine va_put (D := D) (ci := 1) (v := .int (nI 0)) (ty := .int) (C := RX1) (T := TX1) (N := 5) hx hb hts inX1 tyX1 tyX1_ok nmX1 hown hK hP hD hS 0 rfl rfl 2 (by decide) f18 (fun _ h9 => h9) rfl (by decide +kernel) rfl rfl (Nat.le_of_ble_eq_true rfl) dX1_findEarliest_10 (fun H locs hP hD hS => ?_)
  have hP : va_P D vwCl [(d, .inr (1, [.ref de, .ref dl, .int (nI 0), .ref dn, .ref o])), (de, .inl (ca 0, 20, .inl (zF (fun _ => 0)))), (dn, .inl (ca 0, 20, .inl (zF M))), (o, .inr (3, [.int (nI T), .ref ot, .ref ow])), (ot, .inl (ca 0, 20, .inl (nF od))), (h, .inr (7, [.int (nI T), .int (iZ E), .int (iZ C), .ref a, .ref b, .ref c])), (c, .inl (ca 0, 400, .inl (zG G)))] H := hP
  have hD : va_D A [(d, .inr (1, [.ref de, .ref dl, .int (nI 0), .ref dn, .ref o])), (de, .inl (ca 0, 20, .inl (zF (fun _ => 0)))), (dn, .inl (ca 0, 20, .inl (zF M))), (o, .inr (3, [.int (nI T), .ref ot, .ref ow])), (ot, .inl (ca 0, 20, .inl (nF od))), (h, .inr (7, [.int (nI T), .int (iZ E), .int (iZ C), .ref a, .ref b, .ref c])), (c, .inl (ca 0, 400, .inl (zG G)))] := hD
  refine lv_iconst (v := nI (0)) hx hb dX1_findEarliest_13 (by decide) ?_
  refine lv_istore_n (lv' := [(2, .int (nI 0)), (0, .ref d), (1, .ref h)]) hx hb dX1_findEarliest_14 rfl hl (by decide) rfl (fun ls hl => ?_)
  have L15 : ∀ (fu : Nat) (pl : Nat) (e2 : Nat → Int) (sp2 : Int), (pl ≤ T) → (FO G T M od pl e2) → (sp2 = spP M (es G T M) od pl) → (T - pl) < fu → ∀ (H : Heap) (locs : List Loc), va_P D vwCl [(d, .inr (1, [.ref de, .ref dl, .int (iZ sp2), .ref dn, .ref o])), (de, .inl (ca 0, 20, .inl (zF e2))), (dn, .inl (ca 0, 20, .inl (zF M))), (o, .inr (3, [.int (nI T), .ref ot, .ref ow])), (ot, .inl (ca 0, 20, .inl (nF od))), (h, .inr (7, [.int (nI T), .int (iZ E), .int (iZ C), .ref a, .ref b, .ref c])), (c, .inl (ca 0, 400, .inl (zG G)))] H → va_D A [(d, .inr (1, [.ref de, .ref dl, .int (iZ sp2), .ref dn, .ref o])), (de, .inl (ca 0, 20, .inl (zF e2))), (dn, .inl (ca 0, 20, .inl (zF M))), (o, .inr (3, [.int (nI T), .ref ot, .ref ow])), (ot, .inl (ca 0, 20, .inl (nF od))), (h, .inr (7, [.int (nI T), .int (iZ E), .int (iZ C), .ref a, .ref b, .ref c])), (c, .inl (ca 0, 400, .inl (zG G)))] → va_S A s.heap H locs → ∀ ls : Array Slot, lv_has ls 7 [(2, .int (nI pl)), (0, .ref d), (1, .ref h)] → W pG l eV rX1_findEarliest s mI args below meth cO H locs 0 0 Q (F0 mI 15 ls []) := by
    clear hP hD hS hl
    intro fu; induction fu with
    | zero => intro pl e2 sp2 hpl hO hs hmu; exact absurd hmu (Nat.not_lt_zero _)
    | succ n15 ih15 =>
      intro pl e2 sp2 hpl hO hs hmu15 H locs hP hD hS ls hl
      refine lv_iload_n hx hb dX1_findEarliest_15 rfl (lv_at hl 0 rfl) ?_
      refine lv_aload_n hx hb dX1_findEarliest_16 rfl (lv_at hl 1 rfl) ?_
      refine va_get (D := D) (ci := 1) (v := .ref o) (C := RX1) (T := TX1) (N := 5) hx hb hts inX1 hown hK hP 0 rfl rfl 4 (by decide) f28 (fun _ h9 => h9) rfl dX1_findEarliest_17 ?_
      refine va_get (D := D) (ci := 3) (v := .int (nI T)) (C := RX3) (T := TX3) (N := 3) hx hb hts inX3 hown hK hP 3 rfl rfl 0 (by decide) f77 (fun _ h9 => h9) rfl dX1_findEarliest_20 ?_
      refine lv_icmp_ge (tgt := 125) hx hb dX1_findEarliest_23 (by decide) (fun h23 => ?_) (fun h23 => ?_)
      · skip
        have h23 := (cL (nI_toInt (by omega)) (nI_toInt (by omega))).mp h23
        rw [← hE]
        exact xe_v (e2, sp2) hx hb hr hlocks hK hP hD hS (FE_end hac htp hO hs hpl (by omega)) dX1_findEarliest_125
      · skip
        have h23 := (not_congr (cL (nI_toInt (by omega)) (nI_toInt (by omega)))).mp h23
        refine lv_aload_n hx hb dX1_findEarliest_26 rfl (lv_at hl 1 rfl) ?_
        refine va_get (D := D) (ci := 1) (v := .ref o) (C := RX1) (T := TX1) (N := 5) hx hb hts inX1 hown hK hP 0 rfl rfl 4 (by decide) f28 (fun _ h9 => h9) rfl dX1_findEarliest_27 ?_
        refine va_get (D := D) (ci := 3) (v := .ref ot) (C := RX3) (T := TX3) (N := 3) hx hb hts inX3 hown hK hP 3 rfl rfl 1 (by decide) f80 (fun _ h9 => h9) rfl dX1_findEarliest_30 ?_
        refine lv_iload_n hx hb dX1_findEarliest_33 rfl (lv_at hl 0 rfl) ?_
        refine xr_iald hx hb hK hP 4 0 rfl rfl (by omega) (Nat.le_of_ble_eq_true rfl) (v := nI (od pl)) rfl dX1_findEarliest_34 ?_
        refine lv_istore_n (lv' := [(3, .int (nI (od pl))), (2, .int (nI pl)), (0, .ref d), (1, .ref h)]) hx hb dX1_findEarliest_35 rfl hl (by decide) rfl (fun ls hl => ?_)
        have ho := htp.1 pl (by omega)
        refine lv_aload_n hx hb dX1_findEarliest_36 rfl (lv_at hl 2 rfl) ?_
        refine va_get (D := D) (ci := 1) (v := .ref de) (C := RX1) (T := TX1) (N := 5) hx hb hts inX1 hown hK hP 0 rfl rfl 0 (by decide) f9 (fun _ h9 => h9) rfl dX1_findEarliest_37 ?_
        refine lv_iload_n hx hb dX1_findEarliest_40 rfl (lv_at hl 0 rfl) ?_
        refine xr_iald hx hb hK hP 1 0 rfl rfl (by omega) (Nat.le_of_ble_eq_true rfl) (v := iZ (e2 (od pl))) rfl dX1_findEarliest_41 ?_
        refine xr_top (y := iZ (es G T M (od pl))) (congrArg iZ ((hO _ ho).trans (pmax_od hac htp (by omega)))) ?_
        refine lv_aload_n hx hb dX1_findEarliest_42 rfl (lv_at hl 2 rfl) ?_
        refine va_get (D := D) (ci := 1) (v := .ref dn) (C := RX1) (T := TX1) (N := 5) hx hb hts inX1 hown hK hP 0 rfl rfl 3 (by decide) f22 (fun _ h9 => h9) rfl dX1_findEarliest_43 ?_
        refine lv_iload_n hx hb dX1_findEarliest_46 rfl (lv_at hl 0 rfl) ?_
        refine xr_iald hx hb hK hP 2 0 rfl rfl (by omega) (Nat.le_of_ble_eq_true rfl) (v := iZ (M (od pl))) rfl dX1_findEarliest_47 ?_
        refine xr_iadd_zz hx hb dX1_findEarliest_48 ?_
        refine lv_istore (lv' := [(4, .int (iZ ((es G T M (od pl)) + (M (od pl))))), (3, .int (nI (od pl))), (2, .int (nI pl)), (0, .ref d), (1, .ref h)]) hx hb dX1_findEarliest_49 hl (by decide) rfl (fun ls hl => ?_)
        refine lv_aload_n hx hb dX1_findEarliest_51 rfl (lv_at hl 3 rfl) ?_
        refine lv_aload_n hx hb dX1_findEarliest_52 rfl (lv_at hl 3 rfl) ?_
        refine va_get (D := D) (ci := 1) (v := .int (iZ sp2)) (C := RX1) (T := TX1) (N := 5) hx hb hts inX1 hown hK hP 0 rfl rfl 2 (by decide) f18 (fun _ h9 => h9) rfl dX1_findEarliest_53 ?_
        refine lv_iload hx hb dX1_findEarliest_56 (lv_at hl 0 rfl) ?_
        have b1 := spP_le hT hG hM htp (n := pl) (by omega)
        have b2 := es_le hT hG hM ho
        have b3 := es_0 (G := G) (T := T) (L := M) (od pl)
        have b4 := hM _ ho
        refine va_mmax hx hb (by rw [hml]; exact hl.1.symm) hown ml82 stmax iniM cdmax (Nat.le_of_ble_eq_true rfl) (Nat.le_of_ble_eq_true rfl) (Nat.zero_le _) (Nat.zero_le _) dX1_findEarliest_58 ?_
        refine xr_top (y := iZ (max sp2 ((es G T M (od pl)) + (M (od pl))))) (imax (iZ_toInt (by omega) (by omega)) (iZ_toInt (by omega) (by omega))) ?_
        refine va_put (D := D) (ci := 1) (v := .int (iZ (max sp2 ((es G T M (od pl)) + (M (od pl)))))) (ty := .int) (C := RX1) (T := TX1) (N := 5) hx hb hts inX1 tyX1 tyX1_ok nmX1 hown hK hP hD hS 0 rfl rfl 2 (by decide) f18 (fun _ h9 => h9) rfl (by decide +kernel) rfl rfl (Nat.le_of_ble_eq_true rfl) dX1_findEarliest_61 (fun H locs hP hD hS => ?_)
        have hP : va_P D vwCl [(d, .inr (1, [.ref de, .ref dl, .int (iZ (max sp2 ((es G T M (od pl)) + (M (od pl))))), .ref dn, .ref o])), (de, .inl (ca 0, 20, .inl (zF e2))), (dn, .inl (ca 0, 20, .inl (zF M))), (o, .inr (3, [.int (nI T), .ref ot, .ref ow])), (ot, .inl (ca 0, 20, .inl (nF od))), (h, .inr (7, [.int (nI T), .int (iZ E), .int (iZ C), .ref a, .ref b, .ref c])), (c, .inl (ca 0, 400, .inl (zG G)))] H := hP
        have hD : va_D A [(d, .inr (1, [.ref de, .ref dl, .int (iZ (max sp2 ((es G T M (od pl)) + (M (od pl))))), .ref dn, .ref o])), (de, .inl (ca 0, 20, .inl (zF e2))), (dn, .inl (ca 0, 20, .inl (zF M))), (o, .inr (3, [.int (nI T), .ref ot, .ref ow])), (ot, .inl (ca 0, 20, .inl (nF od))), (h, .inr (7, [.int (nI T), .int (iZ E), .int (iZ C), .ref a, .ref b, .ref c])), (c, .inl (ca 0, 400, .inl (zG G)))] := hD
        refine lv_iconst (v := nI (0)) hx hb dX1_findEarliest_64 (by decide) ?_
        refine lv_istore (lv' := [(5, .int (nI 0)), (4, .int (iZ ((es G T M (od pl)) + (M (od pl))))), (3, .int (nI (od pl))), (2, .int (nI pl)), (0, .ref d), (1, .ref h)]) hx hb dX1_findEarliest_65 hl (by decide) rfl (fun ls hl => ?_)
        have L67 : ∀ (fu : Nat) (t : Nat) (e3 : Nat → Int), (t ≤ T) → (FE G T M od pl t e3) → (T - t) < fu → ∀ (H : Heap) (locs : List Loc), va_P D vwCl [(d, .inr (1, [.ref de, .ref dl, .int (iZ (max sp2 ((es G T M (od pl)) + (M (od pl))))), .ref dn, .ref o])), (de, .inl (ca 0, 20, .inl (zF e3))), (dn, .inl (ca 0, 20, .inl (zF M))), (o, .inr (3, [.int (nI T), .ref ot, .ref ow])), (ot, .inl (ca 0, 20, .inl (nF od))), (h, .inr (7, [.int (nI T), .int (iZ E), .int (iZ C), .ref a, .ref b, .ref c])), (c, .inl (ca 0, 400, .inl (zG G)))] H → va_D A [(d, .inr (1, [.ref de, .ref dl, .int (iZ (max sp2 ((es G T M (od pl)) + (M (od pl))))), .ref dn, .ref o])), (de, .inl (ca 0, 20, .inl (zF e3))), (dn, .inl (ca 0, 20, .inl (zF M))), (o, .inr (3, [.int (nI T), .ref ot, .ref ow])), (ot, .inl (ca 0, 20, .inl (nF od))), (h, .inr (7, [.int (nI T), .int (iZ E), .int (iZ C), .ref a, .ref b, .ref c])), (c, .inl (ca 0, 400, .inl (zG G)))] → va_S A s.heap H locs → ∀ ls : Array Slot, lv_has ls 7 [(5, .int (nI t)), (4, .int (iZ ((es G T M (od pl)) + (M (od pl))))), (3, .int (nI (od pl))), (2, .int (nI pl)), (0, .ref d), (1, .ref h)] → W pG l eV rX1_findEarliest s mI args below meth cO H locs 0 0 Q (F0 mI 67 ls []) := by
          clear hP hD hS hl
          intro fu; induction fu with
          | zero => intro t e3 ht hF hmu; exact absurd hmu (Nat.not_lt_zero _)
          | succ n67 ih67 =>
            intro t e3 ht hF hmu67 H locs hP hD hS ls hl
            refine lv_iload hx hb dX1_findEarliest_67 (lv_at hl 0 rfl) ?_
            refine lv_aload_n hx hb dX1_findEarliest_69 rfl (lv_at hl 5 rfl) ?_
            refine va_get (D := D) (ci := 7) (v := .int (nI T)) (C := RX7) (T := TX7) (N := 6) hx hb hts inX7 hown hK hP 5 rfl rfl 0 (by decide) f49 (fun _ h9 => h9) rfl dX1_findEarliest_70 ?_
            refine lv_icmp_ge (tgt := 119) hx hb dX1_findEarliest_73 (by decide) (fun h73 => ?_) (fun h73 => ?_)
            · skip
              have h73 := (cL (nI_toInt (by omega)) (nI_toInt (by omega))).mp h73
              refine lv_iinc (v := nI (pl + 1)) (lv' := [(2, .int (nI (pl + 1))), (5, .int (nI t)), (4, .int (iZ ((es G T M (od pl)) + (M (od pl))))), (3, .int (nI (od pl))), (0, .ref d), (1, .ref h)]) hx hb dX1_findEarliest_119 hl (k := 3) rfl (nI_add _ 1) (by decide) rfl (fun ls hl => ?_)
              refine lv_goto (tgt := 15) hx hb dX1_findEarliest_122 (by decide) ?_
              exact ih15 (pl + 1) e3 (max sp2 ((es G T M (od pl)) + (M (od pl)))) (by omega) (FE_FO hF (by omega)) (by rw [spP, hs]) (by omega) _ _ hP hD hS _ (lv_sub hl [0, 4, 5] rfl)
            · skip
              have h73 := (not_congr (cL (nI_toInt (by omega)) (nI_toInt (by omega)))).mp h73
              refine lv_aload_n hx hb dX1_findEarliest_76 rfl (lv_at hl 5 rfl) ?_
              refine lv_iload_n hx hb dX1_findEarliest_77 rfl (lv_at hl 2 rfl) ?_
              refine lv_iload hx hb dX1_findEarliest_78 (lv_at hl 0 rfl) ?_
              refine xk_pi (xk_V (As := [.int (nI (od pl)), .int (nI t)]) (rest := []) ⟨hx, hb, hml, hown, hts⟩ (mX7_lag l D ca H.size h a b c T E C G (od pl) t (by omega) (by omega) (by omega)) (cwV 2 hts gX1_findEarliest_X7_lag rfl rfl rfl (by decide +kernel) ⟨Nat.le_of_ble_eq_true rfl, Nat.le_of_ble_eq_true rfl⟩) hK hP hD (va_recv (q := (RX7, TX7, 6)) hK hP (ci := 7) (q0 := 5) rfl rfl) [5, 6] rfl rfl rfl hl.1 rfl (Nat.le_of_ble_eq_true rfl) dX1_findEarliest_80 ⟨Nat.le_of_ble_eq_true rfl, Nat.le_of_ble_eq_true rfl⟩) hP hD hS hA [5, 6] rfl ⟨rfl, rfl⟩ (fun r80 H locs hw80 hP hS => ?_)
              have hw80 : r80 = iZ (G (od pl) t) := hw80
              subst hw80
              refine lv_istore (lv' := [(6, .int (iZ (G (od pl) t))), (5, .int (nI t)), (4, .int (iZ ((es G T M (od pl)) + (M (od pl))))), (3, .int (nI (od pl))), (2, .int (nI pl)), (0, .ref d), (1, .ref h)]) hx hb dX1_findEarliest_83 hl (by decide) rfl (fun ls hl => ?_)
              have hb1 := hG (od pl) t (by omega) (by omega)
              refine lv_iload hx hb dX1_findEarliest_85 (lv_at hl 0 rfl) ?_
              refine lv_iconst (v := iZ (-1)) hx hb dX1_findEarliest_87 (by decide) ?_
              refine lv_icmp_eq (tgt := 113) hx hb dX1_findEarliest_88 (by decide) (fun h88 => ?_) (fun h88 => ?_)
              · skip
                have h88 := (cE (iZ_toInt (by omega) (by omega)) (iZ_toInt (by omega) (by omega))).mp h88
                refine lv_iinc (v := nI (t + 1)) (lv' := [(5, .int (nI (t + 1))), (6, .int (iZ (G (od pl) t))), (4, .int (iZ ((es G T M (od pl)) + (M (od pl))))), (3, .int (nI (od pl))), (2, .int (nI pl)), (0, .ref d), (1, .ref h)]) hx hb dX1_findEarliest_113 hl (k := 1) rfl (nI_add _ 1) (by decide) rfl (fun ls hl => ?_)
                refine lv_goto (tgt := 67) hx hb dX1_findEarliest_116 (by decide) ?_
                exact ih67 (t + 1) e3 (by omega) (FE_skip hF h88) (by omega) _ _ hP hD hS _ (lv_sub hl [0, 2, 3, 4, 5, 6] rfl)
              · skip
                have h88 := (not_congr (cE (iZ_toInt (by omega) (by omega)) (iZ_toInt (by omega) (by omega)))).mp h88
                have b5 := FE_rng hF hT hG hM htp (by omega) (show t < T by omega)
                refine lv_aload_n hx hb dX1_findEarliest_91 rfl (lv_at hl 5 rfl) ?_
                refine va_get (D := D) (ci := 1) (v := .ref de) (C := RX1) (T := TX1) (N := 5) hx hb hts inX1 hown hK hP 0 rfl rfl 0 (by decide) f9 (fun _ h9 => h9) rfl dX1_findEarliest_92 ?_
                refine lv_iload hx hb dX1_findEarliest_95 (lv_at hl 1 rfl) ?_
                refine lv_aload_n hx hb dX1_findEarliest_97 rfl (lv_at hl 5 rfl) ?_
                refine va_get (D := D) (ci := 1) (v := .ref de) (C := RX1) (T := TX1) (N := 5) hx hb hts inX1 hown hK hP 0 rfl rfl 0 (by decide) f9 (fun _ h9 => h9) rfl dX1_findEarliest_98 ?_
                refine lv_iload hx hb dX1_findEarliest_101 (lv_at hl 1 rfl) ?_
                refine xr_iald hx hb hK hP 1 0 rfl rfl (by omega) (Nat.le_of_ble_eq_true rfl) (v := iZ (e3 t)) rfl dX1_findEarliest_103 ?_
                refine lv_iload hx hb dX1_findEarliest_104 (lv_at hl 2 rfl) ?_
                refine lv_iload hx hb dX1_findEarliest_106 (lv_at hl 0 rfl) ?_
                refine xr_iadd_zz hx hb dX1_findEarliest_108 ?_
                refine va_mmax hx hb (by rw [hml]; exact hl.1.symm) hown ml82 stmax iniM cdmax (Nat.le_of_ble_eq_true rfl) (Nat.le_of_ble_eq_true rfl) (Nat.zero_le _) (Nat.zero_le _) dX1_findEarliest_109 ?_
                refine xr_top (y := iZ (max (e3 t) (((es G T M (od pl)) + (M (od pl))) + (G (od pl) t)))) (imax (iZ_toInt (by omega) (by omega)) (iZ_toInt (by omega) (by omega))) ?_
                refine xr_iast hx hb hK hP hD hS 1 0 rfl rfl (by omega) (Nat.le_of_ble_eq_true rfl) (zF (upZ e3 t (max (e3 t) (((es G T M (od pl)) + (M (od pl))) + (G (od pl) t))))) (fun _ _ => zF_up _ _ _ _) dX1_findEarliest_112 (fun H locs hP hD hS => ?_)
                have hP : va_P D vwCl [(d, .inr (1, [.ref de, .ref dl, .int (iZ (max sp2 ((es G T M (od pl)) + (M (od pl))))), .ref dn, .ref o])), (de, .inl (ca 0, 20, .inl (zF (upZ e3 t (max (e3 t) (((es G T M (od pl)) + (M (od pl))) + (G (od pl) t))))))), (dn, .inl (ca 0, 20, .inl (zF M))), (o, .inr (3, [.int (nI T), .ref ot, .ref ow])), (ot, .inl (ca 0, 20, .inl (nF od))), (h, .inr (7, [.int (nI T), .int (iZ E), .int (iZ C), .ref a, .ref b, .ref c])), (c, .inl (ca 0, 400, .inl (zG G)))] H := hP
                have hD : va_D A [(d, .inr (1, [.ref de, .ref dl, .int (iZ (max sp2 ((es G T M (od pl)) + (M (od pl))))), .ref dn, .ref o])), (de, .inl (ca 0, 20, .inl (zF (upZ e3 t (max (e3 t) (((es G T M (od pl)) + (M (od pl))) + (G (od pl) t))))))), (dn, .inl (ca 0, 20, .inl (zF M))), (o, .inr (3, [.int (nI T), .ref ot, .ref ow])), (ot, .inl (ca 0, 20, .inl (nF od))), (h, .inr (7, [.int (nI T), .int (iZ E), .int (iZ C), .ref a, .ref b, .ref c])), (c, .inl (ca 0, 400, .inl (zG G)))] := hD
                refine lv_iinc (v := nI (t + 1)) (lv' := [(5, .int (nI (t + 1))), (6, .int (iZ (G (od pl) t))), (4, .int (iZ ((es G T M (od pl)) + (M (od pl))))), (3, .int (nI (od pl))), (2, .int (nI pl)), (0, .ref d), (1, .ref h)]) hx hb dX1_findEarliest_113 hl (k := 1) rfl (nI_add _ 1) (by decide) rfl (fun ls hl => ?_)
                refine lv_goto (tgt := 67) hx hb dX1_findEarliest_116 (by decide) ?_
                exact ih67 (t + 1) (upZ e3 t (max (e3 t) (((es G T M (od pl)) + (M (od pl))) + (G (od pl) t)))) (by omega) (FE_step hF (by omega) h88) (by omega) _ _ hP hD hS _ (lv_sub hl [0, 2, 3, 4, 5, 6] rfl)
        exact L67 _ 0 e2 (by omega) (FO_FE hO) (Nat.lt_succ_self _) _ _ hP hD hS _ (lv_sub hl [0, 1, 2, 3, 4, 5] rfl)
  exact L15 _ 0 (fun _ => 0) ((0 : Nat) : Int) (by omega) FO_0 rfl (Nat.lt_succ_self _) _ _ hP hD hS _ (lv_sub hl [0, 1, 2] rfl)
def rX1_findLatest : Room := { frames := 2, cells := 0, slots := 0, locals := 43 }
set_option maxHeartbeats 4000000 in
set_option maxRecDepth 100000 in
/-- findLatest(plan) -/
theorem mX1_findLatest (l : Launch) (D : va_G) (ca : Nat → ClassId) (sz : Nat) (d : Nat) (de : Nat) (dl : Nat) (dn : Nat) (o : Nat) (ot : Nat) (ow : Nat) (f : Nat → Int) (sp : Int) (M : Nat → Int) (od : Nat → Nat) (h : Nat) (a : Nat) (b : Nat) (c : Nat) (T : Nat) (E : Int) (C : Int) (G : Nat → Nat → Int) (hT : T ≤ 20) (hG : GOK G) (hac : ACY G T) (htp : TOPO G T od) (hM : LOK T M) (hsp : sp = span G T M) : MM l yX1_findLatest wsX1_findLatest rX1_findLatest D ca [.ref d, .ref h] sz [(d, .inr (1, [.ref de, .ref dl, .int (iZ sp), .ref dn, .ref o])), (dl, .inl (ca 0, 20, .inl (zF f))), (dn, .inl (ca 0, 20, .inl (zF M))), (o, .inr (3, [.int (nI T), .ref ot, .ref ow])), (ot, .inl (ca 0, 20, .inl (nF od))), (h, .inr (7, [.int (nI T), .int (iZ E), .int (iZ C), .ref a, .ref b, .ref c])), (c, .inl (ca 0, 400, .inl (zG G)))] (QV D ca (fun (u : (Nat → Int)) => ∀ j, j < T → u j = lst G T M j) (fun u => [(d, .inr (1, [.ref de, .ref dl, .int (iZ sp), .ref dn, .ref o])), (dl, .inl (ca 0, 20, .inl (zF u))), (dn, .inl (ca 0, 20, .inl (zF M))), (o, .inr (3, [.int (nI T), .ref ot, .ref ow])), (ot, .inl (ca 0, 20, .inl (nF od))), (h, .inr (7, [.int (nI T), .int (iZ E), .int (iZ C), .ref a, .ref b, .ref c])), (c, .inl (ca 0, 400, .inl (zG G)))])) := by
  refine MM_of (cc := cX1_findLatest) (maxL := 7) (ret := none) (lv0 := [(0, .ref d), (1, .ref h)]) RX1 (by decide) rfl rfl (Nat.le_of_ble_eq_true rfl) rfl ?_
  intro pG eV s mI args below meth cO hx hb hr hml hts hown hlocks hnm A hA H locs hsz hP hK hD hS Q hE ls hl
  have f28 := hts (.fieldLink RX1 28 "SlackPlan$Days" "order" "LSlackPlan$Order;") (List.mem_of_getElem? (i := 1) rfl)
  have inX1 : ∀ w ∈ u_ws RX1 TX1 5, w ∈ wsX1_findLatest := in_r _ [23, 24, 25, 26, 27] rfl
  have f77 := hts (.fieldLink RX1 77 "SlackPlan$Order" "size" "I") (List.mem_of_getElem? (i := 2) rfl)
  have inX3 : ∀ w ∈ u_ws RX3 TX3 3, w ∈ wsX1_findLatest := in_r _ [28, 29, 30] rfl
  have f80 := hts (.fieldLink RX1 80 "SlackPlan$Order" "tasks" "[I") (List.mem_of_getElem? (i := 3) rfl)
  have f18 := hts (.fieldLink RX1 18 "SlackPlan$Days" "span" "I") (List.mem_of_getElem? (i := 4) rfl)
  have f49 := hts (.fieldLink RX1 49 "SlackPlan$State" "tasks" "I") (List.mem_of_getElem? (i := 5) rfl)
  have inX7 : ∀ w ∈ u_ws RX7 TX7 6, w ∈ wsX1_findLatest := in_r _ [31, 32, 33, 34, 35, 36] rfl
  have f15 := hts (.fieldLink RX1 15 "SlackPlan$Days" "latest" "[I") (List.mem_of_getElem? (i := 6) rfl)
  have f22 := hts (.fieldLink RX1 22 "SlackPlan$Days" "lengths" "[I") (List.mem_of_getElem? (i := 11) rfl)
  have ml56 := hts (.methodLink RX1 56 Lib.Math.min.name) (List.mem_of_getElem? (i := 7) rfl)
  have stmin := hts (.static Lib.Math.min.name) (List.mem_of_getElem? (i := 8) rfl)
  have iniM := hts (.initialized "java/lang/Math") (List.mem_of_getElem? (i := 9) rfl)
  have cdmin := hts (.code Lib.Math.min.name Lib.Math.min.code 2 (some .int)) (List.mem_of_getElem? (i := 10) rfl)
  refine lv_aload_n hx hb dX1_findLatest_0 rfl (lv_at hl 0 rfl) ?_
  refine va_get (D := D) (ci := 1) (v := .ref o) (C := RX1) (T := TX1) (N := 5) hx hb hts inX1 hown hK hP 0 rfl rfl 4 (by decide) f28 (fun _ h9 => h9) rfl dX1_findLatest_1 ?_
  refine va_get (D := D) (ci := 3) (v := .int (nI T)) (C := RX3) (T := TX3) (N := 3) hx hb hts inX3 hown hK hP 3 rfl rfl 0 (by decide) f77 (fun _ h9 => h9) rfl dX1_findLatest_4 ?_
  refine lv_iconst (v := nI (1)) hx hb dX1_findLatest_7 (by decide) ?_
  refine xr_isub_nn hx hb dX1_findLatest_8 ?_
  refine lv_istore_n (lv' := [(2, .int (iZ (((T : Nat) : Int) - 1))), (0, .ref d), (1, .ref h)]) hx hb dX1_findLatest_9 rfl hl (by decide) rfl (fun ls hl => ?_)
  have L10 : ∀ (fu : Nat) (q : Nat) (f2 : Nat → Int), (q ≤ T) → (FL G T M od q f2) → q < fu → ∀ (H : Heap) (locs : List Loc), va_P D vwCl [(d, .inr (1, [.ref de, .ref dl, .int (iZ sp), .ref dn, .ref o])), (dl, .inl (ca 0, 20, .inl (zF f2))), (dn, .inl (ca 0, 20, .inl (zF M))), (o, .inr (3, [.int (nI T), .ref ot, .ref ow])), (ot, .inl (ca 0, 20, .inl (nF od))), (h, .inr (7, [.int (nI T), .int (iZ E), .int (iZ C), .ref a, .ref b, .ref c])), (c, .inl (ca 0, 400, .inl (zG G)))] H → va_D A [(d, .inr (1, [.ref de, .ref dl, .int (iZ sp), .ref dn, .ref o])), (dl, .inl (ca 0, 20, .inl (zF f2))), (dn, .inl (ca 0, 20, .inl (zF M))), (o, .inr (3, [.int (nI T), .ref ot, .ref ow])), (ot, .inl (ca 0, 20, .inl (nF od))), (h, .inr (7, [.int (nI T), .int (iZ E), .int (iZ C), .ref a, .ref b, .ref c])), (c, .inl (ca 0, 400, .inl (zG G)))] → va_S A s.heap H locs → ∀ ls : Array Slot, lv_has ls 7 [(2, .int (iZ (((q : Nat) : Int) - 1))), (0, .ref d), (1, .ref h)] → W pG l eV rX1_findLatest s mI args below meth cO H locs 0 0 Q (F0 mI 10 ls []) := by
    clear hP hD hS hl
    intro fu; induction fu with
    | zero => intro q f2 hq hL2 hmu; exact absurd hmu (Nat.not_lt_zero _)
    | succ n10 ih10 =>
      intro q f2 hq hL2 hmu10 H locs hP hD hS ls hl
      refine lv_iload_n hx hb dX1_findLatest_10 rfl (lv_at hl 0 rfl) ?_
      refine lv_if_lt (tgt := 101) hx hb dX1_findLatest_11 (by decide) (fun h11 => ?_) (fun h11 => ?_)
      · skip
        have h11 := (cT (iZ_toInt (by omega) (by omega)) z0_toInt).mp h11
        have hq0 : q = 0 := by omega
        rw [hq0] at hL2
        rw [← hE]
        exact xe_v (f2) hx hb hr hlocks hK hP hD hS (FL_all hL2 htp) dX1_findLatest_101
      · skip
        have h11 := (not_congr (cT (iZ_toInt (by omega) (by omega)) z0_toInt)).mp h11
        obtain ⟨k, hk⟩ : ∃ k, q = k + 1 := ⟨q - 1, by omega⟩
        rw [hk] at hL2
        have e9 : iZ (((q : Nat) : Int) - 1) = nI (k) := (by rw [iZ_n]; exact congrArg iZ (by omega))
        have hl : lv_has ls 7 [(2, .int (nI k)), (0, .ref d), (1, .ref h)] := by rw [← e9]; exact hl
        refine lv_aload_n hx hb dX1_findLatest_14 rfl (lv_at hl 1 rfl) ?_
        refine va_get (D := D) (ci := 1) (v := .ref o) (C := RX1) (T := TX1) (N := 5) hx hb hts inX1 hown hK hP 0 rfl rfl 4 (by decide) f28 (fun _ h9 => h9) rfl dX1_findLatest_15 ?_
        refine va_get (D := D) (ci := 3) (v := .ref ot) (C := RX3) (T := TX3) (N := 3) hx hb hts inX3 hown hK hP 3 rfl rfl 1 (by decide) f80 (fun _ h9 => h9) rfl dX1_findLatest_18 ?_
        refine lv_iload_n hx hb dX1_findLatest_21 rfl (lv_at hl 0 rfl) ?_
        refine xr_iald hx hb hK hP 4 0 rfl rfl (by omega) (Nat.le_of_ble_eq_true rfl) (v := nI (od k)) rfl dX1_findLatest_22 ?_
        refine lv_istore_n (lv' := [(3, .int (nI (od k))), (2, .int (nI k)), (0, .ref d), (1, .ref h)]) hx hb dX1_findLatest_23 rfl hl (by decide) rfl (fun ls hl => ?_)
        have ho := htp.1 k (by omega)
        refine lv_aload_n hx hb dX1_findLatest_24 rfl (lv_at hl 2 rfl) ?_
        refine va_get (D := D) (ci := 1) (v := .int (iZ sp)) (C := RX1) (T := TX1) (N := 5) hx hb hts inX1 hown hK hP 0 rfl rfl 2 (by decide) f18 (fun _ h9 => h9) rfl dX1_findLatest_25 ?_
        refine lv_istore (lv' := [(4, .int (iZ sp)), (3, .int (nI (od k))), (2, .int (nI k)), (0, .ref d), (1, .ref h)]) hx hb dX1_findLatest_28 hl (by decide) rfl (fun ls hl => ?_)
        refine lv_iconst (v := nI (0)) hx hb dX1_findLatest_30 (by decide) ?_
        refine lv_istore (lv' := [(5, .int (nI 0)), (4, .int (iZ sp)), (3, .int (nI (od k))), (2, .int (nI k)), (0, .ref d), (1, .ref h)]) hx hb dX1_findLatest_31 hl (by decide) rfl (fun ls hl => ?_)
        have L33 : ∀ (fu : Nat) (t : Nat) (en : Int), (t ≤ T) → (en = enF G T M (od k) t) → (T - t) < fu → ∀ (H : Heap) (locs : List Loc), va_P D vwCl [(d, .inr (1, [.ref de, .ref dl, .int (iZ sp), .ref dn, .ref o])), (dl, .inl (ca 0, 20, .inl (zF f2))), (dn, .inl (ca 0, 20, .inl (zF M))), (o, .inr (3, [.int (nI T), .ref ot, .ref ow])), (ot, .inl (ca 0, 20, .inl (nF od))), (h, .inr (7, [.int (nI T), .int (iZ E), .int (iZ C), .ref a, .ref b, .ref c])), (c, .inl (ca 0, 400, .inl (zG G)))] H → va_D A [(d, .inr (1, [.ref de, .ref dl, .int (iZ sp), .ref dn, .ref o])), (dl, .inl (ca 0, 20, .inl (zF f2))), (dn, .inl (ca 0, 20, .inl (zF M))), (o, .inr (3, [.int (nI T), .ref ot, .ref ow])), (ot, .inl (ca 0, 20, .inl (nF od))), (h, .inr (7, [.int (nI T), .int (iZ E), .int (iZ C), .ref a, .ref b, .ref c])), (c, .inl (ca 0, 400, .inl (zG G)))] → va_S A s.heap H locs → ∀ ls : Array Slot, lv_has ls 7 [(5, .int (nI t)), (4, .int (iZ en)), (3, .int (nI (od k))), (2, .int (nI k)), (0, .ref d), (1, .ref h)] → W pG l eV rX1_findLatest s mI args below meth cO H locs 0 0 Q (F0 mI 33 ls []) := by
          clear hP hD hS hl
          intro fu; induction fu with
          | zero => intro t en ht hen hmu; exact absurd hmu (Nat.not_lt_zero _)
          | succ n33 ih33 =>
            intro t en ht hen hmu33 H locs hP hD hS ls hl
            refine lv_iload hx hb dX1_findLatest_33 (lv_at hl 0 rfl) ?_
            refine lv_aload_n hx hb dX1_findLatest_35 rfl (lv_at hl 5 rfl) ?_
            refine va_get (D := D) (ci := 7) (v := .int (nI T)) (C := RX7) (T := TX7) (N := 6) hx hb hts inX7 hown hK hP 5 rfl rfl 0 (by decide) f49 (fun _ h9 => h9) rfl dX1_findLatest_36 ?_
            refine lv_icmp_ge (tgt := 80) hx hb dX1_findLatest_39 (by decide) (fun h39 => ?_) (fun h39 => ?_)
            · skip
              have h39 := (cL (nI_toInt (by omega)) (nI_toInt (by omega))).mp h39
              refine lv_aload_n hx hb dX1_findLatest_80 rfl (lv_at hl 4 rfl) ?_
              refine va_get (D := D) (ci := 1) (v := .ref dl) (C := RX1) (T := TX1) (N := 5) hx hb hts inX1 hown hK hP 0 rfl rfl 1 (by decide) f15 (fun _ h9 => h9) rfl dX1_findLatest_81 ?_
              refine lv_iload_n hx hb dX1_findLatest_84 rfl (lv_at hl 2 rfl) ?_
              refine lv_iload hx hb dX1_findLatest_85 (lv_at hl 1 rfl) ?_
              refine lv_aload_n hx hb dX1_findLatest_87 rfl (lv_at hl 4 rfl) ?_
              refine va_get (D := D) (ci := 1) (v := .ref dn) (C := RX1) (T := TX1) (N := 5) hx hb hts inX1 hown hK hP 0 rfl rfl 3 (by decide) f22 (fun _ h9 => h9) rfl dX1_findLatest_88 ?_
              refine lv_iload_n hx hb dX1_findLatest_91 rfl (lv_at hl 2 rfl) ?_
              refine xr_iald hx hb hK hP 2 0 rfl rfl (by omega) (Nat.le_of_ble_eq_true rfl) (v := iZ (M (od k))) rfl dX1_findLatest_92 ?_
              refine xr_isub_zz hx hb dX1_findLatest_93 ?_
              refine xr_iast hx hb hK hP hD hS 1 0 rfl rfl (by omega) (Nat.le_of_ble_eq_true rfl) (zF (upZ f2 (od k) (en - (M (od k))))) (fun _ _ => zF_up _ _ _ _) dX1_findLatest_94 (fun H locs hP hD hS => ?_)
              have hP : va_P D vwCl [(d, .inr (1, [.ref de, .ref dl, .int (iZ sp), .ref dn, .ref o])), (dl, .inl (ca 0, 20, .inl (zF (upZ f2 (od k) (en - (M (od k))))))), (dn, .inl (ca 0, 20, .inl (zF M))), (o, .inr (3, [.int (nI T), .ref ot, .ref ow])), (ot, .inl (ca 0, 20, .inl (nF od))), (h, .inr (7, [.int (nI T), .int (iZ E), .int (iZ C), .ref a, .ref b, .ref c])), (c, .inl (ca 0, 400, .inl (zG G)))] H := hP
              have hD : va_D A [(d, .inr (1, [.ref de, .ref dl, .int (iZ sp), .ref dn, .ref o])), (dl, .inl (ca 0, 20, .inl (zF (upZ f2 (od k) (en - (M (od k))))))), (dn, .inl (ca 0, 20, .inl (zF M))), (o, .inr (3, [.int (nI T), .ref ot, .ref ow])), (ot, .inl (ca 0, 20, .inl (nF od))), (h, .inr (7, [.int (nI T), .int (iZ E), .int (iZ C), .ref a, .ref b, .ref c])), (c, .inl (ca 0, 400, .inl (zG G)))] := hD
              refine lv_iinc (v := iZ (((k : Nat) : Int) - 1)) (lv' := [(2, .int (iZ (((k : Nat) : Int) - 1))), (5, .int (nI t)), (4, .int (iZ en)), (3, .int (nI (od k))), (0, .ref d), (1, .ref h)]) hx hb dX1_findLatest_95 hl (k := 3) rfl (nI_dec _) (by decide) rfl (fun ls hl => ?_)
              refine lv_goto (tgt := 10) hx hb dX1_findLatest_98 (by decide) ?_
              exact ih10 k (upZ f2 (od k) (en - (M (od k)))) (by omega) (FL_step hL2 htp (by omega) (by rw [hen, show t = T by omega]; exact enF_T hac ho)) (by omega) _ _ hP hD hS _ (lv_sub hl [0, 4, 5] rfl)
            · skip
              have h39 := (not_congr (cL (nI_toInt (by omega)) (nI_toInt (by omega)))).mp h39
              refine lv_aload_n hx hb dX1_findLatest_42 rfl (lv_at hl 5 rfl) ?_
              refine lv_iload_n hx hb dX1_findLatest_43 rfl (lv_at hl 2 rfl) ?_
              refine lv_iload hx hb dX1_findLatest_44 (lv_at hl 0 rfl) ?_
              refine xk_pi (xk_V (As := [.int (nI (od k)), .int (nI t)]) (rest := []) ⟨hx, hb, hml, hown, hts⟩ (mX7_lag l D ca H.size h a b c T E C G (od k) t (by omega) (by omega) (by omega)) (cwV 2 hts gX1_findLatest_X7_lag rfl rfl rfl (by decide +kernel) ⟨Nat.le_of_ble_eq_true rfl, Nat.le_of_ble_eq_true rfl⟩) hK hP hD (va_recv (q := (RX7, TX7, 6)) hK hP (ci := 7) (q0 := 5) rfl rfl) [5, 6] rfl rfl rfl hl.1 rfl (Nat.le_of_ble_eq_true rfl) dX1_findLatest_46 ⟨Nat.le_of_ble_eq_true rfl, Nat.le_of_ble_eq_true rfl⟩) hP hD hS hA [5, 6] rfl ⟨rfl, rfl⟩ (fun r46 H locs hw46 hP hS => ?_)
              have hw46 : r46 = iZ (G (od k) t) := hw46
              subst hw46
              refine lv_istore (lv' := [(6, .int (iZ (G (od k) t))), (5, .int (nI t)), (4, .int (iZ en)), (3, .int (nI (od k))), (2, .int (nI k)), (0, .ref d), (1, .ref h)]) hx hb dX1_findLatest_49 hl (by decide) rfl (fun ls hl => ?_)
              have hb1 := hG (od k) t (by omega) (by omega)
              refine lv_iload hx hb dX1_findLatest_51 (lv_at hl 0 rfl) ?_
              refine lv_iconst (v := iZ (-1)) hx hb dX1_findLatest_53 (by decide) ?_
              refine lv_icmp_eq (tgt := 74) hx hb dX1_findLatest_54 (by decide) (fun h54 => ?_) (fun h54 => ?_)
              · skip
                have h54 := (cE (iZ_toInt (by omega) (by omega)) (iZ_toInt (by omega) (by omega))).mp h54
                refine lv_iinc (v := nI (t + 1)) (lv' := [(5, .int (nI (t + 1))), (6, .int (iZ (G (od k) t))), (4, .int (iZ en)), (3, .int (nI (od k))), (2, .int (nI k)), (0, .ref d), (1, .ref h)]) hx hb dX1_findLatest_74 hl (k := 1) rfl (nI_add _ 1) (by decide) rfl (fun ls hl => ?_)
                refine lv_goto (tgt := 33) hx hb dX1_findLatest_77 (by decide) ?_
                exact ih33 (t + 1) en (by omega) (by rw [enF_skip h54]; exact hen) (by omega) _ _ hP hD hS _ (lv_sub hl [0, 2, 3, 4, 5, 6] rfl)
              · skip
                have h54 := (not_congr (cE (iZ_toInt (by omega) (by omega)) (iZ_toInt (by omega) (by omega)))).mp h54
                have b1 := enF_rng hT hG hM ho (show t ≤ T by omega)
                have b2 := lst_rng hT hG hM (show t < T by omega)
                refine lv_iload hx hb dX1_findLatest_57 (lv_at hl 2 rfl) ?_
                refine lv_aload_n hx hb dX1_findLatest_59 rfl (lv_at hl 5 rfl) ?_
                refine va_get (D := D) (ci := 1) (v := .ref dl) (C := RX1) (T := TX1) (N := 5) hx hb hts inX1 hown hK hP 0 rfl rfl 1 (by decide) f15 (fun _ h9 => h9) rfl dX1_findLatest_60 ?_
                refine lv_iload hx hb dX1_findLatest_63 (lv_at hl 1 rfl) ?_
                refine xr_iald hx hb hK hP 1 0 rfl rfl (by omega) (Nat.le_of_ble_eq_true rfl) (v := iZ (f2 t)) rfl dX1_findLatest_65 ?_
                refine xr_top (y := iZ (lst G T M t)) (congrArg iZ (FL_at hL2 htp (by omega) (by omega) h54)) ?_
                refine lv_iload hx hb dX1_findLatest_66 (lv_at hl 0 rfl) ?_
                refine xr_isub_zz hx hb dX1_findLatest_68 ?_
                refine va_mmin hx hb (by rw [hml]; exact hl.1.symm) hown ml56 stmin iniM cdmin (Nat.le_of_ble_eq_true rfl) (Nat.le_of_ble_eq_true rfl) (Nat.zero_le _) (Nat.zero_le _) dX1_findLatest_69 ?_
                refine xr_top (y := iZ (min en ((lst G T M t) - (G (od k) t)))) (imin (iZ_toInt (by omega) (by omega)) (iZ_toInt (by omega) (by omega))) ?_
                refine lv_istore (lv' := [(4, .int (iZ (min en ((lst G T M t) - (G (od k) t))))), (6, .int (iZ (G (od k) t))), (5, .int (nI t)), (3, .int (nI (od k))), (2, .int (nI k)), (0, .ref d), (1, .ref h)]) hx hb dX1_findLatest_72 hl (by decide) rfl (fun ls hl => ?_)
                refine lv_iinc (v := nI (t + 1)) (lv' := [(5, .int (nI (t + 1))), (4, .int (iZ (min en ((lst G T M t) - (G (od k) t))))), (6, .int (iZ (G (od k) t))), (3, .int (nI (od k))), (2, .int (nI k)), (0, .ref d), (1, .ref h)]) hx hb dX1_findLatest_74 hl (k := 2) rfl (nI_add _ 1) (by decide) rfl (fun ls hl => ?_)
                refine lv_goto (tgt := 33) hx hb dX1_findLatest_77 (by decide) ?_
                exact ih33 (t + 1) (min en ((lst G T M t) - (G (od k) t))) (by omega) (by rw [enF_step h54, hen]) (by omega) _ _ hP hD hS _ (lv_sub hl [0, 1, 3, 4, 5, 6] rfl)
        exact L33 _ 0 sp (by omega) (by rw [enF_0]; exact hsp) (Nat.lt_succ_self _) _ _ hP hD hS _ (lv_sub hl [0, 1, 2, 3, 4, 5] rfl)
  exact L10 _ T f (by omega) FL_T (Nat.lt_succ_self _) _ _ hP hD hS _ (lv_sub hl [0, 1, 2] rfl)
def rX1_findAll : Room := { frames := 4, cells := 0, slots := 0, locals := 89 }
set_option maxHeartbeats 4000000 in
set_option maxRecDepth 100000 in
/-- findAll(plan) -/
theorem mX1_findAll (l : Launch) (D : va_G) (ca : Nat → ClassId) (sz : Nat) (d : Nat) (de : Nat) (dl : Nat) (dn : Nat) (o : Nat) (ot : Nat) (ow : Nat) (e : Nat → Int) (f : Nat → Int) (sp : Int) (M : Nat → Int) (z : Nat) (od : Nat → Nat) (wt : Nat → Int) (h : Nat) (a : Nat) (b : Nat) (c : Nat) (T : Nat) (E : Int) (C : Int) (G : Nat → Nat → Int) (hT : T ≤ 20) (hG : GOK G) (hac : ACY G T) (hM : LOK T M) : MM l yX1_findAll wsX1_findAll rX1_findAll D ca [.ref d, .ref h] sz [(d, .inr (1, [.ref de, .ref dl, .int (iZ sp), .ref dn, .ref o])), (de, .inl (ca 0, 20, .inl (zF e))), (dl, .inl (ca 0, 20, .inl (zF f))), (dn, .inl (ca 0, 20, .inl (zF M))), (o, .inr (3, [.int (nI z), .ref ot, .ref ow])), (ot, .inl (ca 0, 20, .inl (nF od))), (ow, .inl (ca 0, 20, .inl (zF wt))), (h, .inr (7, [.int (nI T), .int (iZ E), .int (iZ C), .ref a, .ref b, .ref c])), (c, .inl (ca 0, 400, .inl (zG G)))] (QI D ca (fun (r : Int32) (u : (Nat → Int) × (Nat → Int) × Int × (Nat → Nat) × (Nat → Int)) => r = iZ (span G T M) ∧ u.2.2.1 = span G T M ∧ (∀ j, j < T → u.1 j = es G T M j) ∧ (∀ j, j < T → u.2.1 j = lst G T M j) ∧ TOPO G T u.2.2.2.1) (fun u => [(d, .inr (1, [.ref de, .ref dl, .int (iZ u.2.2.1), .ref dn, .ref o])), (de, .inl (ca 0, 20, .inl (zF u.1))), (dl, .inl (ca 0, 20, .inl (zF u.2.1))), (dn, .inl (ca 0, 20, .inl (zF M))), (o, .inr (3, [.int (nI T), .ref ot, .ref ow])), (ot, .inl (ca 0, 20, .inl (nF u.2.2.2.1))), (ow, .inl (ca 0, 20, .inl (zF u.2.2.2.2))), (h, .inr (7, [.int (nI T), .int (iZ E), .int (iZ C), .ref a, .ref b, .ref c])), (c, .inl (ca 0, 400, .inl (zG G)))])) := by
  refine MM_of (cc := cX1_findAll) (maxL := 2) (ret := (some .int)) (lv0 := [(0, .ref d), (1, .ref h)]) RX1 (by decide) rfl rfl (Nat.le_of_ble_eq_true rfl) rfl ?_
  intro pG eV s mI args below meth cO hx hb hr hml hts hown hlocks hnm A hA H locs hsz hP hK hD hS Q hE ls hl
  have f28 := hts (.fieldLink RX1 28 "SlackPlan$Days" "order" "LSlackPlan$Order;") (List.mem_of_getElem? (i := 1) rfl)
  have inX1 : ∀ w ∈ u_ws RX1 TX1 5, w ∈ wsX1_findAll := in_r _ [59, 60, 61, 62, 63] rfl
  have f18 := hts (.fieldLink RX1 18 "SlackPlan$Days" "span" "I") (List.mem_of_getElem? (i := 2) rfl)
  refine lv_aload_n hx hb dX1_findAll_0 rfl (lv_at hl 0 rfl) ?_
  refine va_get (D := D) (ci := 1) (v := .ref o) (C := RX1) (T := TX1) (N := 5) hx hb hts inX1 hown hK hP 0 rfl rfl 4 (by decide) f28 (fun _ h9 => h9) rfl dX1_findAll_1 ?_
  refine lv_aload_n hx hb dX1_findAll_4 rfl (lv_at hl 1 rfl) ?_
  refine xk_v [(d, .inr (1, [.ref de, .ref dl, .int (iZ sp), .ref dn, .ref o])), (de, .inl (ca 0, 20, .inl (zF e))), (dl, .inl (ca 0, 20, .inl (zF f))), (dn, .inl (ca 0, 20, .inl (zF M)))] (fun u => [(d, .inr (1, [.ref de, .ref dl, .int (iZ sp), .ref dn, .ref o])), (de, .inl (ca 0, 20, .inl (zF e))), (dl, .inl (ca 0, 20, .inl (zF f))), (dn, .inl (ca 0, 20, .inl (zF M))), (o, .inr (3, [.int (nI T), .ref ot, .ref ow])), (ot, .inl (ca 0, 20, .inl (nF u.1))), (ow, .inl (ca 0, 20, .inl (zF u.2))), (h, .inr (7, [.int (nI T), .int (iZ E), .int (iZ C), .ref a, .ref b, .ref c])), (c, .inl (ca 0, 400, .inl (zG G)))]) (xk_V (As := [.ref h]) (rest := []) ⟨hx, hb, hml, hown, hts⟩ (mX3_sort l D ca H.size o ot ow z od wt h a b c T E C G (by omega) hG hac) (cwV 1 hts gX1_findAll_X3_sort rfl rfl rfl (by decide +kernel) ⟨Nat.le_of_ble_eq_true rfl, Nat.le_of_ble_eq_true rfl⟩) hK hP hD (va_recv (q := (RX3, TX3, 3)) hK hP (ci := 3) (q0 := 4) rfl rfl) [4, 5, 6, 7, 8] rfl rfl rfl hl.1 rfl (Nat.le_of_ble_eq_true rfl) dX1_findAll_5 ⟨Nat.le_of_ble_eq_true rfl, Nat.le_of_ble_eq_true rfl⟩) hP hD hS hA [4, 5, 6, 7, 8] [0, 1, 2, 3] [0, 1, 2, 3, 4, 5, 6, 7, 8] rfl rfl rfl rfl (fun _ => rfl) rfl (fun u5 H locs hw5 hP hD hS => ?_)
  obtain ⟨od15, wt15⟩ := u5
  have hw5 : TOPO G T od15 := hw5
  have hP : va_P D vwCl [(d, .inr (1, [.ref de, .ref dl, .int (iZ sp), .ref dn, .ref o])), (de, .inl (ca 0, 20, .inl (zF e))), (dl, .inl (ca 0, 20, .inl (zF f))), (dn, .inl (ca 0, 20, .inl (zF M))), (o, .inr (3, [.int (nI T), .ref ot, .ref ow])), (ot, .inl (ca 0, 20, .inl (nF od15))), (ow, .inl (ca 0, 20, .inl (zF wt15))), (h, .inr (7, [.int (nI T), .int (iZ E), .int (iZ C), .ref a, .ref b, .ref c])), (c, .inl (ca 0, 400, .inl (zG G)))] H := hP
  have hD : va_D A [(d, .inr (1, [.ref de, .ref dl, .int (iZ sp), .ref dn, .ref o])), (de, .inl (ca 0, 20, .inl (zF e))), (dl, .inl (ca 0, 20, .inl (zF f))), (dn, .inl (ca 0, 20, .inl (zF M))), (o, .inr (3, [.int (nI T), .ref ot, .ref ow])), (ot, .inl (ca 0, 20, .inl (nF od15))), (ow, .inl (ca 0, 20, .inl (zF wt15))), (h, .inr (7, [.int (nI T), .int (iZ E), .int (iZ C), .ref a, .ref b, .ref c])), (c, .inl (ca 0, 400, .inl (zG G)))] := hD
  refine lv_aload_n hx hb dX1_findAll_8 rfl (lv_at hl 0 rfl) ?_
  refine lv_aload_n hx hb dX1_findAll_9 rfl (lv_at hl 1 rfl) ?_
  refine xk_v [(dl, .inl (ca 0, 20, .inl (zF f))), (ow, .inl (ca 0, 20, .inl (zF wt15)))] (fun u => [(d, .inr (1, [.ref de, .ref dl, .int (iZ u.2), .ref dn, .ref o])), (de, .inl (ca 0, 20, .inl (zF u.1))), (dl, .inl (ca 0, 20, .inl (zF f))), (dn, .inl (ca 0, 20, .inl (zF M))), (o, .inr (3, [.int (nI T), .ref ot, .ref ow])), (ot, .inl (ca 0, 20, .inl (nF od15))), (ow, .inl (ca 0, 20, .inl (zF wt15))), (h, .inr (7, [.int (nI T), .int (iZ E), .int (iZ C), .ref a, .ref b, .ref c])), (c, .inl (ca 0, 400, .inl (zG G)))]) (xk_V (As := [.ref h]) (rest := []) ⟨hx, hb, hml, hown, hts⟩ (mX1_findEarliest l D ca H.size d de dl dn o ot ow e sp M od15 h a b c T E C G (by omega) hG hac hw5 hM) (cwV 1 hts gX1_findAll_X1_findEarliest rfl rfl rfl (by decide +kernel) ⟨Nat.le_of_ble_eq_true rfl, Nat.le_of_ble_eq_true rfl⟩) hK hP hD (va_recv (q := (RX1, TX1, 5)) hK hP (ci := 1) (q0 := 0) rfl rfl) [0, 1, 3, 4, 5, 7, 8] rfl rfl rfl hl.1 rfl (Nat.le_of_ble_eq_true rfl) dX1_findAll_10 ⟨Nat.le_of_ble_eq_true rfl, Nat.le_of_ble_eq_true rfl⟩) hP hD hS hA [0, 1, 3, 4, 5, 7, 8] [2, 6] [2, 3, 0, 4, 5, 6, 1, 7, 8] rfl rfl rfl rfl (fun _ => rfl) rfl (fun u10 H locs hw10 hP hD hS => ?_)
  obtain ⟨e110, sp110⟩ := u10
  have hw10 : (∀ j, j < T → e110 j = es G T M j) ∧ sp110 = span G T M := hw10
  have hP : va_P D vwCl [(d, .inr (1, [.ref de, .ref dl, .int (iZ sp110), .ref dn, .ref o])), (de, .inl (ca 0, 20, .inl (zF e110))), (dl, .inl (ca 0, 20, .inl (zF f))), (dn, .inl (ca 0, 20, .inl (zF M))), (o, .inr (3, [.int (nI T), .ref ot, .ref ow])), (ot, .inl (ca 0, 20, .inl (nF od15))), (ow, .inl (ca 0, 20, .inl (zF wt15))), (h, .inr (7, [.int (nI T), .int (iZ E), .int (iZ C), .ref a, .ref b, .ref c])), (c, .inl (ca 0, 400, .inl (zG G)))] H := hP
  have hD : va_D A [(d, .inr (1, [.ref de, .ref dl, .int (iZ sp110), .ref dn, .ref o])), (de, .inl (ca 0, 20, .inl (zF e110))), (dl, .inl (ca 0, 20, .inl (zF f))), (dn, .inl (ca 0, 20, .inl (zF M))), (o, .inr (3, [.int (nI T), .ref ot, .ref ow])), (ot, .inl (ca 0, 20, .inl (nF od15))), (ow, .inl (ca 0, 20, .inl (zF wt15))), (h, .inr (7, [.int (nI T), .int (iZ E), .int (iZ C), .ref a, .ref b, .ref c])), (c, .inl (ca 0, 400, .inl (zG G)))] := hD
  refine lv_aload_n hx hb dX1_findAll_13 rfl (lv_at hl 0 rfl) ?_
  refine lv_aload_n hx hb dX1_findAll_14 rfl (lv_at hl 1 rfl) ?_
  refine xk_v [(de, .inl (ca 0, 20, .inl (zF e110))), (ow, .inl (ca 0, 20, .inl (zF wt15)))] (fun u => [(d, .inr (1, [.ref de, .ref dl, .int (iZ sp110), .ref dn, .ref o])), (de, .inl (ca 0, 20, .inl (zF e110))), (dl, .inl (ca 0, 20, .inl (zF u))), (dn, .inl (ca 0, 20, .inl (zF M))), (o, .inr (3, [.int (nI T), .ref ot, .ref ow])), (ot, .inl (ca 0, 20, .inl (nF od15))), (ow, .inl (ca 0, 20, .inl (zF wt15))), (h, .inr (7, [.int (nI T), .int (iZ E), .int (iZ C), .ref a, .ref b, .ref c])), (c, .inl (ca 0, 400, .inl (zG G)))]) (xk_V (As := [.ref h]) (rest := []) ⟨hx, hb, hml, hown, hts⟩ (mX1_findLatest l D ca H.size d de dl dn o ot ow f sp110 M od15 h a b c T E C G (by omega) hG hac hw5 hM hw10.2) (cwV 1 hts gX1_findAll_X1_findLatest rfl rfl rfl (by decide +kernel) ⟨Nat.le_of_ble_eq_true rfl, Nat.le_of_ble_eq_true rfl⟩) hK hP hD (va_recv (q := (RX1, TX1, 5)) hK hP (ci := 1) (q0 := 0) rfl rfl) [0, 2, 3, 4, 5, 7, 8] rfl rfl rfl hl.1 rfl (Nat.le_of_ble_eq_true rfl) dX1_findAll_15 ⟨Nat.le_of_ble_eq_true rfl, Nat.le_of_ble_eq_true rfl⟩) hP hD hS hA [0, 2, 3, 4, 5, 7, 8] [1, 6] [2, 0, 3, 4, 5, 6, 1, 7, 8] rfl rfl rfl rfl (fun _ => rfl) rfl (fun u15 H locs hw15 hP hD hS => ?_)
  obtain ⟨f115, hu15⟩ : ∃ z, z = u15 := ⟨_, rfl⟩
  subst hu15
  have hw15 : ∀ j, j < T → f115 j = lst G T M j := hw15
  have hP : va_P D vwCl [(d, .inr (1, [.ref de, .ref dl, .int (iZ sp110), .ref dn, .ref o])), (de, .inl (ca 0, 20, .inl (zF e110))), (dl, .inl (ca 0, 20, .inl (zF f115))), (dn, .inl (ca 0, 20, .inl (zF M))), (o, .inr (3, [.int (nI T), .ref ot, .ref ow])), (ot, .inl (ca 0, 20, .inl (nF od15))), (ow, .inl (ca 0, 20, .inl (zF wt15))), (h, .inr (7, [.int (nI T), .int (iZ E), .int (iZ C), .ref a, .ref b, .ref c])), (c, .inl (ca 0, 400, .inl (zG G)))] H := hP
  have hD : va_D A [(d, .inr (1, [.ref de, .ref dl, .int (iZ sp110), .ref dn, .ref o])), (de, .inl (ca 0, 20, .inl (zF e110))), (dl, .inl (ca 0, 20, .inl (zF f115))), (dn, .inl (ca 0, 20, .inl (zF M))), (o, .inr (3, [.int (nI T), .ref ot, .ref ow])), (ot, .inl (ca 0, 20, .inl (nF od15))), (ow, .inl (ca 0, 20, .inl (zF wt15))), (h, .inr (7, [.int (nI T), .int (iZ E), .int (iZ C), .ref a, .ref b, .ref c])), (c, .inl (ca 0, 400, .inl (zG G)))] := hD
  refine lv_aload_n hx hb dX1_findAll_18 rfl (lv_at hl 0 rfl) ?_
  refine va_get (D := D) (ci := 1) (v := .int (iZ sp110)) (C := RX1) (T := TX1) (N := 5) hx hb hts inX1 hown hK hP 0 rfl rfl 2 (by decide) f18 (fun _ h9 => h9) rfl dX1_findAll_19 ?_
  rw [← hE]
  exact xe_i (e110, f115, sp110, od15, wt15) hx hb hr hlocks hK hP hD hS (⟨by rw [hw10.2], hw10.2, hw10.1, hw15, hw5⟩) dX1_findAll_22
def rX1_find : Room := { frames := 5, cells := 0, slots := 0, locals := 110 }
set_option maxHeartbeats 4000000 in
set_option maxRecDepth 100000 in
/-- find(plan) -/
theorem mX1_find (l : Launch) (D : va_G) (ca : Nat → ClassId) (sz : Nat) (d : Nat) (de : Nat) (dl : Nat) (dn : Nat) (o : Nat) (ot : Nat) (ow : Nat) (e : Nat → Int) (f : Nat → Int) (sp : Int) (M : Nat → Int) (z : Nat) (od : Nat → Nat) (wt : Nat → Int) (h : Nat) (a : Nat) (b : Nat) (c : Nat) (T : Nat) (E : Int) (C : Int) (L : Nat → Int) (G : Nat → Nat → Int) (hT : T ≤ 20) (hG : GOK G) (hac : ACY G T) (hL : LOK T L) : MM l yX1_find wsX1_find rX1_find D ca [.ref d, .ref h] sz [(d, .inr (1, [.ref de, .ref dl, .int (iZ sp), .ref dn, .ref o])), (de, .inl (ca 0, 20, .inl (zF e))), (dl, .inl (ca 0, 20, .inl (zF f))), (dn, .inl (ca 0, 20, .inl (zF M))), (o, .inr (3, [.int (nI z), .ref ot, .ref ow])), (ot, .inl (ca 0, 20, .inl (nF od))), (ow, .inl (ca 0, 20, .inl (zF wt))), (h, .inr (7, [.int (nI T), .int (iZ E), .int (iZ C), .ref a, .ref b, .ref c])), (a, .inl (ca 0, 20, .inl (zF L))), (c, .inl (ca 0, 400, .inl (zG G)))] (QI D ca (fun (r : Int32) (u : (Nat → Int) × (Nat → Int) × Int × (Nat → Nat) × (Nat → Int)) => r = iZ (span G T L) ∧ u.2.2.1 = span G T L ∧ (∀ j, j < T → u.1 j = es G T L j) ∧ (∀ j, j < T → u.2.1 j = lst G T L j) ∧ TOPO G T u.2.2.2.1) (fun u => [(d, .inr (1, [.ref de, .ref dl, .int (iZ u.2.2.1), .ref dn, .ref o])), (de, .inl (ca 0, 20, .inl (zF u.1))), (dl, .inl (ca 0, 20, .inl (zF u.2.1))), (dn, .inl (ca 0, 20, .inl (zF L))), (o, .inr (3, [.int (nI T), .ref ot, .ref ow])), (ot, .inl (ca 0, 20, .inl (nF u.2.2.2.1))), (ow, .inl (ca 0, 20, .inl (zF u.2.2.2.2))), (h, .inr (7, [.int (nI T), .int (iZ E), .int (iZ C), .ref a, .ref b, .ref c])), (a, .inl (ca 0, 20, .inl (zF L))), (c, .inl (ca 0, 400, .inl (zG G)))])) := by
  refine MM_of (cc := cX1_find) (maxL := 2) (ret := (some .int)) (lv0 := [(0, .ref d), (1, .ref h)]) RX1 (by decide) rfl rfl (Nat.le_of_ble_eq_true rfl) rfl ?_
  intro pG eV s mI args below meth cO hx hb hr hml hts hown hlocks hnm A hA H locs hsz hP hK hD hS Q hE ls hl
  have f32 := hts (.fieldLink RX1 32 "SlackPlan$State" "lengths" "[I") (List.mem_of_getElem? (i := 1) rfl)
  have inX7 : ∀ w ∈ u_ws RX7 TX7 6, w ∈ wsX1_find := in_r _ [68, 69, 70, 71, 72, 73] rfl
  have f22 := hts (.fieldLink RX1 22 "SlackPlan$Days" "lengths" "[I") (List.mem_of_getElem? (i := 2) rfl)
  have inX1 : ∀ w ∈ u_ws RX1 TX1 5, w ∈ wsX1_find := in_r _ [74, 75, 76, 77, 78] rfl
  have ml35 := hts (.methodLink RX1 35 arraycopyName) (List.mem_of_getElem? (i := 3) rfl)
  have nat := hts (.native arraycopyName) (List.mem_of_getElem? (i := 4) rfl)
  have stc := hts (.static arraycopyName) (List.mem_of_getElem? (i := 5) rfl)
  have iniS := hts (.initialized "java/lang/System") (List.mem_of_getElem? (i := 6) rfl)
  refine lv_aload_n hx hb dX1_find_0 rfl (lv_at hl 1 rfl) ?_
  refine va_get (D := D) (ci := 7) (v := .ref a) (C := RX7) (T := TX7) (N := 6) hx hb hts inX7 hown hK hP 7 rfl rfl 3 (by decide) f32 (fun _ h9 => h9) rfl dX1_find_1 ?_
  refine lv_iconst (v := nI (0)) hx hb dX1_find_4 (by decide) ?_
  refine lv_aload_n hx hb dX1_find_5 rfl (lv_at hl 0 rfl) ?_
  refine va_get (D := D) (ci := 1) (v := .ref dn) (C := RX1) (T := TX1) (N := 5) hx hb hts inX1 hown hK hP 0 rfl rfl 3 (by decide) f22 (fun _ h9 => h9) rfl dX1_find_6 ?_
  refine lv_iconst (v := nI (0)) hx hb dX1_find_9 (by decide) ?_
  refine lv_bipush (v := nI (20)) hx hb dX1_find_10 (by decide) ?_
  refine xr_copy (zF L) hx hb (by rw [hml]; exact hl.1.symm) hown ml35 nat stc iniS hK hP hD hS 8 3 0 rfl rfl rfl rfl (Nat.le_of_ble_eq_true rfl) (Nat.le_of_ble_eq_true rfl) (Nat.le_of_ble_eq_true rfl) (Nat.le_of_ble_eq_true rfl) (fun _ _ => rfl) dX1_find_12 (fun H locs hP hD hS => ?_)
  have hP : va_P D vwCl [(d, .inr (1, [.ref de, .ref dl, .int (iZ sp), .ref dn, .ref o])), (de, .inl (ca 0, 20, .inl (zF e))), (dl, .inl (ca 0, 20, .inl (zF f))), (dn, .inl (ca 0, 20, .inl (zF L))), (o, .inr (3, [.int (nI z), .ref ot, .ref ow])), (ot, .inl (ca 0, 20, .inl (nF od))), (ow, .inl (ca 0, 20, .inl (zF wt))), (h, .inr (7, [.int (nI T), .int (iZ E), .int (iZ C), .ref a, .ref b, .ref c])), (a, .inl (ca 0, 20, .inl (zF L))), (c, .inl (ca 0, 400, .inl (zG G)))] H := hP
  have hD : va_D A [(d, .inr (1, [.ref de, .ref dl, .int (iZ sp), .ref dn, .ref o])), (de, .inl (ca 0, 20, .inl (zF e))), (dl, .inl (ca 0, 20, .inl (zF f))), (dn, .inl (ca 0, 20, .inl (zF L))), (o, .inr (3, [.int (nI z), .ref ot, .ref ow])), (ot, .inl (ca 0, 20, .inl (nF od))), (ow, .inl (ca 0, 20, .inl (zF wt))), (h, .inr (7, [.int (nI T), .int (iZ E), .int (iZ C), .ref a, .ref b, .ref c])), (a, .inl (ca 0, 20, .inl (zF L))), (c, .inl (ca 0, 400, .inl (zG G)))] := hD
  refine lv_aload_n hx hb dX1_find_15 rfl (lv_at hl 0 rfl) ?_
  refine lv_aload_n hx hb dX1_find_16 rfl (lv_at hl 1 rfl) ?_
  refine xk_i [(a, .inl (ca 0, 20, .inl (zF L)))] (fun u => [(d, .inr (1, [.ref de, .ref dl, .int (iZ u.2.2.1), .ref dn, .ref o])), (de, .inl (ca 0, 20, .inl (zF u.1))), (dl, .inl (ca 0, 20, .inl (zF u.2.1))), (dn, .inl (ca 0, 20, .inl (zF L))), (o, .inr (3, [.int (nI T), .ref ot, .ref ow])), (ot, .inl (ca 0, 20, .inl (nF u.2.2.2.1))), (ow, .inl (ca 0, 20, .inl (zF u.2.2.2.2))), (h, .inr (7, [.int (nI T), .int (iZ E), .int (iZ C), .ref a, .ref b, .ref c])), (a, .inl (ca 0, 20, .inl (zF L))), (c, .inl (ca 0, 400, .inl (zG G)))]) (xk_V (As := [.ref h]) (rest := []) ⟨hx, hb, hml, hown, hts⟩ (mX1_findAll l D ca H.size d de dl dn o ot ow e f sp L z od wt h a b c T E C G (by omega) hG hac hL) (cwV 1 hts gX1_find_X1_findAll rfl rfl rfl (by decide +kernel) ⟨Nat.le_of_ble_eq_true rfl, Nat.le_of_ble_eq_true rfl⟩) hK hP hD (va_recv (q := (RX1, TX1, 5)) hK hP (ci := 1) (q0 := 0) rfl rfl) [0, 1, 2, 3, 4, 5, 6, 7, 9] rfl rfl rfl hl.1 rfl (Nat.le_of_ble_eq_true rfl) dX1_find_17 ⟨Nat.le_of_ble_eq_true rfl, Nat.le_of_ble_eq_true rfl⟩) hP hD hS hA [0, 1, 2, 3, 4, 5, 6, 7, 9] [8] [1, 2, 3, 4, 5, 6, 7, 8, 0, 9] rfl rfl rfl rfl (fun _ => rfl) rfl (fun r17 u17 H locs hw17 hP hD hS => ?_)
  obtain ⟨e117, f117, sp117, od117, wt117⟩ := u17
  have hw17 : r17 = iZ (span G T L) ∧ sp117 = span G T L ∧ (∀ j, j < T → e117 j = es G T L j) ∧ (∀ j, j < T → f117 j = lst G T L j) ∧ TOPO G T od117 := hw17
  have hP : va_P D vwCl [(d, .inr (1, [.ref de, .ref dl, .int (iZ sp117), .ref dn, .ref o])), (de, .inl (ca 0, 20, .inl (zF e117))), (dl, .inl (ca 0, 20, .inl (zF f117))), (dn, .inl (ca 0, 20, .inl (zF L))), (o, .inr (3, [.int (nI T), .ref ot, .ref ow])), (ot, .inl (ca 0, 20, .inl (nF od117))), (ow, .inl (ca 0, 20, .inl (zF wt117))), (h, .inr (7, [.int (nI T), .int (iZ E), .int (iZ C), .ref a, .ref b, .ref c])), (a, .inl (ca 0, 20, .inl (zF L))), (c, .inl (ca 0, 400, .inl (zG G)))] H := hP
  have hD : va_D A [(d, .inr (1, [.ref de, .ref dl, .int (iZ sp117), .ref dn, .ref o])), (de, .inl (ca 0, 20, .inl (zF e117))), (dl, .inl (ca 0, 20, .inl (zF f117))), (dn, .inl (ca 0, 20, .inl (zF L))), (o, .inr (3, [.int (nI T), .ref ot, .ref ow])), (ot, .inl (ca 0, 20, .inl (nF od117))), (ow, .inl (ca 0, 20, .inl (zF wt117))), (h, .inr (7, [.int (nI T), .int (iZ E), .int (iZ C), .ref a, .ref b, .ref c])), (a, .inl (ca 0, 20, .inl (zF L))), (c, .inl (ca 0, 400, .inl (zG G)))] := hD
  obtain ⟨hwr17, hv17⟩ := hw17
  subst hwr17
  rw [← hE]
  exact xe_i (e117, f117, sp117, od117, wt117) hx hb hr hlocks hK hP hD hS (⟨rfl, hv17⟩) dX1_find_20
def rX1_findDelayed : Room := { frames := 5, cells := 0, slots := 0, locals := 110 }
set_option maxHeartbeats 4000000 in
set_option maxRecDepth 100000 in
/-- findDelayed(plan, task, days) -/
theorem mX1_findDelayed (l : Launch) (D : va_G) (ca : Nat → ClassId) (sz : Nat) (d : Nat) (de : Nat) (dl : Nat) (dn : Nat) (o : Nat) (ot : Nat) (ow : Nat) (e : Nat → Int) (f : Nat → Int) (sp : Int) (M : Nat → Int) (z : Nat) (od : Nat → Nat) (wt : Nat → Int) (h : Nat) (a : Nat) (b : Nat) (c : Nat) (T : Nat) (E : Int) (C : Int) (L : Nat → Int) (G : Nat → Nat → Int) (t : Nat) (x : Int) (hT : T ≤ 20) (hG : GOK G) (hac : ACY G T) (hL : LOK T (upZ L t (L t + x))) (ht : t < T) : MM l yX1_findDelayed wsX1_findDelayed rX1_findDelayed D ca [.ref d, .ref h, .int (nI t), .int (iZ x)] sz [(d, .inr (1, [.ref de, .ref dl, .int (iZ sp), .ref dn, .ref o])), (de, .inl (ca 0, 20, .inl (zF e))), (dl, .inl (ca 0, 20, .inl (zF f))), (dn, .inl (ca 0, 20, .inl (zF M))), (o, .inr (3, [.int (nI z), .ref ot, .ref ow])), (ot, .inl (ca 0, 20, .inl (nF od))), (ow, .inl (ca 0, 20, .inl (zF wt))), (h, .inr (7, [.int (nI T), .int (iZ E), .int (iZ C), .ref a, .ref b, .ref c])), (a, .inl (ca 0, 20, .inl (zF L))), (c, .inl (ca 0, 400, .inl (zG G)))] (QI D ca (fun (r : Int32) (u : (Nat → Int) × (Nat → Int) × Int × (Nat → Nat) × (Nat → Int)) => r = iZ (span G T (upZ L t (L t + x))) ∧ u.2.2.1 = span G T (upZ L t (L t + x)) ∧ (∀ j, j < T → u.1 j = es G T (upZ L t (L t + x)) j) ∧ (∀ j, j < T → u.2.1 j = lst G T (upZ L t (L t + x)) j) ∧ TOPO G T u.2.2.2.1) (fun u => [(d, .inr (1, [.ref de, .ref dl, .int (iZ u.2.2.1), .ref dn, .ref o])), (de, .inl (ca 0, 20, .inl (zF u.1))), (dl, .inl (ca 0, 20, .inl (zF u.2.1))), (dn, .inl (ca 0, 20, .inl (zF (upZ L t (L t + x))))), (o, .inr (3, [.int (nI T), .ref ot, .ref ow])), (ot, .inl (ca 0, 20, .inl (nF u.2.2.2.1))), (ow, .inl (ca 0, 20, .inl (zF u.2.2.2.2))), (h, .inr (7, [.int (nI T), .int (iZ E), .int (iZ C), .ref a, .ref b, .ref c])), (a, .inl (ca 0, 20, .inl (zF L))), (c, .inl (ca 0, 400, .inl (zG G)))])) := by
  refine MM_of (cc := cX1_findDelayed) (maxL := 4) (ret := (some .int)) (lv0 := [(0, .ref d), (1, .ref h), (2, .int (nI t)), (3, .int (iZ x))]) RX1 (by decide) rfl rfl (Nat.le_of_ble_eq_true rfl) rfl ?_
  intro pG eV s mI args below meth cO hx hb hr hml hts hown hlocks hnm A hA H locs hsz hP hK hD hS Q hE ls hl
  have f32 := hts (.fieldLink RX1 32 "SlackPlan$State" "lengths" "[I") (List.mem_of_getElem? (i := 1) rfl)
  have inX7 : ∀ w ∈ u_ws RX7 TX7 6, w ∈ wsX1_findDelayed := in_r _ [69, 70, 71, 72, 73, 74] rfl
  have f22 := hts (.fieldLink RX1 22 "SlackPlan$Days" "lengths" "[I") (List.mem_of_getElem? (i := 2) rfl)
  have inX1 : ∀ w ∈ u_ws RX1 TX1 5, w ∈ wsX1_findDelayed := in_r _ [75, 76, 77, 78, 79] rfl
  have ml35 := hts (.methodLink RX1 35 arraycopyName) (List.mem_of_getElem? (i := 3) rfl)
  have nat := hts (.native arraycopyName) (List.mem_of_getElem? (i := 4) rfl)
  have stc := hts (.static arraycopyName) (List.mem_of_getElem? (i := 5) rfl)
  have iniS := hts (.initialized "java/lang/System") (List.mem_of_getElem? (i := 6) rfl)
  refine lv_aload_n hx hb dX1_findDelayed_0 rfl (lv_at hl 1 rfl) ?_
  refine va_get (D := D) (ci := 7) (v := .ref a) (C := RX7) (T := TX7) (N := 6) hx hb hts inX7 hown hK hP 7 rfl rfl 3 (by decide) f32 (fun _ h9 => h9) rfl dX1_findDelayed_1 ?_
  refine lv_iconst (v := nI (0)) hx hb dX1_findDelayed_4 (by decide) ?_
  refine lv_aload_n hx hb dX1_findDelayed_5 rfl (lv_at hl 0 rfl) ?_
  refine va_get (D := D) (ci := 1) (v := .ref dn) (C := RX1) (T := TX1) (N := 5) hx hb hts inX1 hown hK hP 0 rfl rfl 3 (by decide) f22 (fun _ h9 => h9) rfl dX1_findDelayed_6 ?_
  refine lv_iconst (v := nI (0)) hx hb dX1_findDelayed_9 (by decide) ?_
  refine lv_bipush (v := nI (20)) hx hb dX1_findDelayed_10 (by decide) ?_
  refine xr_copy (zF L) hx hb (by rw [hml]; exact hl.1.symm) hown ml35 nat stc iniS hK hP hD hS 8 3 0 rfl rfl rfl rfl (Nat.le_of_ble_eq_true rfl) (Nat.le_of_ble_eq_true rfl) (Nat.le_of_ble_eq_true rfl) (Nat.le_of_ble_eq_true rfl) (fun _ _ => rfl) dX1_findDelayed_12 (fun H locs hP hD hS => ?_)
  have hP : va_P D vwCl [(d, .inr (1, [.ref de, .ref dl, .int (iZ sp), .ref dn, .ref o])), (de, .inl (ca 0, 20, .inl (zF e))), (dl, .inl (ca 0, 20, .inl (zF f))), (dn, .inl (ca 0, 20, .inl (zF L))), (o, .inr (3, [.int (nI z), .ref ot, .ref ow])), (ot, .inl (ca 0, 20, .inl (nF od))), (ow, .inl (ca 0, 20, .inl (zF wt))), (h, .inr (7, [.int (nI T), .int (iZ E), .int (iZ C), .ref a, .ref b, .ref c])), (a, .inl (ca 0, 20, .inl (zF L))), (c, .inl (ca 0, 400, .inl (zG G)))] H := hP
  have hD : va_D A [(d, .inr (1, [.ref de, .ref dl, .int (iZ sp), .ref dn, .ref o])), (de, .inl (ca 0, 20, .inl (zF e))), (dl, .inl (ca 0, 20, .inl (zF f))), (dn, .inl (ca 0, 20, .inl (zF L))), (o, .inr (3, [.int (nI z), .ref ot, .ref ow])), (ot, .inl (ca 0, 20, .inl (nF od))), (ow, .inl (ca 0, 20, .inl (zF wt))), (h, .inr (7, [.int (nI T), .int (iZ E), .int (iZ C), .ref a, .ref b, .ref c])), (a, .inl (ca 0, 20, .inl (zF L))), (c, .inl (ca 0, 400, .inl (zG G)))] := hD
  refine lv_aload_n hx hb dX1_findDelayed_15 rfl (lv_at hl 1 rfl) ?_
  refine lv_iload_n hx hb dX1_findDelayed_16 rfl (lv_at hl 2 rfl) ?_
  refine xk_pi (xk_V (As := [.int (nI t)]) (rest := []) ⟨hx, hb, hml, hown, hts⟩ (mX7_has l D ca H.size h a b c T E C (nI (t)) (by omega)) (cwV 1 hts gX1_findDelayed_X7_has rfl rfl rfl (by decide +kernel) ⟨Nat.le_of_ble_eq_true rfl, Nat.le_of_ble_eq_true rfl⟩) hK hP hD (va_recv (q := (RX7, TX7, 6)) hK hP (ci := 7) (q0 := 7) rfl rfl) [7] rfl rfl rfl hl.1 rfl (Nat.le_of_ble_eq_true rfl) dX1_findDelayed_17 ⟨Nat.le_of_ble_eq_true rfl, Nat.le_of_ble_eq_true rfl⟩) hP hD hS hA [7] rfl ⟨rfl, rfl⟩ (fun r17 H locs hw17 hP hS => ?_)
  have hw17 : r17 = bI (hasB T (nI (t))) := hw17
  subst hw17
  refine lv_if_eq (tgt := 33) hx hb dX1_findDelayed_20 (by decide) (fun h20 => ?_) (fun h20 => ?_)
  · skip
    have h20 := bI_0.mp h20
    exact absurd (h20.symm.trans (hasB_t ht hT)) (by decide)
  · skip
    have h20 := bI_n0.mp h20
    refine lv_aload_n hx hb dX1_findDelayed_23 rfl (lv_at hl 0 rfl) ?_
    refine va_get (D := D) (ci := 1) (v := .ref dn) (C := RX1) (T := TX1) (N := 5) hx hb hts inX1 hown hK hP 0 rfl rfl 3 (by decide) f22 (fun _ h9 => h9) rfl dX1_findDelayed_24 ?_
    refine lv_iload_n hx hb dX1_findDelayed_27 rfl (lv_at hl 2 rfl) ?_
    refine lv_dup2_11 hx hb dX1_findDelayed_28 rfl rfl ?_
    refine xr_iald hx hb hK hP 3 0 rfl rfl (by omega) (Nat.le_of_ble_eq_true rfl) (v := iZ (L t)) rfl dX1_findDelayed_29 ?_
    refine lv_iload_n hx hb dX1_findDelayed_30 rfl (lv_at hl 3 rfl) ?_
    refine xr_iadd_zz hx hb dX1_findDelayed_31 ?_
    refine xr_iast hx hb hK hP hD hS 3 0 rfl rfl (by omega) (Nat.le_of_ble_eq_true rfl) (zF (upZ L t ((L t) + x))) (fun _ _ => zF_up _ _ _ _) dX1_findDelayed_32 (fun H locs hP hD hS => ?_)
    have hP : va_P D vwCl [(d, .inr (1, [.ref de, .ref dl, .int (iZ sp), .ref dn, .ref o])), (de, .inl (ca 0, 20, .inl (zF e))), (dl, .inl (ca 0, 20, .inl (zF f))), (dn, .inl (ca 0, 20, .inl (zF (upZ L t ((L t) + x))))), (o, .inr (3, [.int (nI z), .ref ot, .ref ow])), (ot, .inl (ca 0, 20, .inl (nF od))), (ow, .inl (ca 0, 20, .inl (zF wt))), (h, .inr (7, [.int (nI T), .int (iZ E), .int (iZ C), .ref a, .ref b, .ref c])), (a, .inl (ca 0, 20, .inl (zF L))), (c, .inl (ca 0, 400, .inl (zG G)))] H := hP
    have hD : va_D A [(d, .inr (1, [.ref de, .ref dl, .int (iZ sp), .ref dn, .ref o])), (de, .inl (ca 0, 20, .inl (zF e))), (dl, .inl (ca 0, 20, .inl (zF f))), (dn, .inl (ca 0, 20, .inl (zF (upZ L t ((L t) + x))))), (o, .inr (3, [.int (nI z), .ref ot, .ref ow])), (ot, .inl (ca 0, 20, .inl (nF od))), (ow, .inl (ca 0, 20, .inl (zF wt))), (h, .inr (7, [.int (nI T), .int (iZ E), .int (iZ C), .ref a, .ref b, .ref c])), (a, .inl (ca 0, 20, .inl (zF L))), (c, .inl (ca 0, 400, .inl (zG G)))] := hD
    refine lv_aload_n hx hb dX1_findDelayed_33 rfl (lv_at hl 0 rfl) ?_
    refine lv_aload_n hx hb dX1_findDelayed_34 rfl (lv_at hl 1 rfl) ?_
    refine xk_i [(a, .inl (ca 0, 20, .inl (zF L)))] (fun u => [(d, .inr (1, [.ref de, .ref dl, .int (iZ u.2.2.1), .ref dn, .ref o])), (de, .inl (ca 0, 20, .inl (zF u.1))), (dl, .inl (ca 0, 20, .inl (zF u.2.1))), (dn, .inl (ca 0, 20, .inl (zF (upZ L t ((L t) + x))))), (o, .inr (3, [.int (nI T), .ref ot, .ref ow])), (ot, .inl (ca 0, 20, .inl (nF u.2.2.2.1))), (ow, .inl (ca 0, 20, .inl (zF u.2.2.2.2))), (h, .inr (7, [.int (nI T), .int (iZ E), .int (iZ C), .ref a, .ref b, .ref c])), (a, .inl (ca 0, 20, .inl (zF L))), (c, .inl (ca 0, 400, .inl (zG G)))]) (xk_V (As := [.ref h]) (rest := []) ⟨hx, hb, hml, hown, hts⟩ (mX1_findAll l D ca H.size d de dl dn o ot ow e f sp (upZ L t ((L t) + x)) z od wt h a b c T E C G (by omega) hG hac hL) (cwV 1 hts gX1_findDelayed_X1_findAll rfl rfl rfl (by decide +kernel) ⟨Nat.le_of_ble_eq_true rfl, Nat.le_of_ble_eq_true rfl⟩) hK hP hD (va_recv (q := (RX1, TX1, 5)) hK hP (ci := 1) (q0 := 0) rfl rfl) [0, 1, 2, 3, 4, 5, 6, 7, 9] rfl rfl rfl hl.1 rfl (Nat.le_of_ble_eq_true rfl) dX1_findDelayed_35 ⟨Nat.le_of_ble_eq_true rfl, Nat.le_of_ble_eq_true rfl⟩) hP hD hS hA [0, 1, 2, 3, 4, 5, 6, 7, 9] [8] [1, 2, 3, 4, 5, 6, 7, 8, 0, 9] rfl rfl rfl rfl (fun _ => rfl) rfl (fun r35 u35 H locs hw35 hP hD hS => ?_)
    obtain ⟨e135, f135, sp135, od135, wt135⟩ := u35
    have hw35 : r35 = iZ (span G T (upZ L t ((L t) + x))) ∧ sp135 = span G T (upZ L t ((L t) + x)) ∧ (∀ j, j < T → e135 j = es G T (upZ L t ((L t) + x)) j) ∧ (∀ j, j < T → f135 j = lst G T (upZ L t ((L t) + x)) j) ∧ TOPO G T od135 := hw35
    have hP : va_P D vwCl [(d, .inr (1, [.ref de, .ref dl, .int (iZ sp135), .ref dn, .ref o])), (de, .inl (ca 0, 20, .inl (zF e135))), (dl, .inl (ca 0, 20, .inl (zF f135))), (dn, .inl (ca 0, 20, .inl (zF (upZ L t ((L t) + x))))), (o, .inr (3, [.int (nI T), .ref ot, .ref ow])), (ot, .inl (ca 0, 20, .inl (nF od135))), (ow, .inl (ca 0, 20, .inl (zF wt135))), (h, .inr (7, [.int (nI T), .int (iZ E), .int (iZ C), .ref a, .ref b, .ref c])), (a, .inl (ca 0, 20, .inl (zF L))), (c, .inl (ca 0, 400, .inl (zG G)))] H := hP
    have hD : va_D A [(d, .inr (1, [.ref de, .ref dl, .int (iZ sp135), .ref dn, .ref o])), (de, .inl (ca 0, 20, .inl (zF e135))), (dl, .inl (ca 0, 20, .inl (zF f135))), (dn, .inl (ca 0, 20, .inl (zF (upZ L t ((L t) + x))))), (o, .inr (3, [.int (nI T), .ref ot, .ref ow])), (ot, .inl (ca 0, 20, .inl (nF od135))), (ow, .inl (ca 0, 20, .inl (zF wt135))), (h, .inr (7, [.int (nI T), .int (iZ E), .int (iZ C), .ref a, .ref b, .ref c])), (a, .inl (ca 0, 20, .inl (zF L))), (c, .inl (ca 0, 400, .inl (zG G)))] := hD
    obtain ⟨hwr35, hv35⟩ := hw35
    subst hwr35
    rw [← hE]
    exact xe_i (e135, f135, sp135, od135, wt135) hx hb hr hlocks hK hP hD hS (⟨rfl, hv35⟩) dX1_findDelayed_38
def rX1_slackAt : Room := { frames := 0, cells := 0, slots := 0, locals := 0 }
set_option maxHeartbeats 4000000 in
set_option maxRecDepth 100000 in
/-- slackAt(task) -/
theorem mX1_slackAt (l : Launch) (D : va_G) (ca : Nat → ClassId) (sz : Nat) (d : Nat) (de : Nat) (dl : Nat) (dn : Nat) (o : Nat) (ot : Nat) (ow : Nat) (e : Nat → Int) (f : Nat → Int) (sp : Int) (t : Nat) (ht : t < 20) : MM l yX1_slackAt wsX1_slackAt rX1_slackAt D ca [.ref d, .int (nI t)] sz [(d, .inr (1, [.ref de, .ref dl, .int (iZ sp), .ref dn, .ref o])), (de, .inl (ca 0, 20, .inl (zF e))), (dl, .inl (ca 0, 20, .inl (zF f)))] (QI D ca (fun (r : Int32) (u : Unit) => r = iZ (f t - e t)) (fun _ => [(d, .inr (1, [.ref de, .ref dl, .int (iZ sp), .ref dn, .ref o])), (de, .inl (ca 0, 20, .inl (zF e))), (dl, .inl (ca 0, 20, .inl (zF f)))])) := by
  refine MM_of (cc := cX1_slackAt) (maxL := 2) (ret := (some .int)) (lv0 := [(0, .ref d), (1, .int (nI t))]) RX1 (by decide) rfl rfl (Nat.le_of_ble_eq_true rfl) rfl ?_
  intro pG eV s mI args below meth cO hx hb hr hml hts hown hlocks hnm A hA H locs hsz hP hK hD hS Q hE ls hl
  have f15 := hts (.fieldLink RX1 15 "SlackPlan$Days" "latest" "[I") (List.mem_of_getElem? (i := 1) rfl)
  have inX1 : ∀ w ∈ u_ws RX1 TX1 5, w ∈ wsX1_slackAt := in_r _ [3, 4, 5, 6, 7] rfl
  have f9 := hts (.fieldLink RX1 9 "SlackPlan$Days" "earliest" "[I") (List.mem_of_getElem? (i := 2) rfl)
  refine lv_iload_n hx hb dX1_slackAt_0 rfl (lv_at hl 1 rfl) ?_
  refine lv_if_lt (tgt := 26) hx hb dX1_slackAt_1 (by decide) (fun h1 => ?_) (fun h1 => ?_)
  · skip
    have h1 := (cT (nI_toInt (by omega)) z0_toInt).mp h1
    exact absurd h1 (by omega)
  · skip
    have h1 := (not_congr (cT (nI_toInt (by omega)) z0_toInt)).mp h1
    refine lv_iload_n hx hb dX1_slackAt_4 rfl (lv_at hl 1 rfl) ?_
    refine lv_bipush (v := nI (20)) hx hb dX1_slackAt_5 (by decide) ?_
    refine lv_icmp_ge (tgt := 26) hx hb dX1_slackAt_7 (by decide) (fun h7 => ?_) (fun h7 => ?_)
    · skip
      have h7 := (cL (nI_toInt (by omega)) (nI_toInt (by omega))).mp h7
      exact absurd h7 (by omega)
    · skip
      have h7 := (not_congr (cL (nI_toInt (by omega)) (nI_toInt (by omega)))).mp h7
      refine lv_aload_n hx hb dX1_slackAt_10 rfl (lv_at hl 0 rfl) ?_
      refine va_get (D := D) (ci := 1) (v := .ref dl) (C := RX1) (T := TX1) (N := 5) hx hb hts inX1 hown hK hP 0 rfl rfl 1 (by decide) f15 (fun _ h9 => h9) rfl dX1_slackAt_11 ?_
      refine lv_iload_n hx hb dX1_slackAt_14 rfl (lv_at hl 1 rfl) ?_
      refine xr_iald hx hb hK hP 2 0 rfl rfl (by omega) (Nat.le_of_ble_eq_true rfl) (v := iZ (f t)) rfl dX1_slackAt_15 ?_
      refine lv_aload_n hx hb dX1_slackAt_16 rfl (lv_at hl 0 rfl) ?_
      refine va_get (D := D) (ci := 1) (v := .ref de) (C := RX1) (T := TX1) (N := 5) hx hb hts inX1 hown hK hP 0 rfl rfl 0 (by decide) f9 (fun _ h9 => h9) rfl dX1_slackAt_17 ?_
      refine lv_iload_n hx hb dX1_slackAt_20 rfl (lv_at hl 1 rfl) ?_
      refine xr_iald hx hb hK hP 1 0 rfl rfl (by omega) (Nat.le_of_ble_eq_true rfl) (v := iZ (e t)) rfl dX1_slackAt_21 ?_
      refine xr_isub_zz hx hb dX1_slackAt_22 ?_
      refine lv_goto (tgt := 27) hx hb dX1_slackAt_23 (by decide) ?_
      rw [← hE]
      exact xe_i () hx hb hr hlocks hK hP hD hS rfl dX1_slackAt_27
def rX1_freeSlackAt : Room := { frames := 2, cells := 0, slots := 0, locals := 43 }
set_option maxHeartbeats 4000000 in
set_option maxRecDepth 100000 in
/-- freeSlackAt(plan, task) -/
theorem mX1_freeSlackAt (l : Launch) (D : va_G) (ca : Nat → ClassId) (sz : Nat) (d : Nat) (de : Nat) (dl : Nat) (dn : Nat) (o : Nat) (ot : Nat) (ow : Nat) (e : Nat → Int) (sp : Int) (M : Nat → Int) (h : Nat) (a : Nat) (b : Nat) (c : Nat) (T : Nat) (E : Int) (C : Int) (G : Nat → Nat → Int) (q : Nat) (hT : T ≤ 20) (hG : GOK G) (hM : LOK T M) (hq : q < T) (he : ∀ j, j < T → e j = es G T M j) (hsp : sp = span G T M) : MM l yX1_freeSlackAt wsX1_freeSlackAt rX1_freeSlackAt D ca [.ref d, .ref h, .int (nI q)] sz [(d, .inr (1, [.ref de, .ref dl, .int (iZ sp), .ref dn, .ref o])), (de, .inl (ca 0, 20, .inl (zF e))), (dn, .inl (ca 0, 20, .inl (zF M))), (h, .inr (7, [.int (nI T), .int (iZ E), .int (iZ C), .ref a, .ref b, .ref c])), (c, .inl (ca 0, 400, .inl (zG G)))] (QI D ca (fun (r : Int32) (u : Unit) => r = iZ (frF G T M q T)) (fun _ => [(d, .inr (1, [.ref de, .ref dl, .int (iZ sp), .ref dn, .ref o])), (de, .inl (ca 0, 20, .inl (zF e))), (dn, .inl (ca 0, 20, .inl (zF M))), (h, .inr (7, [.int (nI T), .int (iZ E), .int (iZ C), .ref a, .ref b, .ref c])), (c, .inl (ca 0, 400, .inl (zG G)))])) := by
  refine MM_of (cc := cX1_freeSlackAt) (maxL := 7) (ret := (some .int)) (lv0 := [(0, .ref d), (1, .ref h), (2, .int (nI q))]) RX1 (by decide) rfl rfl (Nat.le_of_ble_eq_true rfl) rfl ?_
  intro pG eV s mI args below meth cO hx hb hr hml hts hown hlocks hnm A hA H locs hsz hP hK hD hS Q hE ls hl
  have f9 := hts (.fieldLink RX1 9 "SlackPlan$Days" "earliest" "[I") (List.mem_of_getElem? (i := 1) rfl)
  have inX1 : ∀ w ∈ u_ws RX1 TX1 5, w ∈ wsX1_freeSlackAt := in_r _ [21, 22, 23, 24, 25] rfl
  have f22 := hts (.fieldLink RX1 22 "SlackPlan$Days" "lengths" "[I") (List.mem_of_getElem? (i := 2) rfl)
  have f18 := hts (.fieldLink RX1 18 "SlackPlan$Days" "span" "I") (List.mem_of_getElem? (i := 3) rfl)
  have f49 := hts (.fieldLink RX1 49 "SlackPlan$State" "tasks" "I") (List.mem_of_getElem? (i := 4) rfl)
  have inX7 : ∀ w ∈ u_ws RX7 TX7 6, w ∈ wsX1_freeSlackAt := in_r _ [26, 27, 28, 29, 30, 31] rfl
  have ml56 := hts (.methodLink RX1 56 Lib.Math.min.name) (List.mem_of_getElem? (i := 5) rfl)
  have stmin := hts (.static Lib.Math.min.name) (List.mem_of_getElem? (i := 6) rfl)
  have iniM := hts (.initialized "java/lang/Math") (List.mem_of_getElem? (i := 7) rfl)
  have cdmin := hts (.code Lib.Math.min.name Lib.Math.min.code 2 (some .int)) (List.mem_of_getElem? (i := 8) rfl)
  refine lv_aload_n hx hb dX1_freeSlackAt_0 rfl (lv_at hl 1 rfl) ?_
  refine lv_iload_n hx hb dX1_freeSlackAt_1 rfl (lv_at hl 2 rfl) ?_
  refine xk_pi (xk_V (As := [.int (nI q)]) (rest := []) ⟨hx, hb, hml, hown, hts⟩ (mX7_has l D ca H.size h a b c T E C (nI (q)) (by omega)) (cwV 1 hts gX1_freeSlackAt_X7_has rfl rfl rfl (by decide +kernel) ⟨Nat.le_of_ble_eq_true rfl, Nat.le_of_ble_eq_true rfl⟩) hK hP hD (va_recv (q := (RX7, TX7, 6)) hK hP (ci := 7) (q0 := 3) rfl rfl) [3] rfl rfl rfl hl.1 rfl (Nat.le_of_ble_eq_true rfl) dX1_freeSlackAt_2 ⟨Nat.le_of_ble_eq_true rfl, Nat.le_of_ble_eq_true rfl⟩) hP hD hS hA [3] rfl ⟨rfl, rfl⟩ (fun r2 H locs hw2 hP hS => ?_)
  have hw2 : r2 = bI (hasB T (nI (q))) := hw2
  subst hw2
  refine lv_if_ne (tgt := 10) hx hb dX1_freeSlackAt_5 (by decide) (fun h5 => ?_) (fun h5 => ?_)
  · skip
    have h5 := bI_n0.mp h5
    refine lv_aload_n hx hb dX1_freeSlackAt_10 rfl (lv_at hl 0 rfl) ?_
    refine va_get (D := D) (ci := 1) (v := .ref de) (C := RX1) (T := TX1) (N := 5) hx hb hts inX1 hown hK hP 0 rfl rfl 0 (by decide) f9 (fun _ h9 => h9) rfl dX1_freeSlackAt_11 ?_
    refine lv_iload_n hx hb dX1_freeSlackAt_14 rfl (lv_at hl 2 rfl) ?_
    refine xr_iald hx hb hK hP 1 0 rfl rfl (by omega) (Nat.le_of_ble_eq_true rfl) (v := iZ (e q)) rfl dX1_freeSlackAt_15 ?_
    refine xr_top (y := iZ (es G T M q)) (congrArg iZ (he q hq)) ?_
    refine lv_aload_n hx hb dX1_freeSlackAt_16 rfl (lv_at hl 0 rfl) ?_
    refine va_get (D := D) (ci := 1) (v := .ref dn) (C := RX1) (T := TX1) (N := 5) hx hb hts inX1 hown hK hP 0 rfl rfl 3 (by decide) f22 (fun _ h9 => h9) rfl dX1_freeSlackAt_17 ?_
    refine lv_iload_n hx hb dX1_freeSlackAt_20 rfl (lv_at hl 2 rfl) ?_
    refine xr_iald hx hb hK hP 2 0 rfl rfl (by omega) (Nat.le_of_ble_eq_true rfl) (v := iZ (M q)) rfl dX1_freeSlackAt_21 ?_
    refine xr_iadd_zz hx hb dX1_freeSlackAt_22 ?_
    refine lv_istore_n (lv' := [(3, .int (iZ ((es G T M q) + (M q)))), (0, .ref d), (1, .ref h), (2, .int (nI q))]) hx hb dX1_freeSlackAt_23 rfl hl (by decide) rfl (fun ls hl => ?_)
    refine lv_aload_n hx hb dX1_freeSlackAt_24 rfl (lv_at hl 1 rfl) ?_
    refine va_get (D := D) (ci := 1) (v := .int (iZ sp)) (C := RX1) (T := TX1) (N := 5) hx hb hts inX1 hown hK hP 0 rfl rfl 2 (by decide) f18 (fun _ h9 => h9) rfl dX1_freeSlackAt_25 ?_
    refine lv_iload_n hx hb dX1_freeSlackAt_28 rfl (lv_at hl 0 rfl) ?_
    refine xr_isub_zz hx hb dX1_freeSlackAt_29 ?_
    refine lv_istore (lv' := [(4, .int (iZ (sp - ((es G T M q) + (M q))))), (3, .int (iZ ((es G T M q) + (M q)))), (0, .ref d), (1, .ref h), (2, .int (nI q))]) hx hb dX1_freeSlackAt_30 hl (by decide) rfl (fun ls hl => ?_)
    refine lv_iconst (v := nI (0)) hx hb dX1_freeSlackAt_32 (by decide) ?_
    refine lv_istore (lv' := [(5, .int (nI 0)), (4, .int (iZ (sp - ((es G T M q) + (M q))))), (3, .int (iZ ((es G T M q) + (M q)))), (0, .ref d), (1, .ref h), (2, .int (nI q))]) hx hb dX1_freeSlackAt_33 hl (by decide) rfl (fun ls hl => ?_)
    have L35 : ∀ (fu : Nat) (t : Nat) (fr : Int), (t ≤ T) → (fr = frF G T M q t) → (T - t) < fu → ∀ (H : Heap) (locs : List Loc), va_P D vwCl [(d, .inr (1, [.ref de, .ref dl, .int (iZ sp), .ref dn, .ref o])), (de, .inl (ca 0, 20, .inl (zF e))), (dn, .inl (ca 0, 20, .inl (zF M))), (h, .inr (7, [.int (nI T), .int (iZ E), .int (iZ C), .ref a, .ref b, .ref c])), (c, .inl (ca 0, 400, .inl (zG G)))] H → va_D A [(d, .inr (1, [.ref de, .ref dl, .int (iZ sp), .ref dn, .ref o])), (de, .inl (ca 0, 20, .inl (zF e))), (dn, .inl (ca 0, 20, .inl (zF M))), (h, .inr (7, [.int (nI T), .int (iZ E), .int (iZ C), .ref a, .ref b, .ref c])), (c, .inl (ca 0, 400, .inl (zG G)))] → va_S A s.heap H locs → ∀ ls : Array Slot, lv_has ls 7 [(5, .int (nI t)), (4, .int (iZ fr)), (3, .int (iZ ((es G T M q) + (M q)))), (0, .ref d), (1, .ref h), (2, .int (nI q))] → W pG l eV rX1_freeSlackAt s mI args below meth cO H locs 0 0 Q (F0 mI 35 ls []) := by
      clear hP hD hS hl
      intro fu; induction fu with
      | zero => intro t fr ht hfr hmu; exact absurd hmu (Nat.not_lt_zero _)
      | succ n35 ih35 =>
        intro t fr ht hfr hmu35 H locs hP hD hS ls hl
        refine lv_iload hx hb dX1_freeSlackAt_35 (lv_at hl 0 rfl) ?_
        refine lv_aload_n hx hb dX1_freeSlackAt_37 rfl (lv_at hl 4 rfl) ?_
        refine va_get (D := D) (ci := 7) (v := .int (nI T)) (C := RX7) (T := TX7) (N := 6) hx hb hts inX7 hown hK hP 3 rfl rfl 0 (by decide) f49 (fun _ h9 => h9) rfl dX1_freeSlackAt_38 ?_
        refine lv_icmp_ge (tgt := 84) hx hb dX1_freeSlackAt_41 (by decide) (fun h41 => ?_) (fun h41 => ?_)
        · skip
          have h41 := (cL (nI_toInt (by omega)) (nI_toInt (by omega))).mp h41
          refine lv_iload hx hb dX1_freeSlackAt_84 (lv_at hl 1 rfl) ?_
          rw [← hE]
          exact xe_i () hx hb hr hlocks hK hP hD hS (by rw [hfr, show t = T by omega]) dX1_freeSlackAt_86
        · skip
          have h41 := (not_congr (cL (nI_toInt (by omega)) (nI_toInt (by omega)))).mp h41
          refine lv_aload_n hx hb dX1_freeSlackAt_44 rfl (lv_at hl 4 rfl) ?_
          refine lv_iload_n hx hb dX1_freeSlackAt_45 rfl (lv_at hl 5 rfl) ?_
          refine lv_iload hx hb dX1_freeSlackAt_46 (lv_at hl 0 rfl) ?_
          refine xk_pi (xk_V (As := [.int (nI q), .int (nI t)]) (rest := []) ⟨hx, hb, hml, hown, hts⟩ (mX7_lag l D ca H.size h a b c T E C G q t (by omega) (by omega) (by omega)) (cwV 2 hts gX1_freeSlackAt_X7_lag rfl rfl rfl (by decide +kernel) ⟨Nat.le_of_ble_eq_true rfl, Nat.le_of_ble_eq_true rfl⟩) hK hP hD (va_recv (q := (RX7, TX7, 6)) hK hP (ci := 7) (q0 := 3) rfl rfl) [3, 4] rfl rfl rfl hl.1 rfl (Nat.le_of_ble_eq_true rfl) dX1_freeSlackAt_48 ⟨Nat.le_of_ble_eq_true rfl, Nat.le_of_ble_eq_true rfl⟩) hP hD hS hA [3, 4] rfl ⟨rfl, rfl⟩ (fun r48 H locs hw48 hP hS => ?_)
          have hw48 : r48 = iZ (G q t) := hw48
          subst hw48
          refine lv_istore (lv' := [(6, .int (iZ (G q t))), (5, .int (nI t)), (4, .int (iZ fr)), (3, .int (iZ ((es G T M q) + (M q)))), (0, .ref d), (1, .ref h), (2, .int (nI q))]) hx hb dX1_freeSlackAt_51 hl (by decide) rfl (fun ls hl => ?_)
          have hb1 := hG q t (by omega) (by omega)
          refine lv_iload hx hb dX1_freeSlackAt_53 (lv_at hl 0 rfl) ?_
          refine lv_iconst (v := iZ (-1)) hx hb dX1_freeSlackAt_55 (by decide) ?_
          refine lv_icmp_eq (tgt := 78) hx hb dX1_freeSlackAt_56 (by decide) (fun h56 => ?_) (fun h56 => ?_)
          · skip
            have h56 := (cE (iZ_toInt (by omega) (by omega)) (iZ_toInt (by omega) (by omega))).mp h56
            refine lv_iinc (v := nI (t + 1)) (lv' := [(5, .int (nI (t + 1))), (6, .int (iZ (G q t))), (4, .int (iZ fr)), (3, .int (iZ ((es G T M q) + (M q)))), (0, .ref d), (1, .ref h), (2, .int (nI q))]) hx hb dX1_freeSlackAt_78 hl (k := 1) rfl (nI_add _ 1) (by decide) rfl (fun ls hl => ?_)
            refine lv_goto (tgt := 35) hx hb dX1_freeSlackAt_81 (by decide) ?_
            exact ih35 (t + 1) fr (by omega) (by rw [frF, if_pos h56]; exact hfr) (by omega) _ _ hP hD hS _ (lv_sub hl [0, 2, 3, 4, 5, 6] rfl)
          · skip
            have h56 := (not_congr (cE (iZ_toInt (by omega) (by omega)) (iZ_toInt (by omega) (by omega)))).mp h56
            have b1 := frF_rng hT hG hM hq t (by omega)
            have b2 := es_le hT hG hM hq
            have b3 := es_0 (G := G) (T := T) (L := M) q
            have b4 := hM q hq
            have b5 := es_le hT hG hM (show t < T by omega)
            have b6 := es_0 (G := G) (T := T) (L := M) t
            refine lv_iload hx hb dX1_freeSlackAt_59 (lv_at hl 2 rfl) ?_
            refine lv_aload_n hx hb dX1_freeSlackAt_61 rfl (lv_at hl 4 rfl) ?_
            refine va_get (D := D) (ci := 1) (v := .ref de) (C := RX1) (T := TX1) (N := 5) hx hb hts inX1 hown hK hP 0 rfl rfl 0 (by decide) f9 (fun _ h9 => h9) rfl dX1_freeSlackAt_62 ?_
            refine lv_iload hx hb dX1_freeSlackAt_65 (lv_at hl 1 rfl) ?_
            refine xr_iald hx hb hK hP 1 0 rfl rfl (by omega) (Nat.le_of_ble_eq_true rfl) (v := iZ (e t)) rfl dX1_freeSlackAt_67 ?_
            refine xr_top (y := iZ (es G T M t)) (congrArg iZ (he t (by omega))) ?_
            refine lv_iload hx hb dX1_freeSlackAt_68 (lv_at hl 0 rfl) ?_
            refine xr_isub_zz hx hb dX1_freeSlackAt_70 ?_
            refine lv_iload_n hx hb dX1_freeSlackAt_71 rfl (lv_at hl 3 rfl) ?_
            refine xr_isub_zz hx hb dX1_freeSlackAt_72 ?_
            refine va_mmin hx hb (by rw [hml]; exact hl.1.symm) hown ml56 stmin iniM cdmin (Nat.le_of_ble_eq_true rfl) (Nat.le_of_ble_eq_true rfl) (Nat.zero_le _) (Nat.zero_le _) dX1_freeSlackAt_73 ?_
            refine xr_top (y := iZ (min fr (((es G T M t) - (G q t)) - ((es G T M q) + (M q))))) (imin (iZ_toInt (by omega) (by omega)) (iZ_toInt (by omega) (by omega))) ?_
            refine lv_istore (lv' := [(4, .int (iZ (min fr (((es G T M t) - (G q t)) - ((es G T M q) + (M q)))))), (6, .int (iZ (G q t))), (5, .int (nI t)), (3, .int (iZ ((es G T M q) + (M q)))), (0, .ref d), (1, .ref h), (2, .int (nI q))]) hx hb dX1_freeSlackAt_76 hl (by decide) rfl (fun ls hl => ?_)
            refine lv_iinc (v := nI (t + 1)) (lv' := [(5, .int (nI (t + 1))), (4, .int (iZ (min fr (((es G T M t) - (G q t)) - ((es G T M q) + (M q)))))), (6, .int (iZ (G q t))), (3, .int (iZ ((es G T M q) + (M q)))), (0, .ref d), (1, .ref h), (2, .int (nI q))]) hx hb dX1_freeSlackAt_78 hl (k := 2) rfl (nI_add _ 1) (by decide) rfl (fun ls hl => ?_)
            refine lv_goto (tgt := 35) hx hb dX1_freeSlackAt_81 (by decide) ?_
            exact ih35 (t + 1) (min fr (((es G T M t) - (G q t)) - ((es G T M q) + (M q)))) (by omega) (by rw [frF, if_neg h56, hfr]) (by omega) _ _ hP hD hS _ (lv_sub hl [0, 1, 3, 4, 5, 6] rfl)
    exact L35 _ 0 (sp - ((es G T M q) + (M q))) (by omega) (by rw [frF, hsp]) (Nat.lt_succ_self _) _ _ hP hD hS _ (lv_sub hl [0, 1, 2, 3, 4, 5] rfl)
  · skip
    have h5 := bI_0.mp h5
    exact absurd (h5.symm.trans (hasB_t hq hT)) (by decide)

