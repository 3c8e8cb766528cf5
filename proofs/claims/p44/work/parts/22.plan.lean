def rX8_requireTask : Room := { frames := 6, cells := 1, slots := 6, locals := 91 }
set_option maxHeartbeats 4000000 in
set_option maxRecDepth 100000 in
/-- requireTask(task) -/
theorem mX8_requireTask (l : Launch) (hfl : l.stackTraces = false) (D : va_G) (ca : Nat → ClassId) (sz : Nat) (x : Nat) (g : Nat) (y : Nat) (tx : Nat) (d : Nat) (d2 : Nat) (ro : Nat) (k0 : Nat) (sc : Nat) (hs : Bool) (h : Nat) (a : Nat) (b : Nat) (c : Nat) (T : Nat) (E : Int) (C : Int) (t : Int32) (hT : T ≤ 20) : MX l yX8_requireTask wsX8_requireTask rX8_requireTask D ca [.ref x, .int (t)] sz [(x, .inr (8, [.ref h, .ref g, .int (bI (hs)), .ref y, .ref tx, .ref d, .ref d2, .ref ro, .ref k0, .ref sc])), (h, .inr (7, [.int (nI T), .int (iZ E), .int (iZ C), .ref a, .ref b, .ref c]))] (QV D ca (fun (u : Unit) => hasB T t = true) (fun _ => [(x, .inr (8, [.ref h, .ref g, .int (bI (hs)), .ref y, .ref tx, .ref d, .ref d2, .ref ro, .ref k0, .ref sc])), (h, .inr (7, [.int (nI T), .int (iZ E), .int (iZ C), .ref a, .ref b, .ref c]))])) (QX D ca (fun (E : String) (v : Unit) => E = xIO ∧ hasB T t = false) (fun _ => [(x, .inr (8, [.ref h, .ref g, .int (bI (hs)), .ref y, .ref tx, .ref d, .ref d2, .ref ro, .ref k0, .ref sc])), (h, .inr (7, [.int (nI T), .int (iZ E), .int (iZ C), .ref a, .ref b, .ref c]))])) := by
  refine MX_of (cc := cX8_requireTask) (maxL := 2) (ret := none) (lv0 := [(0, .ref x), (1, .int (t))]) RX8 (by decide) rfl rfl (Nat.le_of_ble_eq_true rfl) rfl ?_
  intro pG eV s mI args below meth cO hx hb hr hml hts hown hlocks hout A hA H locs hsz hP hK hD hS hEV Q hE ls hl
  have f10 := hts (.fieldLink RX8 10 "SlackPlan" "state" "LSlackPlan$State;") (List.mem_of_getElem? (i := 3) rfl)
  have inX8 : ∀ w ∈ u_ws RX8 TX8 10, w ∈ wsX8_requireTask := in_r _ [10, 11, 12, 13, 14, 15, 16, 17, 18, 19] rfl
  have kl243 := hts (.classLink RX8 243 "java/lang/IndexOutOfBoundsException") (List.mem_of_getElem? (i := 1) rfl)
  have iniIO := hts (.initialized "java/lang/IndexOutOfBoundsException") (List.mem_of_getElem? (i := 2) rfl)
  refine lv_aload_n hx hb dX8_requireTask_0 rfl (lv_at hl 0 rfl) ?_
  refine va_get (D := D) (ci := 8) (v := .ref h) (C := RX8) (T := TX8) (N := 10) hx hb hts inX8 hown hK hP 0 rfl rfl 0 (by decide) f10 (fun _ h9 => h9) rfl dX8_requireTask_1 ?_
  refine lv_iload_n hx hb dX8_requireTask_4 rfl (lv_at hl 1 rfl) ?_
  refine xk_pi (xk_V (As := [.int (t)]) (rest := []) ⟨hx, hb, hml, hown, hts⟩ (mX7_has l D ca H.size h a b c T E C t (by omega)) (cwV 1 hts gX8_requireTask_X7_has rfl rfl rfl (by decide +kernel) ⟨Nat.le_of_ble_eq_true rfl, Nat.le_of_ble_eq_true rfl⟩) hK hP hD (va_recv (q := (RX7, TX7, 6)) hK hP (ci := 7) (q0 := 1) rfl rfl) [1] rfl rfl rfl hl.1 rfl (Nat.le_of_ble_eq_true rfl) dX8_requireTask_5 ⟨Nat.le_of_ble_eq_true rfl, Nat.le_of_ble_eq_true rfl⟩) hP hD hS hA [1] rfl ⟨rfl, rfl⟩ (fun r5 H locs hw5 hP hS => ?_)
  have hw5 : r5 = bI (hasB T t) := hw5
  subst hw5
  refine lv_if_ne (tgt := 21) hx hb dX8_requireTask_8 (by decide) (fun h8 => ?_) (fun h8 => ?_)
  · skip
    have h8 := bI_n0.mp h8
    rw [← hE]
    refine vx_ret ?_
    refine W.widen (k := rX8_requireTask.cells) (n := rX8_requireTask.slots) (Nat.le_of_ble_eq_true rfl) (Nat.le_of_ble_eq_true rfl) ?_
    exact xe_v () hx hb hr hlocks hK hP hD hS h8 dX8_requireTask_21
  · skip
    have h8 := bI_0.mp h8
    rw [← hE]
    exact xt_throw (names := xNm) () hx hb hfl hown (by decide) (by decide) kl243 iniIO (hEV.2.2.1 (245, "there is no such task") (List.mem_of_getElem? (i := 6) rfl)) (xh_of hts (fun w h => List.mem_cons_of_mem _ (List.mem_append_right _ h)) xw_IO (List.mem_of_getElem? (i := 2) rfl) hEV.2.2) xg_IO hEV hK hP hD hS (by rw [hml]; exact hl.1) dX8_requireTask_11 dX8_requireTask_14 dX8_requireTask_15 dX8_requireTask_17 dX8_requireTask_20 hout (Nat.le_of_ble_eq_true rfl) (Nat.le_of_ble_eq_true rfl) (Nat.le_of_ble_eq_true rfl) (Nat.le_of_ble_eq_true rfl) hlocks (⟨rfl, h8⟩) (Nat.le_of_ble_eq_true rfl) (Nat.le_of_ble_eq_true rfl)
def rX8_requireRange : Room := { frames := 6, cells := 1, slots := 6, locals := 91 }
set_option maxHeartbeats 4000000 in
set_option maxRecDepth 100000 in
/-- requireRange(value, least, greatest) -/
theorem mX8_requireRange (l : Launch) (hfl : l.stackTraces = false) (D : va_G) (ca : Nat → ClassId) (sz : Nat) (x : Nat) (g : Nat) (y : Nat) (tx : Nat) (d : Nat) (d2 : Nat) (ro : Nat) (k0 : Nat) (sc : Nat) (hs : Bool) (h : Nat) (a : Nat) (b : Nat) (c : Nat) (T : Nat) (E : Int) (C : Int) (p : Int32) (q : Nat) (r9 : Nat) (hq : q ≤ 1000 ∧ r9 ≤ 1000) : MX l yX8_requireRange wsX8_requireRange rX8_requireRange D ca [.ref x, .int (p), .int (nI q), .int (nI r9)] sz [(x, .inr (8, [.ref h, .ref g, .int (bI (hs)), .ref y, .ref tx, .ref d, .ref d2, .ref ro, .ref k0, .ref sc])), (h, .inr (7, [.int (nI T), .int (iZ E), .int (iZ C), .ref a, .ref b, .ref c]))] (QV D ca (fun (u : Unit) => (q : Int) ≤ p.toInt ∧ p.toInt ≤ (r9 : Int)) (fun _ => [(x, .inr (8, [.ref h, .ref g, .int (bI (hs)), .ref y, .ref tx, .ref d, .ref d2, .ref ro, .ref k0, .ref sc])), (h, .inr (7, [.int (nI T), .int (iZ E), .int (iZ C), .ref a, .ref b, .ref c]))])) (QX D ca (fun (E : String) (v : Unit) => E = xIA ∧ ¬ ((q : Int) ≤ p.toInt ∧ p.toInt ≤ (r9 : Int))) (fun _ => [(x, .inr (8, [.ref h, .ref g, .int (bI (hs)), .ref y, .ref tx, .ref d, .ref d2, .ref ro, .ref k0, .ref sc])), (h, .inr (7, [.int (nI T), .int (iZ E), .int (iZ C), .ref a, .ref b, .ref c]))])) := by
  refine MX_of (cc := cX8_requireRange) (maxL := 4) (ret := none) (lv0 := [(0, .ref x), (1, .int (p)), (2, .int (nI q)), (3, .int (nI r9))]) RX8 (by decide) rfl rfl (Nat.le_of_ble_eq_true rfl) rfl ?_
  intro pG eV s mI args below meth cO hx hb hr hml hts hown hlocks hout A hA H locs hsz hP hK hD hS hEV Q hE ls hl
  have kl111 := hts (.classLink RX8 111 "java/lang/IllegalArgumentException") (List.mem_of_getElem? (i := 1) rfl)
  have iniIA := hts (.initialized "java/lang/IllegalArgumentException") (List.mem_of_getElem? (i := 2) rfl)
  refine lv_iload_n hx hb dX8_requireRange_0 rfl (lv_at hl 1 rfl) ?_
  refine lv_iload_n hx hb dX8_requireRange_1 rfl (lv_at hl 2 rfl) ?_
  refine lv_icmp_lt (tgt := 10) hx hb dX8_requireRange_2 (by decide) (fun h2 => ?_) (fun h2 => ?_)
  · skip
    have h2 := (cT rfl (nI_toInt (by omega))).mp h2
    rw [← hE]
    exact xt_throw (names := xNm) () hx hb hfl hown (by decide) (by decide) kl111 iniIA (hEV.2.2.1 (248, "an argument is out of range") (List.mem_of_getElem? (i := 7) rfl)) (xh_of hts (fun w h => List.mem_cons_of_mem _ (List.mem_append_right _ h)) xw_IA (List.mem_of_getElem? (i := 0) rfl) hEV.2.2) xg_IA hEV hK hP hD hS (by rw [hml]; exact hl.1) dX8_requireRange_10 dX8_requireRange_13 dX8_requireRange_14 dX8_requireRange_16 dX8_requireRange_19 hout (Nat.le_of_ble_eq_true rfl) (Nat.le_of_ble_eq_true rfl) (Nat.le_of_ble_eq_true rfl) (Nat.le_of_ble_eq_true rfl) hlocks (⟨rfl, by omega⟩) (Nat.le_of_ble_eq_true rfl) (Nat.le_of_ble_eq_true rfl)
  · skip
    have h2 := (not_congr (cT rfl (nI_toInt (by omega)))).mp h2
    refine lv_iload_n hx hb dX8_requireRange_5 rfl (lv_at hl 1 rfl) ?_
    refine lv_iload_n hx hb dX8_requireRange_6 rfl (lv_at hl 3 rfl) ?_
    refine lv_icmp_le (tgt := 20) hx hb dX8_requireRange_7 (by decide) (fun h7 => ?_) (fun h7 => ?_)
    · skip
      have h7 := (cL rfl (nI_toInt (by omega))).mp h7
      rw [← hE]
      refine vx_ret ?_
      refine W.widen (k := rX8_requireRange.cells) (n := rX8_requireRange.slots) (Nat.le_of_ble_eq_true rfl) (Nat.le_of_ble_eq_true rfl) ?_
      exact xe_v () hx hb hr hlocks hK hP hD hS (⟨by omega, by omega⟩) dX8_requireRange_20
    · skip
      have h7 := (not_congr (cL rfl (nI_toInt (by omega)))).mp h7
      rw [← hE]
      exact xt_throw (names := xNm) () hx hb hfl hown (by decide) (by decide) kl111 iniIA (hEV.2.2.1 (248, "an argument is out of range") (List.mem_of_getElem? (i := 7) rfl)) (xh_of hts (fun w h => List.mem_cons_of_mem _ (List.mem_append_right _ h)) xw_IA (List.mem_of_getElem? (i := 0) rfl) hEV.2.2) xg_IA hEV hK hP hD hS (by rw [hml]; exact hl.1) dX8_requireRange_10 dX8_requireRange_13 dX8_requireRange_14 dX8_requireRange_16 dX8_requireRange_19 hout (Nat.le_of_ble_eq_true rfl) (Nat.le_of_ble_eq_true rfl) (Nat.le_of_ble_eq_true rfl) (Nat.le_of_ble_eq_true rfl) hlocks (⟨rfl, by omega⟩) (Nat.le_of_ble_eq_true rfl) (Nat.le_of_ble_eq_true rfl)

