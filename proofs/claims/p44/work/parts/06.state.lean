def rX7_has : Room := { frames := 0, cells := 0, slots := 0, locals := 0 }
set_option maxHeartbeats 4000000 in
set_option maxRecDepth 100000 in
/-- has(t): is there a task t -/
theorem mX7_has (l : Launch) (D : va_G) (ca : Nat → ClassId) (sz : Nat) (h : Nat) (a : Nat) (b : Nat) (c : Nat) (T : Nat) (E : Int) (C : Int) (t : Int32) (hT : T ≤ 20) : MM l yX7_has wsX7_has rX7_has D ca [.ref h, .int (t)] sz [(h, .inr (7, [.int (nI T), .int (iZ E), .int (iZ C), .ref a, .ref b, .ref c]))] (QI D ca (fun (r : Int32) (u : Unit) => r = bI (hasB T t)) (fun _ => [(h, .inr (7, [.int (nI T), .int (iZ E), .int (iZ C), .ref a, .ref b, .ref c]))])) := by
  refine MM_of (cc := cX7_has) (maxL := 2) (ret := (some .boolean)) (lv0 := [(0, .ref h), (1, .int (t))]) RX7 (by decide) rfl rfl (Nat.le_of_ble_eq_true rfl) rfl ?_
  intro pG eV s mI args below meth cO hx hb hr hml hts hown hlocks hnm A hA H locs hsz hP hK hD hS Q hE ls hl
  have f9 := hts (.fieldLink RX7 9 "SlackPlan$State" "tasks" "I") (List.mem_of_getElem? (i := 1) rfl)
  have inX7 : ∀ w ∈ u_ws RX7 TX7 6, w ∈ wsX7_has := in_r _ [2, 3, 4, 5, 6, 7] rfl
  refine lv_iload_n hx hb dX7_has_0 rfl (lv_at hl 1 rfl) ?_
  refine lv_if_lt (tgt := 16) hx hb dX7_has_1 (by decide) (fun h1 => ?_) (fun h1 => ?_)
  · skip
    have h1 : t.toInt < 0 := (cT rfl z0_toInt).mp h1
    refine lv_iconst (v := nI (0)) hx hb dX7_has_16 (by decide) ?_
    rw [← hE]
    exact xe_z () hx hb hr hlocks hK hP hD hS rfl (hasB_n1 h1) dX7_has_17
  · skip
    have h1 : 0 ≤ t.toInt := by have := (not_congr (cT rfl z0_toInt)).mp h1; omega
    refine lv_iload_n hx hb dX7_has_4 rfl (lv_at hl 1 rfl) ?_
    refine lv_aload_n hx hb dX7_has_5 rfl (lv_at hl 0 rfl) ?_
    refine va_get (D := D) (ci := 7) (v := .int (nI T)) (C := RX7) (T := TX7) (N := 6) hx hb hts inX7 hown hK hP 0 rfl rfl 0 (by decide) f9 (fun _ h9 => h9) rfl dX7_has_6 ?_
    refine lv_icmp_ge (tgt := 16) hx hb dX7_has_9 (by decide) (fun h9 => ?_) (fun h9 => ?_)
    · skip
      have h9 : (T : Int) ≤ t.toInt := (cL (nI_toInt (by omega)) rfl).mp h9
      refine lv_iconst (v := nI (0)) hx hb dX7_has_16 (by decide) ?_
      rw [← hE]
      exact xe_z () hx hb hr hlocks hK hP hD hS rfl (hasB_n2 h9 hT) dX7_has_17
    · skip
      have h9 : t.toInt < (T : Int) := by have := (not_congr (cL (nI_toInt (by omega)) rfl)).mp h9; omega
      refine lv_iconst (v := nI (1)) hx hb dX7_has_12 (by decide) ?_
      refine lv_goto (tgt := 17) hx hb dX7_has_13 (by decide) ?_
      rw [← hE]
      exact xe_z () hx hb hr hlocks hK hP hD hS rfl (hasB_y h1 h9 hT) dX7_has_17
def rX7_lag : Room := { frames := 1, cells := 0, slots := 0, locals := 21 }
set_option maxHeartbeats 4000000 in
set_option maxRecDepth 100000 in
/-- lag(i, j) -/
theorem mX7_lag (l : Launch) (D : va_G) (ca : Nat → ClassId) (sz : Nat) (h : Nat) (a : Nat) (b : Nat) (c : Nat) (T : Nat) (E : Int) (C : Int) (G : Nat → Nat → Int) (i : Nat) (j : Nat) (hT : T ≤ 20) (hi : i < T) (hj : j < T) : MM l yX7_lag wsX7_lag rX7_lag D ca [.ref h, .int (nI i), .int (nI j)] sz [(h, .inr (7, [.int (nI T), .int (iZ E), .int (iZ C), .ref a, .ref b, .ref c])), (c, .inl (ca 0, 400, .inl (zG G)))] (QI D ca (fun (r : Int32) (u : Unit) => r = iZ (G i j)) (fun _ => [(h, .inr (7, [.int (nI T), .int (iZ E), .int (iZ C), .ref a, .ref b, .ref c])), (c, .inl (ca 0, 400, .inl (zG G)))])) := by
  refine MM_of (cc := cX7_lag) (maxL := 3) (ret := (some .int)) (lv0 := [(0, .ref h), (1, .int (nI i)), (2, .int (nI j))]) RX7 (by decide) rfl rfl (Nat.le_of_ble_eq_true rfl) rfl ?_
  intro pG eV s mI args below meth cO hx hb hr hml hts hown hlocks hnm A hA H locs hsz hP hK hD hS Q hE ls hl
  have f28 := hts (.fieldLink RX7 28 "SlackPlan$State" "lags" "[I") (List.mem_of_getElem? (i := 1) rfl)
  have inX7 : ∀ w ∈ u_ws RX7 TX7 6, w ∈ wsX7_lag := in_r _ [8, 9, 10, 11, 12, 13] rfl
  refine lv_aload_n hx hb dX7_lag_0 rfl (lv_at hl 0 rfl) ?_
  refine lv_iload_n hx hb dX7_lag_1 rfl (lv_at hl 1 rfl) ?_
  refine xk_pi (xk_V (As := [.int (nI i)]) (rest := []) ⟨hx, hb, hml, hown, hts⟩ (mX7_has l D ca H.size h a b c T E C (nI (i)) (by omega)) (cwV 1 hts gX7_lag_X7_has rfl rfl rfl (by decide +kernel) ⟨Nat.le_of_ble_eq_true rfl, Nat.le_of_ble_eq_true rfl⟩) hK hP hD (va_recv (q := (RX7, TX7, 6)) hK hP (ci := 7) (q0 := 0) rfl rfl) [0] rfl rfl rfl hl.1 rfl (Nat.le_of_ble_eq_true rfl) dX7_lag_2 ⟨Nat.le_of_ble_eq_true rfl, Nat.le_of_ble_eq_true rfl⟩) hP hD hS hA [0] rfl ⟨rfl, rfl⟩ (fun r2 H locs hw2 hP hS => ?_)
  have hw2 : r2 = bI (hasB T (nI (i))) := hw2
  subst hw2
  refine lv_if_eq (tgt := 30) hx hb dX7_lag_5 (by decide) (fun h5 => ?_) (fun h5 => ?_)
  · skip
    have h5 := bI_0.mp h5
    exact absurd (h5.symm.trans (hasB_t (by omega) hT)) (by decide)
  · skip
    have h5 := bI_n0.mp h5
    refine lv_aload_n hx hb dX7_lag_8 rfl (lv_at hl 0 rfl) ?_
    refine lv_iload_n hx hb dX7_lag_9 rfl (lv_at hl 2 rfl) ?_
    refine xk_pi (xk_V (As := [.int (nI j)]) (rest := []) ⟨hx, hb, hml, hown, hts⟩ (mX7_has l D ca H.size h a b c T E C (nI (j)) (by omega)) (cwV 1 hts gX7_lag_X7_has rfl rfl rfl (by decide +kernel) ⟨Nat.le_of_ble_eq_true rfl, Nat.le_of_ble_eq_true rfl⟩) hK hP hD (va_recv (q := (RX7, TX7, 6)) hK hP (ci := 7) (q0 := 0) rfl rfl) [0] rfl rfl rfl hl.1 rfl (Nat.le_of_ble_eq_true rfl) dX7_lag_10 ⟨Nat.le_of_ble_eq_true rfl, Nat.le_of_ble_eq_true rfl⟩) hP hD hS hA [0] rfl ⟨rfl, rfl⟩ (fun r10 H locs hw10 hP hS => ?_)
    have hw10 : r10 = bI (hasB T (nI (j))) := hw10
    subst hw10
    refine lv_if_eq (tgt := 30) hx hb dX7_lag_13 (by decide) (fun h13 => ?_) (fun h13 => ?_)
    · skip
      have h13 := bI_0.mp h13
      exact absurd (h13.symm.trans (hasB_t (by omega) hT)) (by decide)
    · skip
      have h13 := bI_n0.mp h13
      refine lv_aload_n hx hb dX7_lag_16 rfl (lv_at hl 0 rfl) ?_
      refine va_get (D := D) (ci := 7) (v := .ref c) (C := RX7) (T := TX7) (N := 6) hx hb hts inX7 hown hK hP 0 rfl rfl 5 (by decide) f28 (fun _ h9 => h9) rfl dX7_lag_17 ?_
      refine lv_iload_n hx hb dX7_lag_20 rfl (lv_at hl 1 rfl) ?_
      refine lv_bipush (v := nI (20)) hx hb dX7_lag_21 (by decide) ?_
      refine xr_imul hx hb dX7_lag_23 ?_
      refine lv_iload_n hx hb dX7_lag_24 rfl (lv_at hl 2 rfl) ?_
      refine xr_iadd hx hb dX7_lag_25 ?_
      refine xr_iald hx hb hK hP 1 0 rfl rfl (by omega) (Nat.le_of_ble_eq_true rfl) (v := iZ (G i j)) (zG_at _ (by omega)) dX7_lag_26 ?_
      refine lv_goto (tgt := 31) hx hb dX7_lag_27 (by decide) ?_
      rw [← hE]
      exact xe_i () hx hb hr hlocks hK hP hD hS rfl dX7_lag_31
def rX7_countBefore : Room := { frames := 2, cells := 0, slots := 0, locals := 43 }
set_option maxHeartbeats 4000000 in
set_option maxRecDepth 100000 in
/-- countBefore(j): how many dependencies lead to j -/
theorem mX7_countBefore (l : Launch) (D : va_G) (ca : Nat → ClassId) (sz : Nat) (h : Nat) (a : Nat) (b : Nat) (c : Nat) (T : Nat) (E : Int) (C : Int) (G : Nat → Nat → Int) (j : Nat) (hT : T ≤ 20) (hj : j < T) (hG : GOK G) : MM l yX7_countBefore wsX7_countBefore rX7_countBefore D ca [.ref h, .int (nI j)] sz [(h, .inr (7, [.int (nI T), .int (iZ E), .int (iZ C), .ref a, .ref b, .ref c])), (c, .inl (ca 0, 400, .inl (zG G)))] (QI D ca (fun (r : Int32) (u : Unit) => r = nI (cntB G j T)) (fun _ => [(h, .inr (7, [.int (nI T), .int (iZ E), .int (iZ C), .ref a, .ref b, .ref c])), (c, .inl (ca 0, 400, .inl (zG G)))])) := by
  refine MM_of (cc := cX7_countBefore) (maxL := 4) (ret := (some .int)) (lv0 := [(0, .ref h), (1, .int (nI j))]) RX7 (by decide) rfl rfl (Nat.le_of_ble_eq_true rfl) rfl ?_
  intro pG eV s mI args below meth cO hx hb hr hml hts hown hlocks hnm A hA H locs hsz hP hK hD hS Q hE ls hl
  have f9 := hts (.fieldLink RX7 9 "SlackPlan$State" "tasks" "I") (List.mem_of_getElem? (i := 1) rfl)
  have inX7 : ∀ w ∈ u_ws RX7 TX7 6, w ∈ wsX7_countBefore := in_r _ [12, 13, 14, 15, 16, 17] rfl
  refine lv_iconst (v := nI (0)) hx hb dX7_countBefore_0 (by decide) ?_
  refine lv_istore_n (lv' := [(2, .int (nI 0)), (0, .ref h), (1, .int (nI j))]) hx hb dX7_countBefore_1 rfl hl (by decide) rfl (fun ls hl => ?_)
  refine lv_iconst (v := nI (0)) hx hb dX7_countBefore_2 (by decide) ?_
  refine lv_istore_n (lv' := [(3, .int (nI 0)), (2, .int (nI 0)), (0, .ref h), (1, .int (nI j))]) hx hb dX7_countBefore_3 rfl hl (by decide) rfl (fun ls hl => ?_)
  have L4 : ∀ (fu : Nat) (k : Nat) (q : Nat), (k ≤ T) → (q = cntB G j k) → (T - k) < fu → ∀ (H : Heap) (locs : List Loc), va_P D vwCl [(h, .inr (7, [.int (nI T), .int (iZ E), .int (iZ C), .ref a, .ref b, .ref c])), (c, .inl (ca 0, 400, .inl (zG G)))] H → va_D A [(h, .inr (7, [.int (nI T), .int (iZ E), .int (iZ C), .ref a, .ref b, .ref c])), (c, .inl (ca 0, 400, .inl (zG G)))] → va_S A s.heap H locs → ∀ ls : Array Slot, lv_has ls 4 [(3, .int (nI k)), (2, .int (nI q)), (0, .ref h), (1, .int (nI j))] → W pG l eV rX7_countBefore s mI args below meth cO H locs 0 0 Q (F0 mI 4 ls []) := by
    clear hP hD hS hl
    intro fu; induction fu with
    | zero => intro k q hk hq hmu; exact absurd hmu (Nat.not_lt_zero _)
    | succ n4 ih4 =>
      intro k q hk hq hmu4 H locs hP hD hS ls hl
      refine lv_iload_n hx hb dX7_countBefore_4 rfl (lv_at hl 0 rfl) ?_
      refine lv_aload_n hx hb dX7_countBefore_5 rfl (lv_at hl 2 rfl) ?_
      refine va_get (D := D) (ci := 7) (v := .int (nI T)) (C := RX7) (T := TX7) (N := 6) hx hb hts inX7 hown hK hP 0 rfl rfl 0 (by decide) f9 (fun _ h9 => h9) rfl dX7_countBefore_6 ?_
      refine lv_icmp_ge (tgt := 31) hx hb dX7_countBefore_9 (by decide) (fun h9 => ?_) (fun h9 => ?_)
      · skip
        have h9 := (cL (nI_toInt (by omega)) (nI_toInt (by omega))).mp h9
        refine lv_iload_n hx hb dX7_countBefore_31 rfl (lv_at hl 1 rfl) ?_
        rw [← hE]
        exact xe_i () hx hb hr hlocks hK hP hD hS (by rw [hq, show k = T by omega]) dX7_countBefore_32
      · skip
        have h9 := (not_congr (cL (nI_toInt (by omega)) (nI_toInt (by omega)))).mp h9
        have hb1 := hG k j (by omega) (by omega)
        refine lv_aload_n hx hb dX7_countBefore_12 rfl (lv_at hl 2 rfl) ?_
        refine lv_iload_n hx hb dX7_countBefore_13 rfl (lv_at hl 0 rfl) ?_
        refine lv_iload_n hx hb dX7_countBefore_14 rfl (lv_at hl 3 rfl) ?_
        refine xk_pi (xk_V (As := [.int (nI k), .int (nI j)]) (rest := []) ⟨hx, hb, hml, hown, hts⟩ (mX7_lag l D ca H.size h a b c T E C G k j (by omega) (by omega) (by omega)) (cwV 2 hts gX7_countBefore_X7_lag rfl rfl rfl (by decide +kernel) ⟨Nat.le_of_ble_eq_true rfl, Nat.le_of_ble_eq_true rfl⟩) hK hP hD (va_recv (q := (RX7, TX7, 6)) hK hP (ci := 7) (q0 := 0) rfl rfl) [0, 1] rfl rfl rfl hl.1 rfl (Nat.le_of_ble_eq_true rfl) dX7_countBefore_15 ⟨Nat.le_of_ble_eq_true rfl, Nat.le_of_ble_eq_true rfl⟩) hP hD hS hA [0, 1] rfl ⟨rfl, rfl⟩ (fun r15 H locs hw15 hP hS => ?_)
        have hw15 : r15 = iZ (G k j) := hw15
        subst hw15
        refine lv_iconst (v := iZ (-1)) hx hb dX7_countBefore_18 (by decide) ?_
        refine lv_icmp_eq (tgt := 25) hx hb dX7_countBefore_19 (by decide) (fun h19 => ?_) (fun h19 => ?_)
        · skip
          have h19 := (cE (iZ_toInt (by omega) (by omega)) (iZ_toInt (by omega) (by omega))).mp h19
          refine lv_iinc (v := nI (k + 1)) (lv' := [(3, .int (nI (k + 1))), (2, .int (nI q)), (0, .ref h), (1, .int (nI j))]) hx hb dX7_countBefore_25 hl (k := 0) rfl (nI_add _ 1) (by decide) rfl (fun ls hl => ?_)
          refine lv_goto (tgt := 4) hx hb dX7_countBefore_28 (by decide) ?_
          exact ih4 (k + 1) q (by omega) (by rw [cntB, if_pos h19, hq, Nat.add_zero]) (by omega) _ _ hP hD hS _ (lv_sub hl [0, 1, 2, 3] rfl)
        · skip
          have h19 := (not_congr (cE (iZ_toInt (by omega) (by omega)) (iZ_toInt (by omega) (by omega)))).mp h19
          refine lv_iinc (v := nI (q + 1)) (lv' := [(2, .int (nI (q + 1))), (3, .int (nI k)), (0, .ref h), (1, .int (nI j))]) hx hb dX7_countBefore_22 hl (k := 1) rfl (nI_add _ 1) (by decide) rfl (fun ls hl => ?_)
          refine lv_iinc (v := nI (k + 1)) (lv' := [(3, .int (nI (k + 1))), (2, .int (nI (q + 1))), (0, .ref h), (1, .int (nI j))]) hx hb dX7_countBefore_25 hl (k := 1) rfl (nI_add _ 1) (by decide) rfl (fun ls hl => ?_)
          refine lv_goto (tgt := 4) hx hb dX7_countBefore_28 (by decide) ?_
          exact ih4 (k + 1) (q + 1) (by omega) (by rw [cntB, if_neg h19, hq]) (by omega) _ _ hP hD hS _ (lv_sub hl [0, 1, 2, 3] rfl)
  exact L4 _ 0 0 (by omega) rfl (Nat.lt_succ_self _) _ _ hP hD hS _ (lv_sub hl [0, 1, 2, 3] rfl)
def rX7_sumOfWork : Room := { frames := 0, cells := 0, slots := 0, locals := 0 }
set_option maxHeartbeats 4000000 in
set_option maxRecDepth 100000 in
/-- sumOfWork() -/
theorem mX7_sumOfWork (l : Launch) (D : va_G) (ca : Nat → ClassId) (sz : Nat) (h : Nat) (a : Nat) (b : Nat) (c : Nat) (T : Nat) (E : Int) (C : Int) (L : Nat → Int) (N : Nat → Int) (hT : T ≤ 20) : MM l yX7_sumOfWork wsX7_sumOfWork rX7_sumOfWork D ca [.ref h] sz [(h, .inr (7, [.int (nI T), .int (iZ E), .int (iZ C), .ref a, .ref b, .ref c])), (a, .inl (ca 0, 20, .inl (zF L))), (b, .inl (ca 0, 20, .inl (zF N)))] (QI D ca (fun (r : Int32) (u : Unit) => r = iZ (sumW L N T)) (fun _ => [(h, .inr (7, [.int (nI T), .int (iZ E), .int (iZ C), .ref a, .ref b, .ref c])), (a, .inl (ca 0, 20, .inl (zF L))), (b, .inl (ca 0, 20, .inl (zF N)))])) := by
  refine MM_of (cc := cX7_sumOfWork) (maxL := 3) (ret := (some .int)) (lv0 := [(0, .ref h)]) RX7 (by decide) rfl rfl (Nat.le_of_ble_eq_true rfl) rfl ?_
  intro pG eV s mI args below meth cO hx hb hr hml hts hown hlocks hnm A hA H locs hsz hP hK hD hS Q hE ls hl
  have f9 := hts (.fieldLink RX7 9 "SlackPlan$State" "tasks" "I") (List.mem_of_getElem? (i := 1) rfl)
  have inX7 : ∀ w ∈ u_ws RX7 TX7 6, w ∈ wsX7_sumOfWork := in_r _ [4, 5, 6, 7, 8, 9] rfl
  have f21 := hts (.fieldLink RX7 21 "SlackPlan$State" "lengths" "[I") (List.mem_of_getElem? (i := 2) rfl)
  have f25 := hts (.fieldLink RX7 25 "SlackPlan$State" "needs" "[I") (List.mem_of_getElem? (i := 3) rfl)
  refine lv_iconst (v := iZ 0) hx hb dX7_sumOfWork_0 (by decide) ?_
  refine lv_istore_n (lv' := [(1, .int (iZ 0)), (0, .ref h)]) hx hb dX7_sumOfWork_1 rfl hl (by decide) rfl (fun ls hl => ?_)
  refine lv_iconst (v := nI (0)) hx hb dX7_sumOfWork_2 (by decide) ?_
  refine lv_istore_n (lv' := [(2, .int (nI 0)), (1, .int (iZ 0)), (0, .ref h)]) hx hb dX7_sumOfWork_3 rfl hl (by decide) rfl (fun ls hl => ?_)
  have L4 : ∀ (fu : Nat) (k : Nat) (q : Int), (k ≤ T) → (q = sumW L N k) → (T - k) < fu → ∀ (H : Heap) (locs : List Loc), va_P D vwCl [(h, .inr (7, [.int (nI T), .int (iZ E), .int (iZ C), .ref a, .ref b, .ref c])), (a, .inl (ca 0, 20, .inl (zF L))), (b, .inl (ca 0, 20, .inl (zF N)))] H → va_D A [(h, .inr (7, [.int (nI T), .int (iZ E), .int (iZ C), .ref a, .ref b, .ref c])), (a, .inl (ca 0, 20, .inl (zF L))), (b, .inl (ca 0, 20, .inl (zF N)))] → va_S A s.heap H locs → ∀ ls : Array Slot, lv_has ls 3 [(2, .int (nI k)), (1, .int (iZ q)), (0, .ref h)] → W pG l eV rX7_sumOfWork s mI args below meth cO H locs 0 0 Q (F0 mI 4 ls []) := by
    clear hP hD hS hl
    intro fu; induction fu with
    | zero => intro k q hk hq hmu; exact absurd hmu (Nat.not_lt_zero _)
    | succ n4 ih4 =>
      intro k q hk hq hmu4 H locs hP hD hS ls hl
      refine lv_iload_n hx hb dX7_sumOfWork_4 rfl (lv_at hl 0 rfl) ?_
      refine lv_aload_n hx hb dX7_sumOfWork_5 rfl (lv_at hl 2 rfl) ?_
      refine va_get (D := D) (ci := 7) (v := .int (nI T)) (C := RX7) (T := TX7) (N := 6) hx hb hts inX7 hown hK hP 0 rfl rfl 0 (by decide) f9 (fun _ h9 => h9) rfl dX7_sumOfWork_6 ?_
      refine lv_icmp_ge (tgt := 34) hx hb dX7_sumOfWork_9 (by decide) (fun h9 => ?_) (fun h9 => ?_)
      · skip
        have h9 := (cL (nI_toInt (by omega)) (nI_toInt (by omega))).mp h9
        refine lv_iload_n hx hb dX7_sumOfWork_34 rfl (lv_at hl 1 rfl) ?_
        rw [← hE]
        exact xe_i () hx hb hr hlocks hK hP hD hS (by rw [hq, show k = T by omega]) dX7_sumOfWork_35
      · skip
        have h9 := (not_congr (cL (nI_toInt (by omega)) (nI_toInt (by omega)))).mp h9
        refine lv_iload_n hx hb dX7_sumOfWork_12 rfl (lv_at hl 1 rfl) ?_
        refine lv_aload_n hx hb dX7_sumOfWork_13 rfl (lv_at hl 2 rfl) ?_
        refine va_get (D := D) (ci := 7) (v := .ref a) (C := RX7) (T := TX7) (N := 6) hx hb hts inX7 hown hK hP 0 rfl rfl 3 (by decide) f21 (fun _ h9 => h9) rfl dX7_sumOfWork_14 ?_
        refine lv_iload_n hx hb dX7_sumOfWork_17 rfl (lv_at hl 0 rfl) ?_
        refine xr_iald hx hb hK hP 1 0 rfl rfl (by omega) (Nat.le_of_ble_eq_true rfl) (v := iZ (L k)) rfl dX7_sumOfWork_18 ?_
        refine lv_aload_n hx hb dX7_sumOfWork_19 rfl (lv_at hl 2 rfl) ?_
        refine va_get (D := D) (ci := 7) (v := .ref b) (C := RX7) (T := TX7) (N := 6) hx hb hts inX7 hown hK hP 0 rfl rfl 4 (by decide) f25 (fun _ h9 => h9) rfl dX7_sumOfWork_20 ?_
        refine lv_iload_n hx hb dX7_sumOfWork_23 rfl (lv_at hl 0 rfl) ?_
        refine xr_iald hx hb hK hP 2 0 rfl rfl (by omega) (Nat.le_of_ble_eq_true rfl) (v := iZ (N k)) rfl dX7_sumOfWork_24 ?_
        refine xr_imul_zz hx hb dX7_sumOfWork_25 ?_
        refine xr_iadd_zz hx hb dX7_sumOfWork_26 ?_
        refine lv_istore_n (lv' := [(1, .int (iZ (q + ((L k) * (N k))))), (2, .int (nI k)), (0, .ref h)]) hx hb dX7_sumOfWork_27 rfl hl (by decide) rfl (fun ls hl => ?_)
        refine lv_iinc (v := nI (k + 1)) (lv' := [(2, .int (nI (k + 1))), (1, .int (iZ (q + ((L k) * (N k))))), (0, .ref h)]) hx hb dX7_sumOfWork_28 hl (k := 1) rfl (nI_add _ 1) (by decide) rfl (fun ls hl => ?_)
        refine lv_goto (tgt := 4) hx hb dX7_sumOfWork_31 (by decide) ?_
        exact ih4 (k + 1) (q + ((L k) * (N k))) (by omega) (by rw [sumW, hq]) (by omega) _ _ hP hD hS _ (lv_sub hl [0, 1, 2] rfl)
  exact L4 _ 0 0 (by omega) rfl (Nat.lt_succ_self _) _ _ hP hD hS _ (lv_sub hl [0, 1, 2] rfl)
def rX7_copyTasks : Room := { frames := 1, cells := 0, slots := 0, locals := 26 }
set_option maxHeartbeats 4000000 in
set_option maxRecDepth 100000 in
/-- copyTasks(other) -/
theorem mX7_copyTasks (l : Launch) (D : va_G) (ca : Nat → ClassId) (sz : Nat) (h : Nat) (a : Nat) (b : Nat) (c : Nat) (T : Nat) (E : Int) (C : Int) (L : Nat → Int) (N : Nat → Int) (G : Nat → Nat → Int) (h2 : Nat) (a2 : Nat) (b2 : Nat) (c2 : Nat) (T2 : Nat) (E2 : Int) (C2 : Int) (L2 : Nat → Int) (N2 : Nat → Int) (G2 : Nat → Nat → Int)  : MM l yX7_copyTasks wsX7_copyTasks rX7_copyTasks D ca [.ref h, .ref h2] sz [(h, .inr (7, [.int (nI T), .int (iZ E), .int (iZ C), .ref a, .ref b, .ref c])), (a, .inl (ca 0, 20, .inl (zF L))), (b, .inl (ca 0, 20, .inl (zF N))), (c, .inl (ca 0, 400, .inl (zG G))), (h2, .inr (7, [.int (nI T2), .int (iZ E2), .int (iZ C2), .ref a2, .ref b2, .ref c2])), (a2, .inl (ca 0, 20, .inl (zF L2))), (b2, .inl (ca 0, 20, .inl (zF N2))), (c2, .inl (ca 0, 400, .inl (zG G2)))] (QV D ca (fun (u : Unit) => True) (fun _ => [(h, .inr (7, [.int (nI T2), .int (iZ E2), .int (iZ C), .ref a, .ref b, .ref c])), (a, .inl (ca 0, 20, .inl (zF L2))), (b, .inl (ca 0, 20, .inl (zF N2))), (c, .inl (ca 0, 400, .inl (zG G2))), (h2, .inr (7, [.int (nI T2), .int (iZ E2), .int (iZ C2), .ref a2, .ref b2, .ref c2])), (a2, .inl (ca 0, 20, .inl (zF L2))), (b2, .inl (ca 0, 20, .inl (zF N2))), (c2, .inl (ca 0, 400, .inl (zG G2)))])) := by
  refine MM_of (cc := cX7_copyTasks) (maxL := 2) (ret := none) (lv0 := [(0, .ref h), (1, .ref h2)]) RX7 (by decide) rfl rfl (Nat.le_of_ble_eq_true rfl) rfl ?_
  intro pG eV s mI args below meth cO hx hb hr hml hts hown hlocks hnm A hA H locs hsz hP hK hD hS Q hE ls hl
  have f9 := hts (.fieldLink RX7 9 "SlackPlan$State" "tasks" "I") (List.mem_of_getElem? (i := 1) rfl)
  have inX7 : ∀ w ∈ u_ws RX7 TX7 6, w ∈ wsX7_copyTasks := in_r _ [10, 11, 12, 13, 14, 15] rfl
  have f15 := hts (.fieldLink RX7 15 "SlackPlan$State" "dependencies" "I") (List.mem_of_getElem? (i := 2) rfl)
  have f21 := hts (.fieldLink RX7 21 "SlackPlan$State" "lengths" "[I") (List.mem_of_getElem? (i := 3) rfl)
  have ml49 := hts (.methodLink RX7 49 arraycopyName) (List.mem_of_getElem? (i := 4) rfl)
  have nat := hts (.native arraycopyName) (List.mem_of_getElem? (i := 5) rfl)
  have stc := hts (.static arraycopyName) (List.mem_of_getElem? (i := 6) rfl)
  have iniS := hts (.initialized "java/lang/System") (List.mem_of_getElem? (i := 7) rfl)
  have f25 := hts (.fieldLink RX7 25 "SlackPlan$State" "needs" "[I") (List.mem_of_getElem? (i := 8) rfl)
  have f28 := hts (.fieldLink RX7 28 "SlackPlan$State" "lags" "[I") (List.mem_of_getElem? (i := 9) rfl)
  refine lv_aload_n hx hb dX7_copyTasks_0 rfl (lv_at hl 0 rfl) ?_
  refine lv_aload_n hx hb dX7_copyTasks_1 rfl (lv_at hl 1 rfl) ?_
  refine va_get (D := D) (ci := 7) (v := .int (nI T2)) (C := RX7) (T := TX7) (N := 6) hx hb hts inX7 hown hK hP 4 rfl rfl 0 (by decide) f9 (fun _ h9 => h9) rfl dX7_copyTasks_2 ?_
  refine va_put (D := D) (ci := 7) (v := .int (nI T2)) (ty := .int) (C := RX7) (T := TX7) (N := 6) hx hb hts inX7 tyX7 tyX7_ok nmX7 hown hK hP hD hS 0 rfl rfl 0 (by decide) f9 (fun _ h9 => h9) rfl (by decide +kernel) rfl rfl (Nat.le_of_ble_eq_true rfl) dX7_copyTasks_5 (fun H locs hP hD hS => ?_)
  have hP : va_P D vwCl [(h, .inr (7, [.int (nI T2), .int (iZ E), .int (iZ C), .ref a, .ref b, .ref c])), (a, .inl (ca 0, 20, .inl (zF L))), (b, .inl (ca 0, 20, .inl (zF N))), (c, .inl (ca 0, 400, .inl (zG G))), (h2, .inr (7, [.int (nI T2), .int (iZ E2), .int (iZ C2), .ref a2, .ref b2, .ref c2])), (a2, .inl (ca 0, 20, .inl (zF L2))), (b2, .inl (ca 0, 20, .inl (zF N2))), (c2, .inl (ca 0, 400, .inl (zG G2)))] H := hP
  have hD : va_D A [(h, .inr (7, [.int (nI T2), .int (iZ E), .int (iZ C), .ref a, .ref b, .ref c])), (a, .inl (ca 0, 20, .inl (zF L))), (b, .inl (ca 0, 20, .inl (zF N))), (c, .inl (ca 0, 400, .inl (zG G))), (h2, .inr (7, [.int (nI T2), .int (iZ E2), .int (iZ C2), .ref a2, .ref b2, .ref c2])), (a2, .inl (ca 0, 20, .inl (zF L2))), (b2, .inl (ca 0, 20, .inl (zF N2))), (c2, .inl (ca 0, 400, .inl (zG G2)))] := hD
  refine lv_aload_n hx hb dX7_copyTasks_8 rfl (lv_at hl 0 rfl) ?_
  refine lv_aload_n hx hb dX7_copyTasks_9 rfl (lv_at hl 1 rfl) ?_
  refine va_get (D := D) (ci := 7) (v := .int (iZ E2)) (C := RX7) (T := TX7) (N := 6) hx hb hts inX7 hown hK hP 4 rfl rfl 1 (by decide) f15 (fun _ h9 => h9) rfl dX7_copyTasks_10 ?_
  refine va_put (D := D) (ci := 7) (v := .int (iZ E2)) (ty := .int) (C := RX7) (T := TX7) (N := 6) hx hb hts inX7 tyX7 tyX7_ok nmX7 hown hK hP hD hS 0 rfl rfl 1 (by decide) f15 (fun _ h9 => h9) rfl (by decide +kernel) rfl rfl (Nat.le_of_ble_eq_true rfl) dX7_copyTasks_13 (fun H locs hP hD hS => ?_)
  have hP : va_P D vwCl [(h, .inr (7, [.int (nI T2), .int (iZ E2), .int (iZ C), .ref a, .ref b, .ref c])), (a, .inl (ca 0, 20, .inl (zF L))), (b, .inl (ca 0, 20, .inl (zF N))), (c, .inl (ca 0, 400, .inl (zG G))), (h2, .inr (7, [.int (nI T2), .int (iZ E2), .int (iZ C2), .ref a2, .ref b2, .ref c2])), (a2, .inl (ca 0, 20, .inl (zF L2))), (b2, .inl (ca 0, 20, .inl (zF N2))), (c2, .inl (ca 0, 400, .inl (zG G2)))] H := hP
  have hD : va_D A [(h, .inr (7, [.int (nI T2), .int (iZ E2), .int (iZ C), .ref a, .ref b, .ref c])), (a, .inl (ca 0, 20, .inl (zF L))), (b, .inl (ca 0, 20, .inl (zF N))), (c, .inl (ca 0, 400, .inl (zG G))), (h2, .inr (7, [.int (nI T2), .int (iZ E2), .int (iZ C2), .ref a2, .ref b2, .ref c2])), (a2, .inl (ca 0, 20, .inl (zF L2))), (b2, .inl (ca 0, 20, .inl (zF N2))), (c2, .inl (ca 0, 400, .inl (zG G2)))] := hD
  refine lv_aload_n hx hb dX7_copyTasks_16 rfl (lv_at hl 1 rfl) ?_
  refine va_get (D := D) (ci := 7) (v := .ref a2) (C := RX7) (T := TX7) (N := 6) hx hb hts inX7 hown hK hP 4 rfl rfl 3 (by decide) f21 (fun _ h9 => h9) rfl dX7_copyTasks_17 ?_
  refine lv_iconst (v := nI (0)) hx hb dX7_copyTasks_20 (by decide) ?_
  refine lv_aload_n hx hb dX7_copyTasks_21 rfl (lv_at hl 0 rfl) ?_
  refine va_get (D := D) (ci := 7) (v := .ref a) (C := RX7) (T := TX7) (N := 6) hx hb hts inX7 hown hK hP 0 rfl rfl 3 (by decide) f21 (fun _ h9 => h9) rfl dX7_copyTasks_22 ?_
  refine lv_iconst (v := nI (0)) hx hb dX7_copyTasks_25 (by decide) ?_
  refine lv_bipush (v := nI (20)) hx hb dX7_copyTasks_26 (by decide) ?_
  refine xr_copy (zF L2) hx hb (by rw [hml]; exact hl.1.symm) hown ml49 nat stc iniS hK hP hD hS 5 1 0 rfl rfl rfl rfl (Nat.le_of_ble_eq_true rfl) (Nat.le_of_ble_eq_true rfl) (Nat.le_of_ble_eq_true rfl) (Nat.le_of_ble_eq_true rfl) (fun _ _ => rfl) dX7_copyTasks_28 (fun H locs hP hD hS => ?_)
  have hP : va_P D vwCl [(h, .inr (7, [.int (nI T2), .int (iZ E2), .int (iZ C), .ref a, .ref b, .ref c])), (a, .inl (ca 0, 20, .inl (zF L2))), (b, .inl (ca 0, 20, .inl (zF N))), (c, .inl (ca 0, 400, .inl (zG G))), (h2, .inr (7, [.int (nI T2), .int (iZ E2), .int (iZ C2), .ref a2, .ref b2, .ref c2])), (a2, .inl (ca 0, 20, .inl (zF L2))), (b2, .inl (ca 0, 20, .inl (zF N2))), (c2, .inl (ca 0, 400, .inl (zG G2)))] H := hP
  have hD : va_D A [(h, .inr (7, [.int (nI T2), .int (iZ E2), .int (iZ C), .ref a, .ref b, .ref c])), (a, .inl (ca 0, 20, .inl (zF L2))), (b, .inl (ca 0, 20, .inl (zF N))), (c, .inl (ca 0, 400, .inl (zG G))), (h2, .inr (7, [.int (nI T2), .int (iZ E2), .int (iZ C2), .ref a2, .ref b2, .ref c2])), (a2, .inl (ca 0, 20, .inl (zF L2))), (b2, .inl (ca 0, 20, .inl (zF N2))), (c2, .inl (ca 0, 400, .inl (zG G2)))] := hD
  refine lv_aload_n hx hb dX7_copyTasks_31 rfl (lv_at hl 1 rfl) ?_
  refine va_get (D := D) (ci := 7) (v := .ref b2) (C := RX7) (T := TX7) (N := 6) hx hb hts inX7 hown hK hP 4 rfl rfl 4 (by decide) f25 (fun _ h9 => h9) rfl dX7_copyTasks_32 ?_
  refine lv_iconst (v := nI (0)) hx hb dX7_copyTasks_35 (by decide) ?_
  refine lv_aload_n hx hb dX7_copyTasks_36 rfl (lv_at hl 0 rfl) ?_
  refine va_get (D := D) (ci := 7) (v := .ref b) (C := RX7) (T := TX7) (N := 6) hx hb hts inX7 hown hK hP 0 rfl rfl 4 (by decide) f25 (fun _ h9 => h9) rfl dX7_copyTasks_37 ?_
  refine lv_iconst (v := nI (0)) hx hb dX7_copyTasks_40 (by decide) ?_
  refine lv_bipush (v := nI (20)) hx hb dX7_copyTasks_41 (by decide) ?_
  refine xr_copy (zF N2) hx hb (by rw [hml]; exact hl.1.symm) hown ml49 nat stc iniS hK hP hD hS 6 2 0 rfl rfl rfl rfl (Nat.le_of_ble_eq_true rfl) (Nat.le_of_ble_eq_true rfl) (Nat.le_of_ble_eq_true rfl) (Nat.le_of_ble_eq_true rfl) (fun _ _ => rfl) dX7_copyTasks_43 (fun H locs hP hD hS => ?_)
  have hP : va_P D vwCl [(h, .inr (7, [.int (nI T2), .int (iZ E2), .int (iZ C), .ref a, .ref b, .ref c])), (a, .inl (ca 0, 20, .inl (zF L2))), (b, .inl (ca 0, 20, .inl (zF N2))), (c, .inl (ca 0, 400, .inl (zG G))), (h2, .inr (7, [.int (nI T2), .int (iZ E2), .int (iZ C2), .ref a2, .ref b2, .ref c2])), (a2, .inl (ca 0, 20, .inl (zF L2))), (b2, .inl (ca 0, 20, .inl (zF N2))), (c2, .inl (ca 0, 400, .inl (zG G2)))] H := hP
  have hD : va_D A [(h, .inr (7, [.int (nI T2), .int (iZ E2), .int (iZ C), .ref a, .ref b, .ref c])), (a, .inl (ca 0, 20, .inl (zF L2))), (b, .inl (ca 0, 20, .inl (zF N2))), (c, .inl (ca 0, 400, .inl (zG G))), (h2, .inr (7, [.int (nI T2), .int (iZ E2), .int (iZ C2), .ref a2, .ref b2, .ref c2])), (a2, .inl (ca 0, 20, .inl (zF L2))), (b2, .inl (ca 0, 20, .inl (zF N2))), (c2, .inl (ca 0, 400, .inl (zG G2)))] := hD
  refine lv_aload_n hx hb dX7_copyTasks_46 rfl (lv_at hl 1 rfl) ?_
  refine va_get (D := D) (ci := 7) (v := .ref c2) (C := RX7) (T := TX7) (N := 6) hx hb hts inX7 hown hK hP 4 rfl rfl 5 (by decide) f28 (fun _ h9 => h9) rfl dX7_copyTasks_47 ?_
  refine lv_iconst (v := nI (0)) hx hb dX7_copyTasks_50 (by decide) ?_
  refine lv_aload_n hx hb dX7_copyTasks_51 rfl (lv_at hl 0 rfl) ?_
  refine va_get (D := D) (ci := 7) (v := .ref c) (C := RX7) (T := TX7) (N := 6) hx hb hts inX7 hown hK hP 0 rfl rfl 5 (by decide) f28 (fun _ h9 => h9) rfl dX7_copyTasks_52 ?_
  refine lv_iconst (v := nI (0)) hx hb dX7_copyTasks_55 (by decide) ?_
  refine lv_sipush (v := nI (400)) hx hb dX7_copyTasks_56 (by decide) ?_
  refine xr_copy (zG G2) hx hb (by rw [hml]; exact hl.1.symm) hown ml49 nat stc iniS hK hP hD hS 7 3 0 rfl rfl rfl rfl (Nat.le_of_ble_eq_true rfl) (Nat.le_of_ble_eq_true rfl) (Nat.le_of_ble_eq_true rfl) (Nat.le_of_ble_eq_true rfl) (fun _ _ => rfl) dX7_copyTasks_59 (fun H locs hP hD hS => ?_)
  have hP : va_P D vwCl [(h, .inr (7, [.int (nI T2), .int (iZ E2), .int (iZ C), .ref a, .ref b, .ref c])), (a, .inl (ca 0, 20, .inl (zF L2))), (b, .inl (ca 0, 20, .inl (zF N2))), (c, .inl (ca 0, 400, .inl (zG G2))), (h2, .inr (7, [.int (nI T2), .int (iZ E2), .int (iZ C2), .ref a2, .ref b2, .ref c2])), (a2, .inl (ca 0, 20, .inl (zF L2))), (b2, .inl (ca 0, 20, .inl (zF N2))), (c2, .inl (ca 0, 400, .inl (zG G2)))] H := hP
  have hD : va_D A [(h, .inr (7, [.int (nI T2), .int (iZ E2), .int (iZ C), .ref a, .ref b, .ref c])), (a, .inl (ca 0, 20, .inl (zF L2))), (b, .inl (ca 0, 20, .inl (zF N2))), (c, .inl (ca 0, 400, .inl (zG G2))), (h2, .inr (7, [.int (nI T2), .int (iZ E2), .int (iZ C2), .ref a2, .ref b2, .ref c2])), (a2, .inl (ca 0, 20, .inl (zF L2))), (b2, .inl (ca 0, 20, .inl (zF N2))), (c2, .inl (ca 0, 400, .inl (zG G2)))] := hD
  rw [← hE]
  exact xe_v () hx hb hr hlocks hK hP hD hS trivial dX7_copyTasks_62
def rX7_copyAll : Room := { frames := 2, cells := 0, slots := 0, locals := 47 }
set_option maxHeartbeats 4000000 in
set_option maxRecDepth 100000 in
/-- copyAll(other) -/
theorem mX7_copyAll (l : Launch) (D : va_G) (ca : Nat → ClassId) (sz : Nat) (h : Nat) (a : Nat) (b : Nat) (c : Nat) (T : Nat) (E : Int) (C : Int) (L : Nat → Int) (N : Nat → Int) (G : Nat → Nat → Int) (h2 : Nat) (a2 : Nat) (b2 : Nat) (c2 : Nat) (T2 : Nat) (E2 : Int) (C2 : Int) (L2 : Nat → Int) (N2 : Nat → Int) (G2 : Nat → Nat → Int)  : MM l yX7_copyAll wsX7_copyAll rX7_copyAll D ca [.ref h, .ref h2] sz [(h, .inr (7, [.int (nI T), .int (iZ E), .int (iZ C), .ref a, .ref b, .ref c])), (a, .inl (ca 0, 20, .inl (zF L))), (b, .inl (ca 0, 20, .inl (zF N))), (c, .inl (ca 0, 400, .inl (zG G))), (h2, .inr (7, [.int (nI T2), .int (iZ E2), .int (iZ C2), .ref a2, .ref b2, .ref c2])), (a2, .inl (ca 0, 20, .inl (zF L2))), (b2, .inl (ca 0, 20, .inl (zF N2))), (c2, .inl (ca 0, 400, .inl (zG G2)))] (QV D ca (fun (u : Unit) => True) (fun _ => [(h, .inr (7, [.int (nI T2), .int (iZ E2), .int (iZ C2), .ref a, .ref b, .ref c])), (a, .inl (ca 0, 20, .inl (zF L2))), (b, .inl (ca 0, 20, .inl (zF N2))), (c, .inl (ca 0, 400, .inl (zG G2))), (h2, .inr (7, [.int (nI T2), .int (iZ E2), .int (iZ C2), .ref a2, .ref b2, .ref c2])), (a2, .inl (ca 0, 20, .inl (zF L2))), (b2, .inl (ca 0, 20, .inl (zF N2))), (c2, .inl (ca 0, 400, .inl (zG G2)))])) := by
  refine MM_of (cc := cX7_copyAll) (maxL := 2) (ret := none) (lv0 := [(0, .ref h), (1, .ref h2)]) RX7 (by decide) rfl rfl (Nat.le_of_ble_eq_true rfl) rfl ?_
  intro pG eV s mI args below meth cO hx hb hr hml hts hown hlocks hnm A hA H locs hsz hP hK hD hS Q hE ls hl
  have f18 := hts (.fieldLink RX7 18 "SlackPlan$State" "crews" "I") (List.mem_of_getElem? (i := 1) rfl)
  have inX7 : ∀ w ∈ u_ws RX7 TX7 6, w ∈ wsX7_copyAll := in_r _ [16, 17, 18, 19, 20, 21] rfl
  refine lv_aload_n hx hb dX7_copyAll_0 rfl (lv_at hl 0 rfl) ?_
  refine lv_aload_n hx hb dX7_copyAll_1 rfl (lv_at hl 1 rfl) ?_
  refine xk_v [] (fun u => [(h, .inr (7, [.int (nI T2), .int (iZ E2), .int (iZ C), .ref a, .ref b, .ref c])), (a, .inl (ca 0, 20, .inl (zF L2))), (b, .inl (ca 0, 20, .inl (zF N2))), (c, .inl (ca 0, 400, .inl (zG G2))), (h2, .inr (7, [.int (nI T2), .int (iZ E2), .int (iZ C2), .ref a2, .ref b2, .ref c2])), (a2, .inl (ca 0, 20, .inl (zF L2))), (b2, .inl (ca 0, 20, .inl (zF N2))), (c2, .inl (ca 0, 400, .inl (zG G2)))]) (xk_V (As := [.ref h2]) (rest := []) ⟨hx, hb, hml, hown, hts⟩ (mX7_copyTasks l D ca H.size h a b c T E C L N G h2 a2 b2 c2 T2 E2 C2 L2 N2 G2 ) (cwV 1 hts gX7_copyAll_X7_copyTasks rfl rfl rfl (by decide +kernel) ⟨Nat.le_of_ble_eq_true rfl, Nat.le_of_ble_eq_true rfl⟩) hK hP hD (va_recv (q := (RX7, TX7, 6)) hK hP (ci := 7) (q0 := 0) rfl rfl) [0, 1, 2, 3, 4, 5, 6, 7] rfl rfl rfl hl.1 rfl (Nat.le_of_ble_eq_true rfl) dX7_copyAll_2 ⟨Nat.le_of_ble_eq_true rfl, Nat.le_of_ble_eq_true rfl⟩) hP hD hS hA [0, 1, 2, 3, 4, 5, 6, 7] [] [0, 1, 2, 3, 4, 5, 6, 7] rfl rfl rfl rfl (fun _ => rfl) rfl (fun u2 H locs hw2 hP hD hS => ?_)
  have hw2 : True := hw2
  have hP : va_P D vwCl [(h, .inr (7, [.int (nI T2), .int (iZ E2), .int (iZ C), .ref a, .ref b, .ref c])), (a, .inl (ca 0, 20, .inl (zF L2))), (b, .inl (ca 0, 20, .inl (zF N2))), (c, .inl (ca 0, 400, .inl (zG G2))), (h2, .inr (7, [.int (nI T2), .int (iZ E2), .int (iZ C2), .ref a2, .ref b2, .ref c2])), (a2, .inl (ca 0, 20, .inl (zF L2))), (b2, .inl (ca 0, 20, .inl (zF N2))), (c2, .inl (ca 0, 400, .inl (zG G2)))] H := hP
  have hD : va_D A [(h, .inr (7, [.int (nI T2), .int (iZ E2), .int (iZ C), .ref a, .ref b, .ref c])), (a, .inl (ca 0, 20, .inl (zF L2))), (b, .inl (ca 0, 20, .inl (zF N2))), (c, .inl (ca 0, 400, .inl (zG G2))), (h2, .inr (7, [.int (nI T2), .int (iZ E2), .int (iZ C2), .ref a2, .ref b2, .ref c2])), (a2, .inl (ca 0, 20, .inl (zF L2))), (b2, .inl (ca 0, 20, .inl (zF N2))), (c2, .inl (ca 0, 400, .inl (zG G2)))] := hD
  refine lv_aload_n hx hb dX7_copyAll_5 rfl (lv_at hl 0 rfl) ?_
  refine lv_aload_n hx hb dX7_copyAll_6 rfl (lv_at hl 1 rfl) ?_
  refine va_get (D := D) (ci := 7) (v := .int (iZ C2)) (C := RX7) (T := TX7) (N := 6) hx hb hts inX7 hown hK hP 4 rfl rfl 2 (by decide) f18 (fun _ h9 => h9) rfl dX7_copyAll_7 ?_
  refine va_put (D := D) (ci := 7) (v := .int (iZ C2)) (ty := .int) (C := RX7) (T := TX7) (N := 6) hx hb hts inX7 tyX7 tyX7_ok nmX7 hown hK hP hD hS 0 rfl rfl 2 (by decide) f18 (fun _ h9 => h9) rfl (by decide +kernel) rfl rfl (Nat.le_of_ble_eq_true rfl) dX7_copyAll_10 (fun H locs hP hD hS => ?_)
  have hP : va_P D vwCl [(h, .inr (7, [.int (nI T2), .int (iZ E2), .int (iZ C2), .ref a, .ref b, .ref c])), (a, .inl (ca 0, 20, .inl (zF L2))), (b, .inl (ca 0, 20, .inl (zF N2))), (c, .inl (ca 0, 400, .inl (zG G2))), (h2, .inr (7, [.int (nI T2), .int (iZ E2), .int (iZ C2), .ref a2, .ref b2, .ref c2])), (a2, .inl (ca 0, 20, .inl (zF L2))), (b2, .inl (ca 0, 20, .inl (zF N2))), (c2, .inl (ca 0, 400, .inl (zG G2)))] H := hP
  have hD : va_D A [(h, .inr (7, [.int (nI T2), .int (iZ E2), .int (iZ C2), .ref a, .ref b, .ref c])), (a, .inl (ca 0, 20, .inl (zF L2))), (b, .inl (ca 0, 20, .inl (zF N2))), (c, .inl (ca 0, 400, .inl (zG G2))), (h2, .inr (7, [.int (nI T2), .int (iZ E2), .int (iZ C2), .ref a2, .ref b2, .ref c2])), (a2, .inl (ca 0, 20, .inl (zF L2))), (b2, .inl (ca 0, 20, .inl (zF N2))), (c2, .inl (ca 0, 400, .inl (zG G2)))] := hD
  rw [← hE]
  exact xe_v () hx hb hr hlocks hK hP hD hS trivial dX7_copyAll_13
def rX7_add : Room := { frames := 0, cells := 0, slots := 0, locals := 0 }
set_option maxHeartbeats 4000000 in
set_option maxRecDepth 100000 in
/-- add(length, need) -/
theorem mX7_add (l : Launch) (D : va_G) (ca : Nat → ClassId) (sz : Nat) (h : Nat) (a : Nat) (b : Nat) (c : Nat) (T : Nat) (E : Int) (C : Int) (L : Nat → Int) (N : Nat → Int) (x : Int) (y : Int) (hT : T < 20) : MM l yX7_add wsX7_add rX7_add D ca [.ref h, .int (iZ x), .int (iZ y)] sz [(h, .inr (7, [.int (nI T), .int (iZ E), .int (iZ C), .ref a, .ref b, .ref c])), (a, .inl (ca 0, 20, .inl (zF L))), (b, .inl (ca 0, 20, .inl (zF N)))] (QV D ca (fun (u : Unit) => True) (fun _ => [(h, .inr (7, [.int (nI (T + 1)), .int (iZ E), .int (iZ C), .ref a, .ref b, .ref c])), (a, .inl (ca 0, 20, .inl (zF (upZ L T x)))), (b, .inl (ca 0, 20, .inl (zF (upZ N T y))))])) := by
  refine MM_of (cc := cX7_add) (maxL := 3) (ret := none) (lv0 := [(0, .ref h), (1, .int (iZ x)), (2, .int (iZ y))]) RX7 (by decide) rfl rfl (Nat.le_of_ble_eq_true rfl) rfl ?_
  intro pG eV s mI args below meth cO hx hb hr hml hts hown hlocks hnm A hA H locs hsz hP hK hD hS Q hE ls hl
  have f9 := hts (.fieldLink RX7 9 "SlackPlan$State" "tasks" "I") (List.mem_of_getElem? (i := 1) rfl)
  have inX7 : ∀ w ∈ u_ws RX7 TX7 6, w ∈ wsX7_add := in_r _ [4, 5, 6, 7, 8, 9] rfl
  have f21 := hts (.fieldLink RX7 21 "SlackPlan$State" "lengths" "[I") (List.mem_of_getElem? (i := 2) rfl)
  have f25 := hts (.fieldLink RX7 25 "SlackPlan$State" "needs" "[I") (List.mem_of_getElem? (i := 3) rfl)
  refine lv_aload_n hx hb dX7_add_0 rfl (lv_at hl 0 rfl) ?_
  refine va_get (D := D) (ci := 7) (v := .int (nI T)) (C := RX7) (T := TX7) (N := 6) hx hb hts inX7 hown hK hP 0 rfl rfl 0 (by decide) f9 (fun _ h9 => h9) rfl dX7_add_1 ?_
  refine lv_bipush (v := nI (20)) hx hb dX7_add_4 (by decide) ?_
  refine lv_icmp_ge (tgt := 39) hx hb dX7_add_6 (by decide) (fun h6 => ?_) (fun h6 => ?_)
  · skip
    have h6 := (cL (nI_toInt (by omega)) (nI_toInt (by omega))).mp h6
    exact absurd h6 (by omega)
  · skip
    have h6 := (not_congr (cL (nI_toInt (by omega)) (nI_toInt (by omega)))).mp h6
    refine lv_aload_n hx hb dX7_add_9 rfl (lv_at hl 0 rfl) ?_
    refine va_get (D := D) (ci := 7) (v := .ref a) (C := RX7) (T := TX7) (N := 6) hx hb hts inX7 hown hK hP 0 rfl rfl 3 (by decide) f21 (fun _ h9 => h9) rfl dX7_add_10 ?_
    refine lv_aload_n hx hb dX7_add_13 rfl (lv_at hl 0 rfl) ?_
    refine va_get (D := D) (ci := 7) (v := .int (nI T)) (C := RX7) (T := TX7) (N := 6) hx hb hts inX7 hown hK hP 0 rfl rfl 0 (by decide) f9 (fun _ h9 => h9) rfl dX7_add_14 ?_
    refine lv_iload_n hx hb dX7_add_17 rfl (lv_at hl 1 rfl) ?_
    refine xr_iast hx hb hK hP hD hS 1 0 rfl rfl (by omega) (Nat.le_of_ble_eq_true rfl) (zF (upZ L T x)) (fun _ _ => zF_up _ _ _ _) dX7_add_18 (fun H locs hP hD hS => ?_)
    have hP : va_P D vwCl [(h, .inr (7, [.int (nI T), .int (iZ E), .int (iZ C), .ref a, .ref b, .ref c])), (a, .inl (ca 0, 20, .inl (zF (upZ L T x)))), (b, .inl (ca 0, 20, .inl (zF N)))] H := hP
    have hD : va_D A [(h, .inr (7, [.int (nI T), .int (iZ E), .int (iZ C), .ref a, .ref b, .ref c])), (a, .inl (ca 0, 20, .inl (zF (upZ L T x)))), (b, .inl (ca 0, 20, .inl (zF N)))] := hD
    refine lv_aload_n hx hb dX7_add_19 rfl (lv_at hl 0 rfl) ?_
    refine va_get (D := D) (ci := 7) (v := .ref b) (C := RX7) (T := TX7) (N := 6) hx hb hts inX7 hown hK hP 0 rfl rfl 4 (by decide) f25 (fun _ h9 => h9) rfl dX7_add_20 ?_
    refine lv_aload_n hx hb dX7_add_23 rfl (lv_at hl 0 rfl) ?_
    refine va_get (D := D) (ci := 7) (v := .int (nI T)) (C := RX7) (T := TX7) (N := 6) hx hb hts inX7 hown hK hP 0 rfl rfl 0 (by decide) f9 (fun _ h9 => h9) rfl dX7_add_24 ?_
    refine lv_iload_n hx hb dX7_add_27 rfl (lv_at hl 2 rfl) ?_
    refine xr_iast hx hb hK hP hD hS 2 0 rfl rfl (by omega) (Nat.le_of_ble_eq_true rfl) (zF (upZ N T y)) (fun _ _ => zF_up _ _ _ _) dX7_add_28 (fun H locs hP hD hS => ?_)
    have hP : va_P D vwCl [(h, .inr (7, [.int (nI T), .int (iZ E), .int (iZ C), .ref a, .ref b, .ref c])), (a, .inl (ca 0, 20, .inl (zF (upZ L T x)))), (b, .inl (ca 0, 20, .inl (zF (upZ N T y))))] H := hP
    have hD : va_D A [(h, .inr (7, [.int (nI T), .int (iZ E), .int (iZ C), .ref a, .ref b, .ref c])), (a, .inl (ca 0, 20, .inl (zF (upZ L T x)))), (b, .inl (ca 0, 20, .inl (zF (upZ N T y))))] := hD
    refine lv_aload_n hx hb dX7_add_29 rfl (lv_at hl 0 rfl) ?_
    refine lv_dup hx hb dX7_add_30 rfl ?_
    refine va_get (D := D) (ci := 7) (v := .int (nI T)) (C := RX7) (T := TX7) (N := 6) hx hb hts inX7 hown hK hP 0 rfl rfl 0 (by decide) f9 (fun _ h9 => h9) rfl dX7_add_31 ?_
    refine lv_iconst (v := nI (1)) hx hb dX7_add_34 (by decide) ?_
    refine xr_iadd hx hb dX7_add_35 ?_
    refine va_put (D := D) (ci := 7) (v := .int (nI (T + 1))) (ty := .int) (C := RX7) (T := TX7) (N := 6) hx hb hts inX7 tyX7 tyX7_ok nmX7 hown hK hP hD hS 0 rfl rfl 0 (by decide) f9 (fun _ h9 => h9) rfl (by decide +kernel) rfl rfl (Nat.le_of_ble_eq_true rfl) dX7_add_36 (fun H locs hP hD hS => ?_)
    have hP : va_P D vwCl [(h, .inr (7, [.int (nI (T + 1)), .int (iZ E), .int (iZ C), .ref a, .ref b, .ref c])), (a, .inl (ca 0, 20, .inl (zF (upZ L T x)))), (b, .inl (ca 0, 20, .inl (zF (upZ N T y))))] H := hP
    have hD : va_D A [(h, .inr (7, [.int (nI (T + 1)), .int (iZ E), .int (iZ C), .ref a, .ref b, .ref c])), (a, .inl (ca 0, 20, .inl (zF (upZ L T x)))), (b, .inl (ca 0, 20, .inl (zF (upZ N T y))))] := hD
    rw [← hE]
    exact xe_v () hx hb hr hlocks hK hP hD hS trivial dX7_add_39
def rX7_unlink : Room := { frames := 2, cells := 0, slots := 0, locals := 43 }
set_option maxHeartbeats 4000000 in
set_option maxRecDepth 100000 in
/-- unlink(i, j) -/
theorem mX7_unlink (l : Launch) (D : va_G) (ca : Nat → ClassId) (sz : Nat) (h : Nat) (a : Nat) (b : Nat) (c : Nat) (T : Nat) (E : Int) (C : Int) (G : Nat → Nat → Int) (i : Nat) (j : Nat) (hT : T ≤ 20) (hi : i < T) (hj : j < T) (hG : GOK G) : MM l yX7_unlink wsX7_unlink rX7_unlink D ca [.ref h, .int (nI i), .int (nI j)] sz [(h, .inr (7, [.int (nI T), .int (iZ E), .int (iZ C), .ref a, .ref b, .ref c])), (c, .inl (ca 0, 400, .inl (zG G)))] (QV D ca (fun (u : Int × (Nat → Nat → Int)) => u.1 = E - isD G i j ∧ u.2 = upG G i j (-1)) (fun u => [(h, .inr (7, [.int (nI T), .int (iZ u.1), .int (iZ C), .ref a, .ref b, .ref c])), (c, .inl (ca 0, 400, .inl (zG u.2)))])) := by
  refine MM_of (cc := cX7_unlink) (maxL := 3) (ret := none) (lv0 := [(0, .ref h), (1, .int (nI i)), (2, .int (nI j))]) RX7 (by decide) rfl rfl (Nat.le_of_ble_eq_true rfl) rfl ?_
  intro pG eV s mI args below meth cO hx hb hr hml hts hown hlocks hnm A hA H locs hsz hP hK hD hS Q hE ls hl
  have f15 := hts (.fieldLink RX7 15 "SlackPlan$State" "dependencies" "I") (List.mem_of_getElem? (i := 1) rfl)
  have inX7 : ∀ w ∈ u_ws RX7 TX7 6, w ∈ wsX7_unlink := in_r _ [13, 14, 15, 16, 17, 18] rfl
  have f28 := hts (.fieldLink RX7 28 "SlackPlan$State" "lags" "[I") (List.mem_of_getElem? (i := 2) rfl)
  have hb1 := hG i j (by omega) (by omega)
  refine lv_aload_n hx hb dX7_unlink_0 rfl (lv_at hl 0 rfl) ?_
  refine lv_iload_n hx hb dX7_unlink_1 rfl (lv_at hl 1 rfl) ?_
  refine lv_iload_n hx hb dX7_unlink_2 rfl (lv_at hl 2 rfl) ?_
  refine xk_pi (xk_V (As := [.int (nI i), .int (nI j)]) (rest := []) ⟨hx, hb, hml, hown, hts⟩ (mX7_lag l D ca H.size h a b c T E C G i j (by omega) (by omega) (by omega)) (cwV 2 hts gX7_unlink_X7_lag rfl rfl rfl (by decide +kernel) ⟨Nat.le_of_ble_eq_true rfl, Nat.le_of_ble_eq_true rfl⟩) hK hP hD (va_recv (q := (RX7, TX7, 6)) hK hP (ci := 7) (q0 := 0) rfl rfl) [0, 1] rfl rfl rfl hl.1 rfl (Nat.le_of_ble_eq_true rfl) dX7_unlink_3 ⟨Nat.le_of_ble_eq_true rfl, Nat.le_of_ble_eq_true rfl⟩) hP hD hS hA [0, 1] rfl ⟨rfl, rfl⟩ (fun r3 H locs hw3 hP hS => ?_)
  have hw3 : r3 = iZ (G i j) := hw3
  subst hw3
  refine lv_iconst (v := iZ (-1)) hx hb dX7_unlink_6 (by decide) ?_
  refine lv_icmp_eq (tgt := 32) hx hb dX7_unlink_7 (by decide) (fun h7 => ?_) (fun h7 => ?_)
  · skip
    have h7 := (cE (iZ_toInt (by omega) (by omega)) (iZ_toInt (by omega) (by omega))).mp h7
    rw [← hE]
    exact xe_v (E, G) hx hb hr hlocks hK hP hD hS (⟨by rw [isD, if_pos h7]; omega, (upG_self h7).symm⟩) dX7_unlink_32
  · skip
    have h7 := (not_congr (cE (iZ_toInt (by omega) (by omega)) (iZ_toInt (by omega) (by omega)))).mp h7
    refine lv_aload_n hx hb dX7_unlink_10 rfl (lv_at hl 0 rfl) ?_
    refine lv_dup hx hb dX7_unlink_11 rfl ?_
    refine va_get (D := D) (ci := 7) (v := .int (iZ E)) (C := RX7) (T := TX7) (N := 6) hx hb hts inX7 hown hK hP 0 rfl rfl 1 (by decide) f15 (fun _ h9 => h9) rfl dX7_unlink_12 ?_
    refine lv_iconst (v := nI (1)) hx hb dX7_unlink_15 (by decide) ?_
    refine xr_isub_zn hx hb dX7_unlink_16 ?_
    refine va_put (D := D) (ci := 7) (v := .int (iZ (E - 1))) (ty := .int) (C := RX7) (T := TX7) (N := 6) hx hb hts inX7 tyX7 tyX7_ok nmX7 hown hK hP hD hS 0 rfl rfl 1 (by decide) f15 (fun _ h9 => h9) rfl (by decide +kernel) rfl rfl (Nat.le_of_ble_eq_true rfl) dX7_unlink_17 (fun H locs hP hD hS => ?_)
    have hP : va_P D vwCl [(h, .inr (7, [.int (nI T), .int (iZ (E - 1)), .int (iZ C), .ref a, .ref b, .ref c])), (c, .inl (ca 0, 400, .inl (zG G)))] H := hP
    have hD : va_D A [(h, .inr (7, [.int (nI T), .int (iZ (E - 1)), .int (iZ C), .ref a, .ref b, .ref c])), (c, .inl (ca 0, 400, .inl (zG G)))] := hD
    refine lv_aload_n hx hb dX7_unlink_20 rfl (lv_at hl 0 rfl) ?_
    refine va_get (D := D) (ci := 7) (v := .ref c) (C := RX7) (T := TX7) (N := 6) hx hb hts inX7 hown hK hP 0 rfl rfl 5 (by decide) f28 (fun _ h9 => h9) rfl dX7_unlink_21 ?_
    refine lv_iload_n hx hb dX7_unlink_24 rfl (lv_at hl 1 rfl) ?_
    refine lv_bipush (v := nI (20)) hx hb dX7_unlink_25 (by decide) ?_
    refine xr_imul hx hb dX7_unlink_27 ?_
    refine lv_iload_n hx hb dX7_unlink_28 rfl (lv_at hl 2 rfl) ?_
    refine xr_iadd hx hb dX7_unlink_29 ?_
    refine lv_iconst (v := iZ (-1)) hx hb dX7_unlink_30 (by decide) ?_
    refine xr_iast hx hb hK hP hD hS 1 0 rfl rfl (by omega) (Nat.le_of_ble_eq_true rfl) (zG (upG G i j (-1))) (fun j _ => zG_up _ (by omega) _ j) dX7_unlink_31 (fun H locs hP hD hS => ?_)
    have hP : va_P D vwCl [(h, .inr (7, [.int (nI T), .int (iZ (E - 1)), .int (iZ C), .ref a, .ref b, .ref c])), (c, .inl (ca 0, 400, .inl (zG (upG G i j (-1)))))] H := hP
    have hD : va_D A [(h, .inr (7, [.int (nI T), .int (iZ (E - 1)), .int (iZ C), .ref a, .ref b, .ref c])), (c, .inl (ca 0, 400, .inl (zG (upG G i j (-1)))))] := hD
    rw [← hE]
    exact xe_v (E - 1, upG G i j (-1)) hx hb hr hlocks hK hP hD hS (⟨by rw [isD, if_neg h7] <;> rfl, rfl⟩) dX7_unlink_32
def rX7_link : Room := { frames := 2, cells := 0, slots := 0, locals := 43 }
set_option maxHeartbeats 4000000 in
set_option maxRecDepth 100000 in
/-- link(i, j, lag) -/
theorem mX7_link (l : Launch) (D : va_G) (ca : Nat → ClassId) (sz : Nat) (h : Nat) (a : Nat) (b : Nat) (c : Nat) (T : Nat) (E : Int) (C : Int) (G : Nat → Nat → Int) (i : Nat) (j : Nat) (x : Int) (hT : T ≤ 20) (hi : i < T) (hj : j < T) (hG : GOK G) : MM l yX7_link wsX7_link rX7_link D ca [.ref h, .int (nI i), .int (nI j), .int (iZ x)] sz [(h, .inr (7, [.int (nI T), .int (iZ E), .int (iZ C), .ref a, .ref b, .ref c])), (c, .inl (ca 0, 400, .inl (zG G)))] (QV D ca (fun (u : Int) => u = E + (1 - isD G i j)) (fun u => [(h, .inr (7, [.int (nI T), .int (iZ u), .int (iZ C), .ref a, .ref b, .ref c])), (c, .inl (ca 0, 400, .inl (zG (upG G i j x))))])) := by
  refine MM_of (cc := cX7_link) (maxL := 4) (ret := none) (lv0 := [(0, .ref h), (1, .int (nI i)), (2, .int (nI j)), (3, .int (iZ x))]) RX7 (by decide) rfl rfl (Nat.le_of_ble_eq_true rfl) rfl ?_
  intro pG eV s mI args below meth cO hx hb hr hml hts hown hlocks hnm A hA H locs hsz hP hK hD hS Q hE ls hl
  have f28 := hts (.fieldLink RX7 28 "SlackPlan$State" "lags" "[I") (List.mem_of_getElem? (i := 2) rfl)
  have inX7 : ∀ w ∈ u_ws RX7 TX7 6, w ∈ wsX7_link := in_r _ [13, 14, 15, 16, 17, 18] rfl
  have f15 := hts (.fieldLink RX7 15 "SlackPlan$State" "dependencies" "I") (List.mem_of_getElem? (i := 1) rfl)
  refine lv_aload_n hx hb dX7_link_0 rfl (lv_at hl 0 rfl) ?_
  refine lv_iload_n hx hb dX7_link_1 rfl (lv_at hl 1 rfl) ?_
  refine xk_pi (xk_V (As := [.int (nI i)]) (rest := []) ⟨hx, hb, hml, hown, hts⟩ (mX7_has l D ca H.size h a b c T E C (nI (i)) (by omega)) (cwV 1 hts gX7_link_X7_has rfl rfl rfl (by decide +kernel) ⟨Nat.le_of_ble_eq_true rfl, Nat.le_of_ble_eq_true rfl⟩) hK hP hD (va_recv (q := (RX7, TX7, 6)) hK hP (ci := 7) (q0 := 0) rfl rfl) [0] rfl rfl rfl hl.1 rfl (Nat.le_of_ble_eq_true rfl) dX7_link_2 ⟨Nat.le_of_ble_eq_true rfl, Nat.le_of_ble_eq_true rfl⟩) hP hD hS hA [0] rfl ⟨rfl, rfl⟩ (fun r2 H locs hw2 hP hS => ?_)
  have hw2 : r2 = bI (hasB T (nI (i))) := hw2
  subst hw2
  refine lv_if_eq (tgt := 48) hx hb dX7_link_5 (by decide) (fun h5 => ?_) (fun h5 => ?_)
  · skip
    have h5 := bI_0.mp h5
    exact absurd (h5.symm.trans (hasB_t (by omega) hT)) (by decide)
  · skip
    have h5 := bI_n0.mp h5
    refine lv_aload_n hx hb dX7_link_8 rfl (lv_at hl 0 rfl) ?_
    refine lv_iload_n hx hb dX7_link_9 rfl (lv_at hl 2 rfl) ?_
    refine xk_pi (xk_V (As := [.int (nI j)]) (rest := []) ⟨hx, hb, hml, hown, hts⟩ (mX7_has l D ca H.size h a b c T E C (nI (j)) (by omega)) (cwV 1 hts gX7_link_X7_has rfl rfl rfl (by decide +kernel) ⟨Nat.le_of_ble_eq_true rfl, Nat.le_of_ble_eq_true rfl⟩) hK hP hD (va_recv (q := (RX7, TX7, 6)) hK hP (ci := 7) (q0 := 0) rfl rfl) [0] rfl rfl rfl hl.1 rfl (Nat.le_of_ble_eq_true rfl) dX7_link_10 ⟨Nat.le_of_ble_eq_true rfl, Nat.le_of_ble_eq_true rfl⟩) hP hD hS hA [0] rfl ⟨rfl, rfl⟩ (fun r10 H locs hw10 hP hS => ?_)
    have hw10 : r10 = bI (hasB T (nI (j))) := hw10
    subst hw10
    refine lv_if_eq (tgt := 48) hx hb dX7_link_13 (by decide) (fun h13 => ?_) (fun h13 => ?_)
    · skip
      have h13 := bI_0.mp h13
      exact absurd (h13.symm.trans (hasB_t (by omega) hT)) (by decide)
    · skip
      have h13 := bI_n0.mp h13
      have hb1 := hG i j (by omega) (by omega)
      refine lv_aload_n hx hb dX7_link_16 rfl (lv_at hl 0 rfl) ?_
      refine lv_iload_n hx hb dX7_link_17 rfl (lv_at hl 1 rfl) ?_
      refine lv_iload_n hx hb dX7_link_18 rfl (lv_at hl 2 rfl) ?_
      refine xk_pi (xk_V (As := [.int (nI i), .int (nI j)]) (rest := []) ⟨hx, hb, hml, hown, hts⟩ (mX7_lag l D ca H.size h a b c T E C G i j (by omega) (by omega) (by omega)) (cwV 2 hts gX7_link_X7_lag rfl rfl rfl (by decide +kernel) ⟨Nat.le_of_ble_eq_true rfl, Nat.le_of_ble_eq_true rfl⟩) hK hP hD (va_recv (q := (RX7, TX7, 6)) hK hP (ci := 7) (q0 := 0) rfl rfl) [0, 1] rfl rfl rfl hl.1 rfl (Nat.le_of_ble_eq_true rfl) dX7_link_19 ⟨Nat.le_of_ble_eq_true rfl, Nat.le_of_ble_eq_true rfl⟩) hP hD hS hA [0, 1] rfl ⟨rfl, rfl⟩ (fun r19 H locs hw19 hP hS => ?_)
      have hw19 : r19 = iZ (G i j) := hw19
      subst hw19
      refine lv_iconst (v := iZ (-1)) hx hb dX7_link_22 (by decide) ?_
      refine lv_icmp_ne (tgt := 36) hx hb dX7_link_23 (by decide) (fun h23 => ?_) (fun h23 => ?_)
      · skip
        have h23 := (not_congr (cE (iZ_toInt (by omega) (by omega)) (iZ_toInt (by omega) (by omega)))).mp h23
        refine lv_aload_n hx hb dX7_link_36 rfl (lv_at hl 0 rfl) ?_
        refine va_get (D := D) (ci := 7) (v := .ref c) (C := RX7) (T := TX7) (N := 6) hx hb hts inX7 hown hK hP 0 rfl rfl 5 (by decide) f28 (fun _ h9 => h9) rfl dX7_link_37 ?_
        refine lv_iload_n hx hb dX7_link_40 rfl (lv_at hl 1 rfl) ?_
        refine lv_bipush (v := nI (20)) hx hb dX7_link_41 (by decide) ?_
        refine xr_imul hx hb dX7_link_43 ?_
        refine lv_iload_n hx hb dX7_link_44 rfl (lv_at hl 2 rfl) ?_
        refine xr_iadd hx hb dX7_link_45 ?_
        refine lv_iload_n hx hb dX7_link_46 rfl (lv_at hl 3 rfl) ?_
        refine xr_iast hx hb hK hP hD hS 1 0 rfl rfl (by omega) (Nat.le_of_ble_eq_true rfl) (zG (upG G i j x)) (fun j _ => zG_up _ (by omega) _ j) dX7_link_47 (fun H locs hP hD hS => ?_)
        have hP : va_P D vwCl [(h, .inr (7, [.int (nI T), .int (iZ E), .int (iZ C), .ref a, .ref b, .ref c])), (c, .inl (ca 0, 400, .inl (zG (upG G i j x))))] H := hP
        have hD : va_D A [(h, .inr (7, [.int (nI T), .int (iZ E), .int (iZ C), .ref a, .ref b, .ref c])), (c, .inl (ca 0, 400, .inl (zG (upG G i j x))))] := hD
        rw [← hE]
        exact xe_v (E) hx hb hr hlocks hK hP hD hS (by rw [isD, if_neg h23]; omega) dX7_link_48
      · skip
        have h23 := (cE (iZ_toInt (by omega) (by omega)) (iZ_toInt (by omega) (by omega))).mp h23
        refine lv_aload_n hx hb dX7_link_26 rfl (lv_at hl 0 rfl) ?_
        refine lv_dup hx hb dX7_link_27 rfl ?_
        refine va_get (D := D) (ci := 7) (v := .int (iZ E)) (C := RX7) (T := TX7) (N := 6) hx hb hts inX7 hown hK hP 0 rfl rfl 1 (by decide) f15 (fun _ h9 => h9) rfl dX7_link_28 ?_
        refine lv_iconst (v := nI (1)) hx hb dX7_link_31 (by decide) ?_
        refine xr_iadd_zn hx hb dX7_link_32 ?_
        refine va_put (D := D) (ci := 7) (v := .int (iZ (E + 1))) (ty := .int) (C := RX7) (T := TX7) (N := 6) hx hb hts inX7 tyX7 tyX7_ok nmX7 hown hK hP hD hS 0 rfl rfl 1 (by decide) f15 (fun _ h9 => h9) rfl (by decide +kernel) rfl rfl (Nat.le_of_ble_eq_true rfl) dX7_link_33 (fun H locs hP hD hS => ?_)
        have hP : va_P D vwCl [(h, .inr (7, [.int (nI T), .int (iZ (E + 1)), .int (iZ C), .ref a, .ref b, .ref c])), (c, .inl (ca 0, 400, .inl (zG G)))] H := hP
        have hD : va_D A [(h, .inr (7, [.int (nI T), .int (iZ (E + 1)), .int (iZ C), .ref a, .ref b, .ref c])), (c, .inl (ca 0, 400, .inl (zG G)))] := hD
        refine lv_aload_n hx hb dX7_link_36 rfl (lv_at hl 0 rfl) ?_
        refine va_get (D := D) (ci := 7) (v := .ref c) (C := RX7) (T := TX7) (N := 6) hx hb hts inX7 hown hK hP 0 rfl rfl 5 (by decide) f28 (fun _ h9 => h9) rfl dX7_link_37 ?_
        refine lv_iload_n hx hb dX7_link_40 rfl (lv_at hl 1 rfl) ?_
        refine lv_bipush (v := nI (20)) hx hb dX7_link_41 (by decide) ?_
        refine xr_imul hx hb dX7_link_43 ?_
        refine lv_iload_n hx hb dX7_link_44 rfl (lv_at hl 2 rfl) ?_
        refine xr_iadd hx hb dX7_link_45 ?_
        refine lv_iload_n hx hb dX7_link_46 rfl (lv_at hl 3 rfl) ?_
        refine xr_iast hx hb hK hP hD hS 1 0 rfl rfl (by omega) (Nat.le_of_ble_eq_true rfl) (zG (upG G i j x)) (fun j _ => zG_up _ (by omega) _ j) dX7_link_47 (fun H locs hP hD hS => ?_)
        have hP : va_P D vwCl [(h, .inr (7, [.int (nI T), .int (iZ (E + 1)), .int (iZ C), .ref a, .ref b, .ref c])), (c, .inl (ca 0, 400, .inl (zG (upG G i j x))))] H := hP
        have hD : va_D A [(h, .inr (7, [.int (nI T), .int (iZ (E + 1)), .int (iZ C), .ref a, .ref b, .ref c])), (c, .inl (ca 0, 400, .inl (zG (upG G i j x))))] := hD
        rw [← hE]
        exact xe_v (E + 1) hx hb hr hlocks hK hP hD hS (by rw [isD, if_pos h23]; omega) dX7_link_48

