def rX6_leastStart : Room := { frames := 0, cells := 0, slots := 0, locals := 0 }
set_option maxHeartbeats 4000000 in
set_option maxRecDepth 100000 in
/-- leastStart(from, days, others) -/
theorem mX6_leastStart (l : Launch) (D : va_G) (ca : Nat → ClassId) (sz : Nat) (sc : Nat) (s1 : Nat) (s2 : Nat) (s3 : Nat) (ln : Int) (wk : Nat → Int) (fr : Nat) (dd : Int) (ot : Int) (M : Nat) (hdd : 0 ≤ dd ∧ dd ≤ 30) (hfr : fr ≤ M ∧ M ≤ 900) (hM : ∀ x, M ≤ x → x < 1000 → wk x ≤ ot) (hwk : ∀ x, x < 1000 → 0 ≤ wk x ∧ wk x ≤ 100) (hot : -1000 ≤ ot ∧ ot ≤ 1000) : MM l yX6_leastStart wsX6_leastStart rX6_leastStart D ca [.ref sc, .int (nI fr), .int (iZ dd), .int (iZ ot)] sz [(sc, .inr (6, [.int (iZ ln), .ref s1, .ref s2, .ref s3])), (s2, .inl (ca 0, 1000, .inl (zF wk)))] (QI D ca (fun (r : Int32) (u : Nat) => r = nI u ∧ FDW wk ot dd.toNat fr u ∧ u ≤ M) (fun u => [(sc, .inr (6, [.int (iZ ln), .ref s1, .ref s2, .ref s3])), (s2, .inl (ca 0, 1000, .inl (zF wk)))])) := by
  refine MM_of (cc := cX6_leastStart) (maxL := 6) (ret := (some .int)) (lv0 := [(0, .ref sc), (1, .int (nI fr)), (2, .int (iZ dd)), (3, .int (iZ ot))]) RX6 (by decide) rfl rfl (Nat.le_of_ble_eq_true rfl) rfl ?_
  intro pG eV s mI args below meth cO hx hb hr hml hts hown hlocks hnm A hA H locs hsz hP hK hD hS Q hE ls hl
  have f19 := hts (.fieldLink RX6 19 "SlackPlan$Schedule" "working" "[I") (List.mem_of_getElem? (i := 1) rfl)
  have inX6 : ∀ w ∈ u_ws RX6 TX6 4, w ∈ wsX6_leastStart := in_r _ [2, 3, 4, 5] rfl
  refine lv_iload_n hx hb dX6_leastStart_0 rfl (lv_at hl 1 rfl) ?_
  refine lv_istore (lv' := [(4, .int (nI fr)), (0, .ref sc), (1, .int (nI fr)), (2, .int (iZ dd)), (3, .int (iZ ot))]) hx hb dX6_leastStart_1 hl (by decide) rfl (fun ls hl => ?_)
  refine lv_iload_n hx hb dX6_leastStart_3 rfl (lv_at hl 2 rfl) ?_
  refine lv_istore (lv' := [(5, .int (nI fr)), (4, .int (nI fr)), (0, .ref sc), (1, .int (nI fr)), (2, .int (iZ dd)), (3, .int (iZ ot))]) hx hb dX6_leastStart_4 hl (by decide) rfl (fun ls hl => ?_)
  have L6 : ∀ (fu : Nat) (day : Nat) (si : Nat), (LSs wk ot dd.toNat fr M day si) → (day ≤ 1000) → (1000 - day) < fu → ∀ (H : Heap) (locs : List Loc), va_P D vwCl [(sc, .inr (6, [.int (iZ ln), .ref s1, .ref s2, .ref s3])), (s2, .inl (ca 0, 1000, .inl (zF wk)))] H → va_D A [(sc, .inr (6, [.int (iZ ln), .ref s1, .ref s2, .ref s3])), (s2, .inl (ca 0, 1000, .inl (zF wk)))] → va_S A s.heap H locs → ∀ ls : Array Slot, lv_has ls 6 [(5, .int (nI day)), (4, .int (nI si)), (0, .ref sc), (1, .int (nI fr)), (2, .int (iZ dd)), (3, .int (iZ ot))] → W pG l eV rX6_leastStart s mI args below meth cO H locs 0 0 Q (F0 mI 6 ls []) := by
    clear hP hD hS hl
    intro fu; induction fu with
    | zero => intro day si hls hdy hmu; exact absurd hmu (Nat.not_lt_zero _)
    | succ n6 ih6 =>
      intro day si hls hdy hmu6 H locs hP hD hS ls hl
      have hq1 := hls.2.1
      have hq2 := hls.2.2.1
      refine lv_iload hx hb dX6_leastStart_6 (lv_at hl 0 rfl) ?_
      refine lv_iload hx hb dX6_leastStart_8 (lv_at hl 1 rfl) ?_
      refine lv_iload_n hx hb dX6_leastStart_10 rfl (lv_at hl 4 rfl) ?_
      refine xr_iadd_nz hx hb dX6_leastStart_11 ?_
      refine lv_icmp_ge (tgt := 46) hx hb dX6_leastStart_12 (by decide) (fun h12 => ?_) (fun h12 => ?_)
      · skip
        have h12 := (cL (iZ_toInt (by omega) (by omega)) (nI_toInt (by omega))).mp h12
        refine lv_iload hx hb dX6_leastStart_46 (lv_at hl 1 rfl) ?_
        rw [← hE]
        exact xe_i (si) hx hb hr hlocks hK hP hD hS (⟨rfl, LSs_end hls (by omega)⟩) dX6_leastStart_48
      · skip
        have h12 := (not_congr (cL (iZ_toInt (by omega) (by omega)) (nI_toInt (by omega)))).mp h12
        refine lv_iload hx hb dX6_leastStart_15 (lv_at hl 0 rfl) ?_
        refine lv_sipush (v := nI (1000)) hx hb dX6_leastStart_17 (by decide) ?_
        refine lv_icmp_ge (tgt := 46) hx hb dX6_leastStart_20 (by decide) (fun h20 => ?_) (fun h20 => ?_)
        · skip
          have h20 := (cL (nI_toInt (by omega)) (nI_toInt (by omega))).mp h20
          refine lv_iload hx hb dX6_leastStart_46 (lv_at hl 1 rfl) ?_
          rw [← hE]
          exact xe_i (si) hx hb hr hlocks hK hP hD hS (⟨rfl, LSs_end hls (by omega)⟩) dX6_leastStart_48
        · skip
          have h20 := (not_congr (cL (nI_toInt (by omega)) (nI_toInt (by omega)))).mp h20
          refine lv_aload_n hx hb dX6_leastStart_23 rfl (lv_at hl 2 rfl) ?_
          refine va_get (D := D) (ci := 6) (v := .ref s2) (C := RX6) (T := TX6) (N := 4) hx hb hts inX6 hown hK hP 0 rfl rfl 2 (by decide) f19 (fun _ h9 => h9) rfl dX6_leastStart_24 ?_
          refine lv_iload hx hb dX6_leastStart_27 (lv_at hl 0 rfl) ?_
          refine xr_iald hx hb hK hP 1 0 rfl rfl (by omega) (Nat.le_of_ble_eq_true rfl) (v := iZ (wk day)) rfl dX6_leastStart_29 ?_
          have hq3 := hwk day (by omega)
          refine lv_iload_n hx hb dX6_leastStart_30 rfl (lv_at hl 5 rfl) ?_
          refine lv_icmp_le (tgt := 40) hx hb dX6_leastStart_31 (by decide) (fun h31 => ?_) (fun h31 => ?_)
          · skip
            have h31 := (cL (iZ_toInt (by omega) (by omega)) (iZ_toInt (by omega) (by omega))).mp h31
            refine lv_iinc (v := nI (day + 1)) (lv' := [(5, .int (nI (day + 1))), (4, .int (nI si)), (0, .ref sc), (1, .int (nI fr)), (2, .int (iZ dd)), (3, .int (iZ ot))]) hx hb dX6_leastStart_40 hl (k := 0) rfl (nI_add _ 1) (by decide) rfl (fun ls hl => ?_)
            refine lv_goto (tgt := 6) hx hb dX6_leastStart_43 (by decide) ?_
            exact ih6 (day + 1) si (LSs_y hls (by omega)) (by omega) (by omega) _ _ hP hD hS _ (lv_sub hl [0, 1, 2, 3, 4, 5] rfl)
          · skip
            have h31 := (not_congr (cL (iZ_toInt (by omega) (by omega)) (iZ_toInt (by omega) (by omega)))).mp h31
            refine lv_iload hx hb dX6_leastStart_34 (lv_at hl 0 rfl) ?_
            refine lv_iconst (v := nI (1)) hx hb dX6_leastStart_36 (by decide) ?_
            refine xr_iadd hx hb dX6_leastStart_37 ?_
            refine lv_istore (lv' := [(4, .int (nI (day + 1))), (5, .int (nI day)), (0, .ref sc), (1, .int (nI fr)), (2, .int (iZ dd)), (3, .int (iZ ot))]) hx hb dX6_leastStart_38 hl (by decide) rfl (fun ls hl => ?_)
            refine lv_iinc (v := nI (day + 1)) (lv' := [(5, .int (nI (day + 1))), (4, .int (nI (day + 1))), (0, .ref sc), (1, .int (nI fr)), (2, .int (iZ dd)), (3, .int (iZ ot))]) hx hb dX6_leastStart_40 hl (k := 1) rfl (nI_add _ 1) (by decide) rfl (fun ls hl => ?_)
            refine lv_goto (tgt := 6) hx hb dX6_leastStart_43 (by decide) ?_
            exact ih6 (day + 1) (day + 1) (LSs_n hls (by omega) (by omega) (by omega) hM) (by omega) (by omega) _ _ hP hD hS _ (lv_sub hl [0, 1, 2, 3, 4, 5] rfl)
  exact L6 _ fr fr (LSs_0 hfr.1) (by omega) (Nat.lt_succ_self _) _ _ hP hD hS _ (lv_sub hl [0, 1, 2, 3, 4, 5] rfl)
def rX6_clear : Room := { frames := 3, cells := 0, slots := 0, locals := 66 }
set_option maxHeartbeats 4000000 in
set_option maxRecDepth 100000 in
/-- clear(plan) -/
theorem mX6_clear (l : Launch) (D : va_G) (ca : Nat → ClassId) (sz : Nat) (sc : Nat) (s1 : Nat) (s2 : Nat) (s3 : Nat) (h : Nat) (a : Nat) (b : Nat) (c : Nat) (T : Nat) (E : Int) (C : Int) (ln : Int) (sq : Nat → Int) (wk : Nat → Int) (wt : Nat → Int) (G : Nat → Nat → Int) (hT : T ≤ 20) (hG : GOK G) : MM l yX6_clear wsX6_clear rX6_clear D ca [.ref sc, .ref h] sz [(sc, .inr (6, [.int (iZ ln), .ref s1, .ref s2, .ref s3])), (s1, .inl (ca 0, 20, .inl (zF sq))), (s2, .inl (ca 0, 1000, .inl (zF wk))), (s3, .inl (ca 0, 20, .inl (zF wt))), (h, .inr (7, [.int (nI T), .int (iZ E), .int (iZ C), .ref a, .ref b, .ref c])), (c, .inl (ca 0, 400, .inl (zG G)))] (QV D ca (fun (u : (Nat → Int)) => ∀ t, t < T → u t = (cntB G t T : Int)) (fun u => [(sc, .inr (6, [.int (iZ 0), .ref s1, .ref s2, .ref s3])), (s1, .inl (ca 0, 20, .inl (zF (fun _ => 0)))), (s2, .inl (ca 0, 1000, .inl (zF (fun _ => 0)))), (s3, .inl (ca 0, 20, .inl (zF u))), (h, .inr (7, [.int (nI T), .int (iZ E), .int (iZ C), .ref a, .ref b, .ref c])), (c, .inl (ca 0, 400, .inl (zG G)))])) := by
  refine MM_of (cc := cX6_clear) (maxL := 3) (ret := none) (lv0 := [(0, .ref sc), (1, .ref h)]) RX6 (by decide) rfl rfl (Nat.le_of_ble_eq_true rfl) rfl ?_
  intro pG eV s mI args below meth cO hx hb hr hml hts hown hlocks hnm A hA H locs hsz hP hK hD hS Q hE ls hl
  have f9 := hts (.fieldLink RX6 9 "SlackPlan$Schedule" "length" "I") (List.mem_of_getElem? (i := 1) rfl)
  have inX6 : ∀ w ∈ u_ws RX6 TX6 4, w ∈ wsX6_clear := in_r _ [25, 26, 27, 28] rfl
  have f15 := hts (.fieldLink RX6 15 "SlackPlan$Schedule" "starts" "[I") (List.mem_of_getElem? (i := 2) rfl)
  have f19 := hts (.fieldLink RX6 19 "SlackPlan$Schedule" "working" "[I") (List.mem_of_getElem? (i := 3) rfl)
  have f25 := hts (.fieldLink RX6 25 "SlackPlan$State" "tasks" "I") (List.mem_of_getElem? (i := 4) rfl)
  have inX7 : ∀ w ∈ u_ws RX7 TX7 6, w ∈ wsX6_clear := in_r _ [29, 30, 31, 32, 33, 34] rfl
  have f22 := hts (.fieldLink RX6 22 "SlackPlan$Schedule" "waiting" "[I") (List.mem_of_getElem? (i := 5) rfl)
  refine lv_aload_n hx hb dX6_clear_0 rfl (lv_at hl 0 rfl) ?_
  refine lv_iconst (v := iZ 0) hx hb dX6_clear_1 (by decide) ?_
  refine va_put (D := D) (ci := 6) (v := .int (iZ 0)) (ty := .int) (C := RX6) (T := TX6) (N := 4) hx hb hts inX6 tyX6 tyX6_ok nmX6 hown hK hP hD hS 0 rfl rfl 0 (by decide) f9 (fun _ h9 => h9) rfl (by decide +kernel) rfl rfl (Nat.le_of_ble_eq_true rfl) dX6_clear_2 (fun H locs hP hD hS => ?_)
  have hP : va_P D vwCl [(sc, .inr (6, [.int (iZ 0), .ref s1, .ref s2, .ref s3])), (s1, .inl (ca 0, 20, .inl (zF sq))), (s2, .inl (ca 0, 1000, .inl (zF wk))), (s3, .inl (ca 0, 20, .inl (zF wt))), (h, .inr (7, [.int (nI T), .int (iZ E), .int (iZ C), .ref a, .ref b, .ref c])), (c, .inl (ca 0, 400, .inl (zG G)))] H := hP
  have hD : va_D A [(sc, .inr (6, [.int (iZ 0), .ref s1, .ref s2, .ref s3])), (s1, .inl (ca 0, 20, .inl (zF sq))), (s2, .inl (ca 0, 1000, .inl (zF wk))), (s3, .inl (ca 0, 20, .inl (zF wt))), (h, .inr (7, [.int (nI T), .int (iZ E), .int (iZ C), .ref a, .ref b, .ref c])), (c, .inl (ca 0, 400, .inl (zG G)))] := hD
  refine lv_aload_n hx hb dX6_clear_5 rfl (lv_at hl 0 rfl) ?_
  refine va_get (D := D) (ci := 6) (v := .ref s1) (C := RX6) (T := TX6) (N := 4) hx hb hts inX6 hown hK hP 0 rfl rfl 1 (by decide) f15 (fun _ h9 => h9) rfl dX6_clear_6 ?_
  refine lv_iconst (v := nI (0)) hx hb dX6_clear_9 (by decide) ?_
  refine xk_v [(sc, .inr (6, [.int (iZ 0), .ref s1, .ref s2, .ref s3])), (s2, .inl (ca 0, 1000, .inl (zF wk))), (s3, .inl (ca 0, 20, .inl (zF wt))), (h, .inr (7, [.int (nI T), .int (iZ E), .int (iZ C), .ref a, .ref b, .ref c])), (c, .inl (ca 0, 400, .inl (zG G)))] (fun u => [(sc, .inr (6, [.int (iZ 0), .ref s1, .ref s2, .ref s3])), (s1, .inl (ca 0, 20, .inl ((fun _ => (nI (0)))))), (s2, .inl (ca 0, 1000, .inl (zF wk))), (s3, .inl (ca 0, 20, .inl (zF wt))), (h, .inr (7, [.int (nI T), .int (iZ E), .int (iZ C), .ref a, .ref b, .ref c])), (c, .inl (ca 0, 400, .inl (zG G)))]) (xk_S (As := [.ref s1, .int (nI 0)]) (rest := []) ⟨hx, hb, hml, hown, hts⟩ (mJ7_fill_53178 l D ca H.size s1 20 (zF sq) (nI (0)) (by omega)) (va_cwS 2 hts gX6_clear_J7_fill_53178 rfl rfl rfl (by decide +kernel) ⟨Nat.le_of_ble_eq_true rfl, Nat.le_of_ble_eq_true rfl⟩) hK hP hD [1] rfl rfl rfl hl.1 rfl (Nat.le_of_ble_eq_true rfl) dX6_clear_10 ⟨Nat.le_of_ble_eq_true rfl, Nat.le_of_ble_eq_true rfl⟩) hP hD hS hA [1] [0, 2, 3, 4, 5] [0, 5, 1, 2, 3, 4] rfl rfl rfl rfl (fun _ => rfl) rfl (fun u10 H locs hw10 hP hD hS => ?_)
  have hw10 : True := hw10
  have hP : va_P D vwCl [(sc, .inr (6, [.int (iZ 0), .ref s1, .ref s2, .ref s3])), (s1, .inl (ca 0, 20, .inl ((fun _ => (nI (0)))))), (s2, .inl (ca 0, 1000, .inl (zF wk))), (s3, .inl (ca 0, 20, .inl (zF wt))), (h, .inr (7, [.int (nI T), .int (iZ E), .int (iZ C), .ref a, .ref b, .ref c])), (c, .inl (ca 0, 400, .inl (zG G)))] H := hP
  have hD : va_D A [(sc, .inr (6, [.int (iZ 0), .ref s1, .ref s2, .ref s3])), (s1, .inl (ca 0, 20, .inl ((fun _ => (nI (0)))))), (s2, .inl (ca 0, 1000, .inl (zF wk))), (s3, .inl (ca 0, 20, .inl (zF wt))), (h, .inr (7, [.int (nI T), .int (iZ E), .int (iZ C), .ref a, .ref b, .ref c])), (c, .inl (ca 0, 400, .inl (zG G)))] := hD
  have hP := hP.arr 1 (zF (fun _ => 0)) rfl (fun _ _ => rfl)
  have hD := hD.set (p := 1) (e := .inl (ca 0, 20, .inl (zF (fun _ => 0)))) rfl
  have hP : va_P D vwCl [(sc, .inr (6, [.int (iZ 0), .ref s1, .ref s2, .ref s3])), (s1, .inl (ca 0, 20, .inl (zF (fun _ => 0)))), (s2, .inl (ca 0, 1000, .inl (zF wk))), (s3, .inl (ca 0, 20, .inl (zF wt))), (h, .inr (7, [.int (nI T), .int (iZ E), .int (iZ C), .ref a, .ref b, .ref c])), (c, .inl (ca 0, 400, .inl (zG G)))] H := hP
  have hD : va_D A [(sc, .inr (6, [.int (iZ 0), .ref s1, .ref s2, .ref s3])), (s1, .inl (ca 0, 20, .inl (zF (fun _ => 0)))), (s2, .inl (ca 0, 1000, .inl (zF wk))), (s3, .inl (ca 0, 20, .inl (zF wt))), (h, .inr (7, [.int (nI T), .int (iZ E), .int (iZ C), .ref a, .ref b, .ref c])), (c, .inl (ca 0, 400, .inl (zG G)))] := hD
  refine lv_aload_n hx hb dX6_clear_13 rfl (lv_at hl 0 rfl) ?_
  refine va_get (D := D) (ci := 6) (v := .ref s2) (C := RX6) (T := TX6) (N := 4) hx hb hts inX6 hown hK hP 0 rfl rfl 2 (by decide) f19 (fun _ h9 => h9) rfl dX6_clear_14 ?_
  refine lv_iconst (v := nI (0)) hx hb dX6_clear_17 (by decide) ?_
  refine xk_v [(sc, .inr (6, [.int (iZ 0), .ref s1, .ref s2, .ref s3])), (s1, .inl (ca 0, 20, .inl (zF (fun _ => 0)))), (s3, .inl (ca 0, 20, .inl (zF wt))), (h, .inr (7, [.int (nI T), .int (iZ E), .int (iZ C), .ref a, .ref b, .ref c])), (c, .inl (ca 0, 400, .inl (zG G)))] (fun u => [(sc, .inr (6, [.int (iZ 0), .ref s1, .ref s2, .ref s3])), (s1, .inl (ca 0, 20, .inl (zF (fun _ => 0)))), (s2, .inl (ca 0, 1000, .inl ((fun _ => (nI (0)))))), (s3, .inl (ca 0, 20, .inl (zF wt))), (h, .inr (7, [.int (nI T), .int (iZ E), .int (iZ C), .ref a, .ref b, .ref c])), (c, .inl (ca 0, 400, .inl (zG G)))]) (xk_S (As := [.ref s2, .int (nI 0)]) (rest := []) ⟨hx, hb, hml, hown, hts⟩ (mJ7_fill_53178 l D ca H.size s2 1000 (zF wk) (nI (0)) (by omega)) (va_cwS 2 hts gX6_clear_J7_fill_53178 rfl rfl rfl (by decide +kernel) ⟨Nat.le_of_ble_eq_true rfl, Nat.le_of_ble_eq_true rfl⟩) hK hP hD [2] rfl rfl rfl hl.1 rfl (Nat.le_of_ble_eq_true rfl) dX6_clear_18 ⟨Nat.le_of_ble_eq_true rfl, Nat.le_of_ble_eq_true rfl⟩) hP hD hS hA [2] [0, 1, 3, 4, 5] [0, 1, 5, 2, 3, 4] rfl rfl rfl rfl (fun _ => rfl) rfl (fun u18 H locs hw18 hP hD hS => ?_)
  have hw18 : True := hw18
  have hP : va_P D vwCl [(sc, .inr (6, [.int (iZ 0), .ref s1, .ref s2, .ref s3])), (s1, .inl (ca 0, 20, .inl (zF (fun _ => 0)))), (s2, .inl (ca 0, 1000, .inl ((fun _ => (nI (0)))))), (s3, .inl (ca 0, 20, .inl (zF wt))), (h, .inr (7, [.int (nI T), .int (iZ E), .int (iZ C), .ref a, .ref b, .ref c])), (c, .inl (ca 0, 400, .inl (zG G)))] H := hP
  have hD : va_D A [(sc, .inr (6, [.int (iZ 0), .ref s1, .ref s2, .ref s3])), (s1, .inl (ca 0, 20, .inl (zF (fun _ => 0)))), (s2, .inl (ca 0, 1000, .inl ((fun _ => (nI (0)))))), (s3, .inl (ca 0, 20, .inl (zF wt))), (h, .inr (7, [.int (nI T), .int (iZ E), .int (iZ C), .ref a, .ref b, .ref c])), (c, .inl (ca 0, 400, .inl (zG G)))] := hD
  have hP := hP.arr 2 (zF (fun _ => 0)) rfl (fun _ _ => rfl)
  have hD := hD.set (p := 2) (e := .inl (ca 0, 1000, .inl (zF (fun _ => 0)))) rfl
  have hP : va_P D vwCl [(sc, .inr (6, [.int (iZ 0), .ref s1, .ref s2, .ref s3])), (s1, .inl (ca 0, 20, .inl (zF (fun _ => 0)))), (s2, .inl (ca 0, 1000, .inl (zF (fun _ => 0)))), (s3, .inl (ca 0, 20, .inl (zF wt))), (h, .inr (7, [.int (nI T), .int (iZ E), .int (iZ C), .ref a, .ref b, .ref c])), (c, .inl (ca 0, 400, .inl (zG G)))] H := hP
  have hD : va_D A [(sc, .inr (6, [.int (iZ 0), .ref s1, .ref s2, .ref s3])), (s1, .inl (ca 0, 20, .inl (zF (fun _ => 0)))), (s2, .inl (ca 0, 1000, .inl (zF (fun _ => 0)))), (s3, .inl (ca 0, 20, .inl (zF wt))), (h, .inr (7, [.int (nI T), .int (iZ E), .int (iZ C), .ref a, .ref b, .ref c])), (c, .inl (ca 0, 400, .inl (zG G)))] := hD
  refine lv_iconst (v := nI (0)) hx hb dX6_clear_21 (by decide) ?_
  refine lv_istore_n (lv' := [(2, .int (nI 0)), (0, .ref sc), (1, .ref h)]) hx hb dX6_clear_22 rfl hl (by decide) rfl (fun ls hl => ?_)
  have L23 : ∀ (fu : Nat) (k : Nat) (wt2 : Nat → Int), (k ≤ T) → (∀ t, t < k → wt2 t = (cntB G t T : Int)) → (T - k) < fu → ∀ (H : Heap) (locs : List Loc), va_P D vwCl [(sc, .inr (6, [.int (iZ 0), .ref s1, .ref s2, .ref s3])), (s1, .inl (ca 0, 20, .inl (zF (fun _ => 0)))), (s2, .inl (ca 0, 1000, .inl (zF (fun _ => 0)))), (s3, .inl (ca 0, 20, .inl (zF wt2))), (h, .inr (7, [.int (nI T), .int (iZ E), .int (iZ C), .ref a, .ref b, .ref c])), (c, .inl (ca 0, 400, .inl (zG G)))] H → va_D A [(sc, .inr (6, [.int (iZ 0), .ref s1, .ref s2, .ref s3])), (s1, .inl (ca 0, 20, .inl (zF (fun _ => 0)))), (s2, .inl (ca 0, 1000, .inl (zF (fun _ => 0)))), (s3, .inl (ca 0, 20, .inl (zF wt2))), (h, .inr (7, [.int (nI T), .int (iZ E), .int (iZ C), .ref a, .ref b, .ref c])), (c, .inl (ca 0, 400, .inl (zG G)))] → va_S A s.heap H locs → ∀ ls : Array Slot, lv_has ls 3 [(2, .int (nI k)), (0, .ref sc), (1, .ref h)] → W pG l eV rX6_clear s mI args below meth cO H locs 0 0 Q (F0 mI 23 ls []) := by
    clear hP hD hS hl
    intro fu; induction fu with
    | zero => intro k wt2 hk hwt hmu; exact absurd hmu (Nat.not_lt_zero _)
    | succ n23 ih23 =>
      intro k wt2 hk hwt hmu23 H locs hP hD hS ls hl
      refine lv_iload_n hx hb dX6_clear_23 rfl (lv_at hl 0 rfl) ?_
      refine lv_aload_n hx hb dX6_clear_24 rfl (lv_at hl 2 rfl) ?_
      refine va_get (D := D) (ci := 7) (v := .int (nI T)) (C := RX7) (T := TX7) (N := 6) hx hb hts inX7 hown hK hP 4 rfl rfl 0 (by decide) f25 (fun _ h9 => h9) rfl dX6_clear_25 ?_
      refine lv_icmp_ge (tgt := 48) hx hb dX6_clear_28 (by decide) (fun h28 => ?_) (fun h28 => ?_)
      · skip
        have h28 := (cL (nI_toInt (by omega)) (nI_toInt (by omega))).mp h28
        rw [← hE]
        exact xe_v (wt2) hx hb hr hlocks hK hP hD hS (fun t ht => hwt t (by omega)) dX6_clear_48
      · skip
        have h28 := (not_congr (cL (nI_toInt (by omega)) (nI_toInt (by omega)))).mp h28
        refine lv_aload_n hx hb dX6_clear_31 rfl (lv_at hl 1 rfl) ?_
        refine va_get (D := D) (ci := 6) (v := .ref s3) (C := RX6) (T := TX6) (N := 4) hx hb hts inX6 hown hK hP 0 rfl rfl 3 (by decide) f22 (fun _ h9 => h9) rfl dX6_clear_32 ?_
        refine lv_iload_n hx hb dX6_clear_35 rfl (lv_at hl 0 rfl) ?_
        refine lv_aload_n hx hb dX6_clear_36 rfl (lv_at hl 2 rfl) ?_
        refine lv_iload_n hx hb dX6_clear_37 rfl (lv_at hl 0 rfl) ?_
        refine xk_pi (xk_V (As := [.int (nI k)]) (rest := [.int (nI k), .ref s3]) ⟨hx, hb, hml, hown, hts⟩ (mX7_countBefore l D ca H.size h a b c T E C G k (by omega) (by omega) hG) (cwV 1 hts gX6_clear_X7_countBefore rfl rfl rfl (by decide +kernel) ⟨Nat.le_of_ble_eq_true rfl, Nat.le_of_ble_eq_true rfl⟩) hK hP hD (va_recv (q := (RX7, TX7, 6)) hK hP (ci := 7) (q0 := 4) rfl rfl) [4, 5] rfl rfl rfl hl.1 rfl (Nat.le_of_ble_eq_true rfl) dX6_clear_38 ⟨Nat.le_of_ble_eq_true rfl, Nat.le_of_ble_eq_true rfl⟩) hP hD hS hA [4, 5] rfl ⟨rfl, rfl⟩ (fun r38 H locs hw38 hP hS => ?_)
        have hw38 : r38 = nI (cntB G k T) := hw38
        subst hw38
        refine xr_iast hx hb hK hP hD hS 3 0 rfl rfl (by omega) (Nat.le_of_ble_eq_true rfl) (zF (upZ wt2 k ((cntB G k T : Nat) : Int))) (fun _ _ => zF_upn _ _ _ _) dX6_clear_41 (fun H locs hP hD hS => ?_)
        have hP : va_P D vwCl [(sc, .inr (6, [.int (iZ 0), .ref s1, .ref s2, .ref s3])), (s1, .inl (ca 0, 20, .inl (zF (fun _ => 0)))), (s2, .inl (ca 0, 1000, .inl (zF (fun _ => 0)))), (s3, .inl (ca 0, 20, .inl (zF (upZ wt2 k ((cntB G k T : Nat) : Int))))), (h, .inr (7, [.int (nI T), .int (iZ E), .int (iZ C), .ref a, .ref b, .ref c])), (c, .inl (ca 0, 400, .inl (zG G)))] H := hP
        have hD : va_D A [(sc, .inr (6, [.int (iZ 0), .ref s1, .ref s2, .ref s3])), (s1, .inl (ca 0, 20, .inl (zF (fun _ => 0)))), (s2, .inl (ca 0, 1000, .inl (zF (fun _ => 0)))), (s3, .inl (ca 0, 20, .inl (zF (upZ wt2 k ((cntB G k T : Nat) : Int))))), (h, .inr (7, [.int (nI T), .int (iZ E), .int (iZ C), .ref a, .ref b, .ref c])), (c, .inl (ca 0, 400, .inl (zG G)))] := hD
        refine lv_iinc (v := nI (k + 1)) (lv' := [(2, .int (nI (k + 1))), (0, .ref sc), (1, .ref h)]) hx hb dX6_clear_42 hl (k := 0) rfl (nI_add _ 1) (by decide) rfl (fun ls hl => ?_)
        refine lv_goto (tgt := 23) hx hb dX6_clear_45 (by decide) ?_
        exact ih23 (k + 1) (upZ wt2 k ((cntB G k T : Nat) : Int)) (by omega) (fun t ht => if q : t = k then (by rw [q, upZ_s]) else (by rw [upZ_n q]; exact hwt t (by omega))) (by omega) _ _ hP hD hS _ (lv_sub hl [0, 1, 2] rfl)
  exact L23 _ 0 wt (by omega) (fun t ht => absurd ht (Nat.not_lt_zero t)) (Nat.lt_succ_self _) _ _ hP hD hS _ (lv_sub hl [0, 1, 2] rfl)
def rX6_nextTask : Room := { frames := 0, cells := 0, slots := 0, locals := 0 }
set_option maxHeartbeats 4000000 in
set_option maxRecDepth 100000 in
/-- nextTask(plan, days) -/
theorem mX6_nextTask (l : Launch) (D : va_G) (ca : Nat → ClassId) (sz : Nat) (sc : Nat) (s1 : Nat) (s2 : Nat) (s3 : Nat) (h : Nat) (a : Nat) (b : Nat) (c : Nat) (T : Nat) (E : Int) (C : Int) (d : Nat) (de : Nat) (dl : Nat) (dn : Nat) (o : Nat) (ln : Int) (wt : Nat → Int) (sp : Int) (f : Nat → Int) (hT : T ≤ 20) (hwt : ∀ t, t < T → -1 ≤ wt t ∧ wt t ≤ T) (hf : ∀ t, t < T → -5000 ≤ f t ∧ f t ≤ 5000) : MM l yX6_nextTask wsX6_nextTask rX6_nextTask D ca [.ref sc, .ref h, .ref d] sz [(sc, .inr (6, [.int (iZ ln), .ref s1, .ref s2, .ref s3])), (s3, .inl (ca 0, 20, .inl (zF wt))), (h, .inr (7, [.int (nI T), .int (iZ E), .int (iZ C), .ref a, .ref b, .ref c])), (d, .inr (1, [.ref de, .ref dl, .int (iZ sp), .ref dn, .ref o])), (dl, .inl (ca 0, 20, .inl (zF f)))] (QI D ca (fun (r : Int32) (u : Unit) => r = iZ (oZ (nxt f (fun j => decide (wt j = 0)) T))) (fun _ => [(sc, .inr (6, [.int (iZ ln), .ref s1, .ref s2, .ref s3])), (s3, .inl (ca 0, 20, .inl (zF wt))), (h, .inr (7, [.int (nI T), .int (iZ E), .int (iZ C), .ref a, .ref b, .ref c])), (d, .inr (1, [.ref de, .ref dl, .int (iZ sp), .ref dn, .ref o])), (dl, .inl (ca 0, 20, .inl (zF f)))])) := by
  refine MM_of (cc := cX6_nextTask) (maxL := 5) (ret := (some .int)) (lv0 := [(0, .ref sc), (1, .ref h), (2, .ref d)]) RX6 (by decide) rfl rfl (Nat.le_of_ble_eq_true rfl) rfl ?_
  intro pG eV s mI args below meth cO hx hb hr hml hts hown hlocks hnm A hA H locs hsz hP hK hD hS Q hE ls hl
  have f25 := hts (.fieldLink RX6 25 "SlackPlan$State" "tasks" "I") (List.mem_of_getElem? (i := 1) rfl)
  have inX7 : ∀ w ∈ u_ws RX7 TX7 6, w ∈ wsX6_nextTask := in_r _ [4, 5, 6, 7, 8, 9] rfl
  have f22 := hts (.fieldLink RX6 22 "SlackPlan$Schedule" "waiting" "[I") (List.mem_of_getElem? (i := 2) rfl)
  have inX6 : ∀ w ∈ u_ws RX6 TX6 4, w ∈ wsX6_nextTask := in_r _ [10, 11, 12, 13] rfl
  have f55 := hts (.fieldLink RX6 55 "SlackPlan$Days" "latest" "[I") (List.mem_of_getElem? (i := 3) rfl)
  have inX1 : ∀ w ∈ u_ws RX1 TX1 5, w ∈ wsX6_nextTask := in_r _ [14, 15, 16, 17, 18] rfl
  refine lv_iconst (v := iZ (-1)) hx hb dX6_nextTask_0 (by decide) ?_
  refine lv_istore_n (lv' := [(3, .int (iZ (-1))), (0, .ref sc), (1, .ref h), (2, .ref d)]) hx hb dX6_nextTask_1 rfl hl (by decide) rfl (fun ls hl => ?_)
  refine lv_iconst (v := nI (0)) hx hb dX6_nextTask_2 (by decide) ?_
  refine lv_istore (lv' := [(4, .int (nI 0)), (3, .int (iZ (-1))), (0, .ref sc), (1, .ref h), (2, .ref d)]) hx hb dX6_nextTask_3 hl (by decide) rfl (fun ls hl => ?_)
  have L5 : ∀ (fu : Nat) (k : Nat) (op : Option Nat), (k ≤ T) → (op = nxt f (fun j => decide (wt j = 0)) k) → (T - k) < fu → ∀ (H : Heap) (locs : List Loc), va_P D vwCl [(sc, .inr (6, [.int (iZ ln), .ref s1, .ref s2, .ref s3])), (s3, .inl (ca 0, 20, .inl (zF wt))), (h, .inr (7, [.int (nI T), .int (iZ E), .int (iZ C), .ref a, .ref b, .ref c])), (d, .inr (1, [.ref de, .ref dl, .int (iZ sp), .ref dn, .ref o])), (dl, .inl (ca 0, 20, .inl (zF f)))] H → va_D A [(sc, .inr (6, [.int (iZ ln), .ref s1, .ref s2, .ref s3])), (s3, .inl (ca 0, 20, .inl (zF wt))), (h, .inr (7, [.int (nI T), .int (iZ E), .int (iZ C), .ref a, .ref b, .ref c])), (d, .inr (1, [.ref de, .ref dl, .int (iZ sp), .ref dn, .ref o])), (dl, .inl (ca 0, 20, .inl (zF f)))] → va_S A s.heap H locs → ∀ ls : Array Slot, lv_has ls 5 [(4, .int (nI k)), (3, .int (iZ (oZ op))), (0, .ref sc), (1, .ref h), (2, .ref d)] → W pG l eV rX6_nextTask s mI args below meth cO H locs 0 0 Q (F0 mI 5 ls []) := by
    clear hP hD hS hl
    intro fu; induction fu with
    | zero => intro k op hk ho hmu; exact absurd hmu (Nat.not_lt_zero _)
    | succ n5 ih5 =>
      intro k op hk ho hmu5 H locs hP hD hS ls hl
      refine lv_iload hx hb dX6_nextTask_5 (lv_at hl 0 rfl) ?_
      refine lv_aload_n hx hb dX6_nextTask_7 rfl (lv_at hl 3 rfl) ?_
      refine va_get (D := D) (ci := 7) (v := .int (nI T)) (C := RX7) (T := TX7) (N := 6) hx hb hts inX7 hown hK hP 2 rfl rfl 0 (by decide) f25 (fun _ h9 => h9) rfl dX6_nextTask_8 ?_
      refine lv_icmp_ge (tgt := 54) hx hb dX6_nextTask_11 (by decide) (fun h11 => ?_) (fun h11 => ?_)
      · skip
        have h11 := (cL (nI_toInt (by omega)) (nI_toInt (by omega))).mp h11
        refine lv_iload_n hx hb dX6_nextTask_54 rfl (lv_at hl 1 rfl) ?_
        rw [← hE]
        exact xe_i () hx hb hr hlocks hK hP hD hS (by rw [ho, show k = T by omega]) dX6_nextTask_55
      · skip
        have h11 := (not_congr (cL (nI_toInt (by omega)) (nI_toInt (by omega)))).mp h11
        refine lv_aload_n hx hb dX6_nextTask_14 rfl (lv_at hl 2 rfl) ?_
        refine va_get (D := D) (ci := 6) (v := .ref s3) (C := RX6) (T := TX6) (N := 4) hx hb hts inX6 hown hK hP 0 rfl rfl 3 (by decide) f22 (fun _ h9 => h9) rfl dX6_nextTask_15 ?_
        refine lv_iload hx hb dX6_nextTask_18 (lv_at hl 0 rfl) ?_
        have hq1 := hwt k (by omega)
        refine xr_iald hx hb hK hP 1 0 rfl rfl (by omega) (Nat.le_of_ble_eq_true rfl) (v := iZ (wt k)) rfl dX6_nextTask_20 ?_
        refine lv_if_ne (tgt := 48) hx hb dX6_nextTask_21 (by decide) (fun h21 => ?_) (fun h21 => ?_)
        · skip
          have h21 := (not_congr (cE (iZ_toInt (by omega) (by omega)) z0_toInt)).mp h21
          refine lv_iinc (v := nI (k + 1)) (lv' := [(4, .int (nI (k + 1))), (3, .int (iZ (oZ op))), (0, .ref sc), (1, .ref h), (2, .ref d)]) hx hb dX6_nextTask_48 hl (k := 0) rfl (nI_add _ 1) (by decide) rfl (fun ls hl => ?_)
          refine lv_goto (tgt := 5) hx hb dX6_nextTask_51 (by decide) ?_
          exact ih5 (k + 1) op (by omega) (nxt_a (decide_eq_false h21) ho) (by omega) _ _ hP hD hS _ (lv_sub hl [0, 1, 2, 3, 4] rfl)
        · skip
          have h21 := (cE (iZ_toInt (by omega) (by omega)) z0_toInt).mp h21
          have hq2 := oZ_rng (nxt_lt ho)
          refine lv_iload_n hx hb dX6_nextTask_24 rfl (lv_at hl 1 rfl) ?_
          refine lv_iconst (v := iZ (-1)) hx hb dX6_nextTask_25 (by decide) ?_
          refine lv_icmp_eq (tgt := 45) hx hb dX6_nextTask_26 (by decide) (fun h26 => ?_) (fun h26 => ?_)
          · skip
            have h26 := (cE (iZ_toInt (by omega) (by omega)) (iZ_toInt (by omega) (by omega))).mp h26
            refine lv_iload hx hb dX6_nextTask_45 (lv_at hl 0 rfl) ?_
            refine lv_istore_n (lv' := [(3, .int (nI k)), (4, .int (nI k)), (0, .ref sc), (1, .ref h), (2, .ref d)]) hx hb dX6_nextTask_47 rfl hl (by decide) rfl (fun ls hl => ?_)
            refine lv_iinc (v := nI (k + 1)) (lv' := [(4, .int (nI (k + 1))), (3, .int (nI k)), (0, .ref sc), (1, .ref h), (2, .ref d)]) hx hb dX6_nextTask_48 hl (k := 1) rfl (nI_add _ 1) (by decide) rfl (fun ls hl => ?_)
            refine lv_goto (tgt := 5) hx hb dX6_nextTask_51 (by decide) ?_
            have e9 : nI (k) = iZ (oZ (some k)) := (iZ_n k)
            have hl : lv_has ls 5 [(4, .int (nI (k + 1))), (3, .int (iZ (oZ (some k)))), (0, .ref sc), (1, .ref h), (2, .ref d)] := by rw [← e9]; exact hl
            exact ih5 (k + 1) (some k) (by omega) (nxt_b (decide_eq_true h21) ho (oZ_none h26)) (by omega) _ _ hP hD hS _ (lv_sub hl [0, 1, 2, 3, 4] rfl)
          · skip
            have h26 := (not_congr (cE (iZ_toInt (by omega) (by omega)) (iZ_toInt (by omega) (by omega)))).mp h26
            obtain ⟨m, hm9⟩ := oZ_some h26
            have hq3 := nxt_lt ho m hm9
            have hq4 := hf k (by omega)
            have hq5 := hf m (by omega)
            have e9 : iZ (oZ op) = nI (m) := (by rw [hm9]; exact (iZ_n m).symm)
            have hl : lv_has ls 5 [(4, .int (nI k)), (3, .int (nI m)), (0, .ref sc), (1, .ref h), (2, .ref d)] := by rw [← e9]; exact hl
            refine lv_aload_n hx hb dX6_nextTask_29 rfl (lv_at hl 4 rfl) ?_
            refine va_get (D := D) (ci := 1) (v := .ref dl) (C := RX1) (T := TX1) (N := 5) hx hb hts inX1 hown hK hP 3 rfl rfl 1 (by decide) f55 (fun _ h9 => h9) rfl dX6_nextTask_30 ?_
            refine lv_iload hx hb dX6_nextTask_33 (lv_at hl 0 rfl) ?_
            refine xr_iald hx hb hK hP 4 0 rfl rfl (by omega) (Nat.le_of_ble_eq_true rfl) (v := iZ (f k)) rfl dX6_nextTask_35 ?_
            refine lv_aload_n hx hb dX6_nextTask_36 rfl (lv_at hl 4 rfl) ?_
            refine va_get (D := D) (ci := 1) (v := .ref dl) (C := RX1) (T := TX1) (N := 5) hx hb hts inX1 hown hK hP 3 rfl rfl 1 (by decide) f55 (fun _ h9 => h9) rfl dX6_nextTask_37 ?_
            refine lv_iload_n hx hb dX6_nextTask_40 rfl (lv_at hl 1 rfl) ?_
            refine xr_iald hx hb hK hP 4 0 rfl rfl (by omega) (Nat.le_of_ble_eq_true rfl) (v := iZ (f m)) rfl dX6_nextTask_41 ?_
            refine lv_icmp_ge (tgt := 48) hx hb dX6_nextTask_42 (by decide) (fun h42 => ?_) (fun h42 => ?_)
            · skip
              have h42 := (cL (iZ_toInt (by omega) (by omega)) (iZ_toInt (by omega) (by omega))).mp h42
              refine lv_iinc (v := nI (k + 1)) (lv' := [(4, .int (nI (k + 1))), (3, .int (nI m)), (0, .ref sc), (1, .ref h), (2, .ref d)]) hx hb dX6_nextTask_48 hl (k := 0) rfl (nI_add _ 1) (by decide) rfl (fun ls hl => ?_)
              refine lv_goto (tgt := 5) hx hb dX6_nextTask_51 (by decide) ?_
              have e9 : nI (m) = iZ (oZ (some m)) := (iZ_n m)
              have hl : lv_has ls 5 [(4, .int (nI (k + 1))), (3, .int (iZ (oZ (some m)))), (0, .ref sc), (1, .ref h), (2, .ref d)] := by rw [← e9]; exact hl
              exact ih5 (k + 1) (some m) (by omega) (nxt_d (decide_eq_true h21) (hm9.symm.trans ho) (by omega)) (by omega) _ _ hP hD hS _ (lv_sub hl [0, 1, 2, 3, 4] rfl)
            · skip
              have h42 := (not_congr (cL (iZ_toInt (by omega) (by omega)) (iZ_toInt (by omega) (by omega)))).mp h42
              refine lv_iload hx hb dX6_nextTask_45 (lv_at hl 0 rfl) ?_
              refine lv_istore_n (lv' := [(3, .int (nI k)), (4, .int (nI k)), (0, .ref sc), (1, .ref h), (2, .ref d)]) hx hb dX6_nextTask_47 rfl hl (by decide) rfl (fun ls hl => ?_)
              refine lv_iinc (v := nI (k + 1)) (lv' := [(4, .int (nI (k + 1))), (3, .int (nI k)), (0, .ref sc), (1, .ref h), (2, .ref d)]) hx hb dX6_nextTask_48 hl (k := 1) rfl (nI_add _ 1) (by decide) rfl (fun ls hl => ?_)
              refine lv_goto (tgt := 5) hx hb dX6_nextTask_51 (by decide) ?_
              have e9 : nI (k) = iZ (oZ (some k)) := (iZ_n k)
              have hl : lv_has ls 5 [(4, .int (nI (k + 1))), (3, .int (iZ (oZ (some k)))), (0, .ref sc), (1, .ref h), (2, .ref d)] := by rw [← e9]; exact hl
              exact ih5 (k + 1) (some k) (by omega) (nxt_c (decide_eq_true h21) (hm9.symm.trans ho) (by omega)) (by omega) _ _ hP hD hS _ (lv_sub hl [0, 1, 2, 3, 4] rfl)
  exact L5 _ 0 none (by omega) rfl (Nat.lt_succ_self _) _ _ hP hD hS _ (lv_sub hl [0, 1, 2, 3, 4] rfl)
def rX6_place : Room := { frames := 2, cells := 0, slots := 0, locals := 43 }
set_option maxHeartbeats 4000000 in
set_option maxRecDepth 100000 in
/-- place(plan, crews, task) -/
theorem mX6_place (l : Launch) (D : va_G) (ca : Nat → ClassId) (sz : Nat) (sc : Nat) (s1 : Nat) (s2 : Nat) (s3 : Nat) (h : Nat) (a : Nat) (b : Nat) (c : Nat) (T : Nat) (E : Int) (C : Int) (ln : Int) (sq : Nat → Int) (wk : Nat → Int) (wt : Nat → Int) (L : Nat → Int) (N : Nat → Int) (G : Nat → Nat → Int) (cr : Int) (k : Nat) (st : Nat → Int) (ot : Option Nat) (hT : T ≤ 20) (hG : GOK G) (hL : L30 T L) (hN : NOK T N) (hcr : ∀ t, t < T → N t ≤ cr) (hcr9 : 0 ≤ cr ∧ cr ≤ 900) (hk : k < 20) (hC : CI G T L N k st sq wk wt ln) (hot : ∀ t, ot = some t → t < T ∧ canB G T st t = true) : MM l yX6_place wsX6_place rX6_place D ca [.ref sc, .ref h, .int (iZ cr), .int (iZ (oZ ot))] sz [(sc, .inr (6, [.int (iZ ln), .ref s1, .ref s2, .ref s3])), (s1, .inl (ca 0, 20, .inl (zF sq))), (s2, .inl (ca 0, 1000, .inl (zF wk))), (s3, .inl (ca 0, 20, .inl (zF wt))), (h, .inr (7, [.int (nI T), .int (iZ E), .int (iZ C), .ref a, .ref b, .ref c])), (a, .inl (ca 0, 20, .inl (zF L))), (b, .inl (ca 0, 20, .inl (zF N))), (c, .inl (ca 0, 400, .inl (zG G)))] (QV D ca (fun (u : Int × (Nat → Int) × (Nat → Int) × (Nat → Int)) => CI G T L N (k + 1) (stpO G T L N cr st ot) u.2.1 u.2.2.1 u.2.2.2 u.1) (fun u => [(sc, .inr (6, [.int (iZ u.1), .ref s1, .ref s2, .ref s3])), (s1, .inl (ca 0, 20, .inl (zF u.2.1))), (s2, .inl (ca 0, 1000, .inl (zF u.2.2.1))), (s3, .inl (ca 0, 20, .inl (zF u.2.2.2))), (h, .inr (7, [.int (nI T), .int (iZ E), .int (iZ C), .ref a, .ref b, .ref c])), (a, .inl (ca 0, 20, .inl (zF L))), (b, .inl (ca 0, 20, .inl (zF N))), (c, .inl (ca 0, 400, .inl (zG G)))])) := by
  refine MM_of (cc := cX6_place) (maxL := 9) (ret := none) (lv0 := [(0, .ref sc), (1, .ref h), (2, .int (iZ cr)), (3, .int (iZ (oZ ot)))]) RX6 (by decide) rfl rfl (Nat.le_of_ble_eq_true rfl) rfl ?_
  intro pG eV s mI args below meth cO hx hb hr hml hts hown hlocks hnm A hA H locs hsz hP hK hD hS Q hE ls hl
  have f30 := hts (.fieldLink RX6 30 "SlackPlan$State" "needs" "[I") (List.mem_of_getElem? (i := 1) rfl)
  have inX7 : ∀ w ∈ u_ws RX7 TX7 6, w ∈ wsX6_place := in_r _ [29, 30, 31, 32, 33, 34] rfl
  have f15 := hts (.fieldLink RX6 15 "SlackPlan$Schedule" "starts" "[I") (List.mem_of_getElem? (i := 2) rfl)
  have inX6 : ∀ w ∈ u_ws RX6 TX6 4, w ∈ wsX6_place := in_r _ [35, 36, 37, 38] rfl
  have f64 := hts (.fieldLink RX6 64 "SlackPlan$State" "lengths" "[I") (List.mem_of_getElem? (i := 3) rfl)
  have f22 := hts (.fieldLink RX6 22 "SlackPlan$Schedule" "waiting" "[I") (List.mem_of_getElem? (i := 4) rfl)
  have f9 := hts (.fieldLink RX6 9 "SlackPlan$Schedule" "length" "I") (List.mem_of_getElem? (i := 5) rfl)
  have ml71 := hts (.methodLink RX6 71 Lib.Math.max.name) (List.mem_of_getElem? (i := 6) rfl)
  have stmax := hts (.static Lib.Math.max.name) (List.mem_of_getElem? (i := 7) rfl)
  have iniM := hts (.initialized "java/lang/Math") (List.mem_of_getElem? (i := 8) rfl)
  have cdmax := hts (.code Lib.Math.max.name Lib.Math.max.code 2 (some .int)) (List.mem_of_getElem? (i := 9) rfl)
  have f25 := hts (.fieldLink RX6 25 "SlackPlan$State" "tasks" "I") (List.mem_of_getElem? (i := 11) rfl)
  have f19 := hts (.fieldLink RX6 19 "SlackPlan$Schedule" "working" "[I") (List.mem_of_getElem? (i := 10) rfl)
  refine lv_aload_n hx hb dX6_place_0 rfl (lv_at hl 1 rfl) ?_
  refine lv_iload_n hx hb dX6_place_1 rfl (lv_at hl 3 rfl) ?_
  refine xk_pi (xk_V (As := [.int (iZ (oZ ot))]) (rest := []) ⟨hx, hb, hml, hown, hts⟩ (mX7_has l D ca H.size h a b c T E C (iZ (oZ ot)) (by omega)) (cwV 1 hts gX6_place_X7_has rfl rfl rfl (by decide +kernel) ⟨Nat.le_of_ble_eq_true rfl, Nat.le_of_ble_eq_true rfl⟩) hK hP hD (va_recv (q := (RX7, TX7, 6)) hK hP (ci := 7) (q0 := 4) rfl rfl) [4] rfl rfl rfl hl.1 rfl (Nat.le_of_ble_eq_true rfl) dX6_place_2 ⟨Nat.le_of_ble_eq_true rfl, Nat.le_of_ble_eq_true rfl⟩) hP hD hS hA [4] rfl ⟨rfl, rfl⟩ (fun r2 H locs hw2 hP hS => ?_)
  have hw2 : r2 = bI (hasB T (iZ (oZ ot))) := hw2
  subst hw2
  refine lv_if_ne (tgt := 9) hx hb dX6_place_5 (by decide) (fun h5 => ?_) (fun h5 => ?_)
  · skip
    have h5 := bI_n0.mp h5
    obtain ⟨t, hot9⟩ := has_some h5
    obtain ⟨ht, hc⟩ := hot t hot9
    have e9 : iZ (oZ ot) = nI (t) := (by rw [hot9]; exact (iZ_n t).symm)
    have hl : lv_has ls 9 [(0, .ref sc), (1, .ref h), (2, .int (iZ cr)), (3, .int (nI t))] := by rw [← e9]; exact hl
    have hb1 := CI_fr hC hT hG hk ht hc
    have hb2 := hL t ht
    have hb3 := hN t ht
    have hb4 := hcr t ht
    refine lv_aload_n hx hb dX6_place_9 rfl (lv_at hl 1 rfl) ?_
    refine va_get (D := D) (ci := 7) (v := .ref b) (C := RX7) (T := TX7) (N := 6) hx hb hts inX7 hown hK hP 4 rfl rfl 4 (by decide) f30 (fun _ h9 => h9) rfl dX6_place_10 ?_
    refine lv_iload_n hx hb dX6_place_13 rfl (lv_at hl 3 rfl) ?_
    refine xr_iald hx hb hK hP 6 0 rfl rfl (by omega) (Nat.le_of_ble_eq_true rfl) (v := iZ (N t)) rfl dX6_place_14 ?_
    refine lv_istore (lv' := [(4, .int (iZ (N t))), (0, .ref sc), (1, .ref h), (2, .int (iZ cr)), (3, .int (nI t))]) hx hb dX6_place_15 hl (by decide) rfl (fun ls hl => ?_)
    refine lv_aload_n hx hb dX6_place_17 rfl (lv_at hl 1 rfl) ?_
    refine lv_aload_n hx hb dX6_place_18 rfl (lv_at hl 1 rfl) ?_
    refine va_get (D := D) (ci := 6) (v := .ref s1) (C := RX6) (T := TX6) (N := 4) hx hb hts inX6 hown hK hP 0 rfl rfl 1 (by decide) f15 (fun _ h9 => h9) rfl dX6_place_19 ?_
    refine lv_iload_n hx hb dX6_place_22 rfl (lv_at hl 4 rfl) ?_
    refine xr_iald hx hb hK hP 1 0 rfl rfl (by omega) (Nat.le_of_ble_eq_true rfl) (v := iZ (sq t)) rfl dX6_place_23 ?_
    refine xr_top (y := nI ((sq t).toNat)) (by rw [iZ_n]; exact congrArg iZ (by omega)) ?_
    refine lv_aload_n hx hb dX6_place_24 rfl (lv_at hl 2 rfl) ?_
    refine va_get (D := D) (ci := 7) (v := .ref a) (C := RX7) (T := TX7) (N := 6) hx hb hts inX7 hown hK hP 4 rfl rfl 3 (by decide) f64 (fun _ h9 => h9) rfl dX6_place_25 ?_
    refine lv_iload_n hx hb dX6_place_28 rfl (lv_at hl 4 rfl) ?_
    refine xr_iald hx hb hK hP 5 0 rfl rfl (by omega) (Nat.le_of_ble_eq_true rfl) (v := iZ (L t)) rfl dX6_place_29 ?_
    refine lv_iload_n hx hb dX6_place_30 rfl (lv_at hl 3 rfl) ?_
    refine lv_iload hx hb dX6_place_31 (lv_at hl 0 rfl) ?_
    refine xr_isub_zz hx hb dX6_place_33 ?_
    refine xk_i [(s1, .inl (ca 0, 20, .inl (zF sq))), (s3, .inl (ca 0, 20, .inl (zF wt))), (h, .inr (7, [.int (nI T), .int (iZ E), .int (iZ C), .ref a, .ref b, .ref c])), (a, .inl (ca 0, 20, .inl (zF L))), (b, .inl (ca 0, 20, .inl (zF N))), (c, .inl (ca 0, 400, .inl (zG G)))] (fun u => [(sc, .inr (6, [.int (iZ ln), .ref s1, .ref s2, .ref s3])), (s1, .inl (ca 0, 20, .inl (zF sq))), (s2, .inl (ca 0, 1000, .inl (zF wk))), (s3, .inl (ca 0, 20, .inl (zF wt))), (h, .inr (7, [.int (nI T), .int (iZ E), .int (iZ C), .ref a, .ref b, .ref c])), (a, .inl (ca 0, 20, .inl (zF L))), (b, .inl (ca 0, 20, .inl (zF N))), (c, .inl (ca 0, 400, .inl (zG G)))]) (xk_V (As := [.int (nI ((sq t).toNat)), .int (iZ (L t)), .int (iZ (cr - (N t)))]) (rest := []) ⟨hx, hb, hml, hown, hts⟩ (mX6_leastStart l D ca H.size sc s1 s2 s3 ln wk ((sq t).toNat) (L t) (cr - (N t)) (39 * k + 9) (by omega) (by omega) (fun x h9 h10 => by rw [CI_free hC hL h9 h10]; omega) (fun x h9 => CI_wk hC hT hN h9) (by omega)) (cwV 3 hts gX6_place_X6_leastStart rfl rfl rfl (by decide +kernel) ⟨Nat.le_of_ble_eq_true rfl, Nat.le_of_ble_eq_true rfl⟩) hK hP hD (va_recv (q := (RX6, TX6, 4)) hK hP (ci := 6) (q0 := 0) rfl rfl) [0, 2] rfl rfl rfl hl.1 rfl (Nat.le_of_ble_eq_true rfl) dX6_place_34 ⟨Nat.le_of_ble_eq_true rfl, Nat.le_of_ble_eq_true rfl⟩) hP hD hS hA [0, 2] [1, 3, 4, 5, 6, 7] [6, 0, 7, 1, 2, 3, 4, 5] rfl rfl rfl rfl (fun _ => rfl) rfl (fun r34 u34 H locs hw34 hP hD hS => ?_)
    obtain ⟨d, hu34⟩ : ∃ z, z = u34 := ⟨_, rfl⟩
    subst hu34
    have hw34 : r34 = nI d ∧ FDW wk (cr - (N t)) (L t).toNat ((sq t).toNat) d ∧ d ≤ (39 * k + 9) := hw34
    have hP : va_P D vwCl [(sc, .inr (6, [.int (iZ ln), .ref s1, .ref s2, .ref s3])), (s1, .inl (ca 0, 20, .inl (zF sq))), (s2, .inl (ca 0, 1000, .inl (zF wk))), (s3, .inl (ca 0, 20, .inl (zF wt))), (h, .inr (7, [.int (nI T), .int (iZ E), .int (iZ C), .ref a, .ref b, .ref c])), (a, .inl (ca 0, 20, .inl (zF L))), (b, .inl (ca 0, 20, .inl (zF N))), (c, .inl (ca 0, 400, .inl (zG G)))] H := hP
    have hD : va_D A [(sc, .inr (6, [.int (iZ ln), .ref s1, .ref s2, .ref s3])), (s1, .inl (ca 0, 20, .inl (zF sq))), (s2, .inl (ca 0, 1000, .inl (zF wk))), (s3, .inl (ca 0, 20, .inl (zF wt))), (h, .inr (7, [.int (nI T), .int (iZ E), .int (iZ C), .ref a, .ref b, .ref c])), (a, .inl (ca 0, 20, .inl (zF L))), (b, .inl (ca 0, 20, .inl (zF N))), (c, .inl (ca 0, 400, .inl (zG G)))] := hD
    obtain ⟨hwr34, hv34⟩ := hw34
    subst hwr34
    refine lv_istore (lv' := [(5, .int (nI d)), (4, .int (iZ (N t))), (0, .ref sc), (1, .ref h), (2, .int (iZ cr)), (3, .int (nI t))]) hx hb dX6_place_37 hl (by decide) rfl (fun ls hl => ?_)
    have hb5 := hv34.2
    refine lv_iload hx hb dX6_place_39 (lv_at hl 0 rfl) ?_
    refine lv_aload_n hx hb dX6_place_41 rfl (lv_at hl 3 rfl) ?_
    refine va_get (D := D) (ci := 7) (v := .ref a) (C := RX7) (T := TX7) (N := 6) hx hb hts inX7 hown hK hP 4 rfl rfl 3 (by decide) f64 (fun _ h9 => h9) rfl dX6_place_42 ?_
    refine lv_iload_n hx hb dX6_place_45 rfl (lv_at hl 5 rfl) ?_
    refine xr_iald hx hb hK hP 5 0 rfl rfl (by omega) (Nat.le_of_ble_eq_true rfl) (v := iZ (L t)) rfl dX6_place_46 ?_
    refine xr_iadd_nz hx hb dX6_place_47 ?_
    refine lv_istore (lv' := [(6, .int (iZ (((d : Nat) : Int) + (L t)))), (5, .int (nI d)), (4, .int (iZ (N t))), (0, .ref sc), (1, .ref h), (2, .int (iZ cr)), (3, .int (nI t))]) hx hb dX6_place_48 hl (by decide) rfl (fun ls hl => ?_)
    refine lv_aload_n hx hb dX6_place_50 rfl (lv_at hl 3 rfl) ?_
    refine va_get (D := D) (ci := 6) (v := .ref s1) (C := RX6) (T := TX6) (N := 4) hx hb hts inX6 hown hK hP 0 rfl rfl 1 (by decide) f15 (fun _ h9 => h9) rfl dX6_place_51 ?_
    refine lv_iload_n hx hb dX6_place_54 rfl (lv_at hl 6 rfl) ?_
    refine lv_iload hx hb dX6_place_55 (lv_at hl 1 rfl) ?_
    refine xr_iast hx hb hK hP hD hS 1 0 rfl rfl (by omega) (Nat.le_of_ble_eq_true rfl) (zF (upZ sq t ((d : Nat) : Int))) (fun _ _ => zF_upn _ _ _ _) dX6_place_57 (fun H locs hP hD hS => ?_)
    have hP : va_P D vwCl [(sc, .inr (6, [.int (iZ ln), .ref s1, .ref s2, .ref s3])), (s1, .inl (ca 0, 20, .inl (zF (upZ sq t ((d : Nat) : Int))))), (s2, .inl (ca 0, 1000, .inl (zF wk))), (s3, .inl (ca 0, 20, .inl (zF wt))), (h, .inr (7, [.int (nI T), .int (iZ E), .int (iZ C), .ref a, .ref b, .ref c])), (a, .inl (ca 0, 20, .inl (zF L))), (b, .inl (ca 0, 20, .inl (zF N))), (c, .inl (ca 0, 400, .inl (zG G)))] H := hP
    have hD : va_D A [(sc, .inr (6, [.int (iZ ln), .ref s1, .ref s2, .ref s3])), (s1, .inl (ca 0, 20, .inl (zF (upZ sq t ((d : Nat) : Int))))), (s2, .inl (ca 0, 1000, .inl (zF wk))), (s3, .inl (ca 0, 20, .inl (zF wt))), (h, .inr (7, [.int (nI T), .int (iZ E), .int (iZ C), .ref a, .ref b, .ref c])), (a, .inl (ca 0, 20, .inl (zF L))), (b, .inl (ca 0, 20, .inl (zF N))), (c, .inl (ca 0, 400, .inl (zG G)))] := hD
    refine lv_aload_n hx hb dX6_place_58 rfl (lv_at hl 3 rfl) ?_
    refine va_get (D := D) (ci := 6) (v := .ref s3) (C := RX6) (T := TX6) (N := 4) hx hb hts inX6 hown hK hP 0 rfl rfl 3 (by decide) f22 (fun _ h9 => h9) rfl dX6_place_59 ?_
    refine lv_iload_n hx hb dX6_place_62 rfl (lv_at hl 6 rfl) ?_
    refine lv_iconst (v := iZ (-1)) hx hb dX6_place_63 (by decide) ?_
    refine xr_iast hx hb hK hP hD hS 3 0 rfl rfl (by omega) (Nat.le_of_ble_eq_true rfl) (zF (upZ wt t (-1))) (fun _ _ => zF_up _ _ _ _) dX6_place_64 (fun H locs hP hD hS => ?_)
    have hP : va_P D vwCl [(sc, .inr (6, [.int (iZ ln), .ref s1, .ref s2, .ref s3])), (s1, .inl (ca 0, 20, .inl (zF (upZ sq t ((d : Nat) : Int))))), (s2, .inl (ca 0, 1000, .inl (zF wk))), (s3, .inl (ca 0, 20, .inl (zF (upZ wt t (-1))))), (h, .inr (7, [.int (nI T), .int (iZ E), .int (iZ C), .ref a, .ref b, .ref c])), (a, .inl (ca 0, 20, .inl (zF L))), (b, .inl (ca 0, 20, .inl (zF N))), (c, .inl (ca 0, 400, .inl (zG G)))] H := hP
    have hD : va_D A [(sc, .inr (6, [.int (iZ ln), .ref s1, .ref s2, .ref s3])), (s1, .inl (ca 0, 20, .inl (zF (upZ sq t ((d : Nat) : Int))))), (s2, .inl (ca 0, 1000, .inl (zF wk))), (s3, .inl (ca 0, 20, .inl (zF (upZ wt t (-1))))), (h, .inr (7, [.int (nI T), .int (iZ E), .int (iZ C), .ref a, .ref b, .ref c])), (a, .inl (ca 0, 20, .inl (zF L))), (b, .inl (ca 0, 20, .inl (zF N))), (c, .inl (ca 0, 400, .inl (zG G)))] := hD
    refine lv_aload_n hx hb dX6_place_65 rfl (lv_at hl 3 rfl) ?_
    refine lv_aload_n hx hb dX6_place_66 rfl (lv_at hl 3 rfl) ?_
    refine va_get (D := D) (ci := 6) (v := .int (iZ ln)) (C := RX6) (T := TX6) (N := 4) hx hb hts inX6 hown hK hP 0 rfl rfl 0 (by decide) f9 (fun _ h9 => h9) rfl dX6_place_67 ?_
    have hb6 := CI_ln hC
    refine lv_iload hx hb dX6_place_70 (lv_at hl 0 rfl) ?_
    refine va_mmax hx hb (by rw [hml]; exact hl.1.symm) hown ml71 stmax iniM cdmax (Nat.le_of_ble_eq_true rfl) (Nat.le_of_ble_eq_true rfl) (Nat.zero_le _) (Nat.zero_le _) dX6_place_72 ?_
    refine xr_top (y := iZ (max ln (((d : Nat) : Int) + (L t)))) (imax (iZ_toInt (by omega) (by omega)) (iZ_toInt (by omega) (by omega))) ?_
    refine va_put (D := D) (ci := 6) (v := .int (iZ (max ln (((d : Nat) : Int) + (L t))))) (ty := .int) (C := RX6) (T := TX6) (N := 4) hx hb hts inX6 tyX6 tyX6_ok nmX6 hown hK hP hD hS 0 rfl rfl 0 (by decide) f9 (fun _ h9 => h9) rfl (by decide +kernel) rfl rfl (Nat.le_of_ble_eq_true rfl) dX6_place_75 (fun H locs hP hD hS => ?_)
    have hP : va_P D vwCl [(sc, .inr (6, [.int (iZ (max ln (((d : Nat) : Int) + (L t)))), .ref s1, .ref s2, .ref s3])), (s1, .inl (ca 0, 20, .inl (zF (upZ sq t ((d : Nat) : Int))))), (s2, .inl (ca 0, 1000, .inl (zF wk))), (s3, .inl (ca 0, 20, .inl (zF (upZ wt t (-1))))), (h, .inr (7, [.int (nI T), .int (iZ E), .int (iZ C), .ref a, .ref b, .ref c])), (a, .inl (ca 0, 20, .inl (zF L))), (b, .inl (ca 0, 20, .inl (zF N))), (c, .inl (ca 0, 400, .inl (zG G)))] H := hP
    have hD : va_D A [(sc, .inr (6, [.int (iZ (max ln (((d : Nat) : Int) + (L t)))), .ref s1, .ref s2, .ref s3])), (s1, .inl (ca 0, 20, .inl (zF (upZ sq t ((d : Nat) : Int))))), (s2, .inl (ca 0, 1000, .inl (zF wk))), (s3, .inl (ca 0, 20, .inl (zF (upZ wt t (-1))))), (h, .inr (7, [.int (nI T), .int (iZ E), .int (iZ C), .ref a, .ref b, .ref c])), (a, .inl (ca 0, 20, .inl (zF L))), (b, .inl (ca 0, 20, .inl (zF N))), (c, .inl (ca 0, 400, .inl (zG G)))] := hD
    refine lv_iload hx hb dX6_place_78 (lv_at hl 1 rfl) ?_
    refine lv_istore (lv' := [(7, .int (nI d)), (6, .int (iZ (((d : Nat) : Int) + (L t)))), (5, .int (nI d)), (4, .int (iZ (N t))), (0, .ref sc), (1, .ref h), (2, .int (iZ cr)), (3, .int (nI t))]) hx hb dX6_place_80 hl (by decide) rfl (fun ls hl => ?_)
    have L82 : ∀ (fu : Nat) (x : Nat) (wk2 : Nat → Int), (d ≤ x) → (x : Int) ≤ (d : Int) + L t → (wk2 = gpu (fun x => decide (d ≤ x)) wk (fun x => wk x + N t) x) → (1000 - x) < fu → ∀ (H : Heap) (locs : List Loc), va_P D vwCl [(sc, .inr (6, [.int (iZ (max ln (((d : Nat) : Int) + (L t)))), .ref s1, .ref s2, .ref s3])), (s1, .inl (ca 0, 20, .inl (zF (upZ sq t ((d : Nat) : Int))))), (s2, .inl (ca 0, 1000, .inl (zF wk2))), (s3, .inl (ca 0, 20, .inl (zF (upZ wt t (-1))))), (h, .inr (7, [.int (nI T), .int (iZ E), .int (iZ C), .ref a, .ref b, .ref c])), (a, .inl (ca 0, 20, .inl (zF L))), (b, .inl (ca 0, 20, .inl (zF N))), (c, .inl (ca 0, 400, .inl (zG G)))] H → va_D A [(sc, .inr (6, [.int (iZ (max ln (((d : Nat) : Int) + (L t)))), .ref s1, .ref s2, .ref s3])), (s1, .inl (ca 0, 20, .inl (zF (upZ sq t ((d : Nat) : Int))))), (s2, .inl (ca 0, 1000, .inl (zF wk2))), (s3, .inl (ca 0, 20, .inl (zF (upZ wt t (-1))))), (h, .inr (7, [.int (nI T), .int (iZ E), .int (iZ C), .ref a, .ref b, .ref c])), (a, .inl (ca 0, 20, .inl (zF L))), (b, .inl (ca 0, 20, .inl (zF N))), (c, .inl (ca 0, 400, .inl (zG G)))] → va_S A s.heap H locs → ∀ ls : Array Slot, lv_has ls 9 [(7, .int (nI x)), (6, .int (iZ (((d : Nat) : Int) + (L t)))), (5, .int (nI d)), (4, .int (iZ (N t))), (0, .ref sc), (1, .ref h), (2, .int (iZ cr)), (3, .int (nI t))] → W pG l eV rX6_place s mI args below meth cO H locs 0 0 Q (F0 mI 82 ls []) := by
      clear hP hD hS hl
      intro fu; induction fu with
      | zero => intro x wk2 hx1 hx2 hwk hmu; exact absurd hmu (Nat.not_lt_zero _)
      | succ n82 ih82 =>
        intro x wk2 hx1 hx2 hwk hmu82 H locs hP hD hS ls hl
        refine lv_iload hx hb dX6_place_82 (lv_at hl 0 rfl) ?_
        refine lv_iload hx hb dX6_place_84 (lv_at hl 1 rfl) ?_
        refine lv_icmp_ge (tgt := 115) hx hb dX6_place_86 (by decide) (fun h86 => ?_) (fun h86 => ?_)
        · skip
          have h86 := (cL (iZ_toInt (by omega) (by omega)) (nI_toInt (by omega))).mp h86
          refine lv_iconst (v := nI (0)) hx hb dX6_place_115 (by decide) ?_
          refine lv_istore (lv' := [(7, .int (nI 0)), (6, .int (iZ (((d : Nat) : Int) + (L t)))), (5, .int (nI d)), (4, .int (iZ (N t))), (0, .ref sc), (1, .ref h), (2, .int (iZ cr)), (3, .int (nI t))]) hx hb dX6_place_116 hl (by decide) rfl (fun ls hl => ?_)
          have L118 : ∀ (fu : Nat) (u : Nat) (sq2 : Nat → Int) (wt2 : Nat → Int), (u ≤ T) → (sq2 = gpu (fun j => decide (G t j ≠ -1)) (upZ sq t (d : Int)) (fun j => max (upZ sq t (d : Int) j) ((d : Int) + L t + G t j)) u) → (wt2 = gpu (fun j => decide (G t j ≠ -1)) (upZ wt t (-1)) (fun j => upZ wt t (-1) j - 1) u) → (T - u) < fu → ∀ (H : Heap) (locs : List Loc), va_P D vwCl [(sc, .inr (6, [.int (iZ (max ln (((d : Nat) : Int) + (L t)))), .ref s1, .ref s2, .ref s3])), (s1, .inl (ca 0, 20, .inl (zF sq2))), (s2, .inl (ca 0, 1000, .inl (zF wk2))), (s3, .inl (ca 0, 20, .inl (zF wt2))), (h, .inr (7, [.int (nI T), .int (iZ E), .int (iZ C), .ref a, .ref b, .ref c])), (a, .inl (ca 0, 20, .inl (zF L))), (b, .inl (ca 0, 20, .inl (zF N))), (c, .inl (ca 0, 400, .inl (zG G)))] H → va_D A [(sc, .inr (6, [.int (iZ (max ln (((d : Nat) : Int) + (L t)))), .ref s1, .ref s2, .ref s3])), (s1, .inl (ca 0, 20, .inl (zF sq2))), (s2, .inl (ca 0, 1000, .inl (zF wk2))), (s3, .inl (ca 0, 20, .inl (zF wt2))), (h, .inr (7, [.int (nI T), .int (iZ E), .int (iZ C), .ref a, .ref b, .ref c])), (a, .inl (ca 0, 20, .inl (zF L))), (b, .inl (ca 0, 20, .inl (zF N))), (c, .inl (ca 0, 400, .inl (zG G)))] → va_S A s.heap H locs → ∀ ls : Array Slot, lv_has ls 9 [(7, .int (nI u)), (6, .int (iZ (((d : Nat) : Int) + (L t)))), (5, .int (nI d)), (4, .int (iZ (N t))), (0, .ref sc), (1, .ref h), (2, .int (iZ cr)), (3, .int (nI t))] → W pG l eV rX6_place s mI args below meth cO H locs 0 0 Q (F0 mI 118 ls []) := by
            clear hP hD hS hl
            intro fu; induction fu with
            | zero => intro u sq2 wt2 hu hsq hwt hmu; exact absurd hmu (Nat.not_lt_zero _)
            | succ n118 ih118 =>
              intro u sq2 wt2 hu hsq hwt hmu118 H locs hP hD hS ls hl
              refine lv_iload hx hb dX6_place_118 (lv_at hl 0 rfl) ?_
              refine lv_aload_n hx hb dX6_place_120 rfl (lv_at hl 5 rfl) ?_
              refine va_get (D := D) (ci := 7) (v := .int (nI T)) (C := RX7) (T := TX7) (N := 6) hx hb hts inX7 hown hK hP 4 rfl rfl 0 (by decide) f25 (fun _ h9 => h9) rfl dX6_place_121 ?_
              refine lv_icmp_ge (tgt := 181) hx hb dX6_place_124 (by decide) (fun h124 => ?_) (fun h124 => ?_)
              · skip
                have h124 := (cL (nI_toInt (by omega)) (nI_toInt (by omega))).mp h124
                rw [← hE]
                exact xe_v (max ln (((d : Nat) : Int) + (L t)), sq2, wk2, wt2) hx hb hr hlocks hK hP hD hS (by rw [hot9, hsq, hwt, hwk, show u = T by omega, show x = d + (L t).toNat by omega]; exact CI_step hC hT hG hL hk ht hc (by rw [← hb1.2.2]; exact hv34.1) hb5) dX6_place_181
              · skip
                have h124 := (not_congr (cL (nI_toInt (by omega)) (nI_toInt (by omega)))).mp h124
                refine lv_aload_n hx hb dX6_place_127 rfl (lv_at hl 5 rfl) ?_
                refine lv_iload_n hx hb dX6_place_128 rfl (lv_at hl 7 rfl) ?_
                refine lv_iload hx hb dX6_place_129 (lv_at hl 0 rfl) ?_
                refine xk_pi (xk_V (As := [.int (nI t), .int (nI u)]) (rest := []) ⟨hx, hb, hml, hown, hts⟩ (mX7_lag l D ca H.size h a b c T E C G t u (by omega) (by omega) (by omega)) (cwV 2 hts gX6_place_X7_lag rfl rfl rfl (by decide +kernel) ⟨Nat.le_of_ble_eq_true rfl, Nat.le_of_ble_eq_true rfl⟩) hK hP hD (va_recv (q := (RX7, TX7, 6)) hK hP (ci := 7) (q0 := 4) rfl rfl) [4, 7] rfl rfl rfl hl.1 rfl (Nat.le_of_ble_eq_true rfl) dX6_place_131 ⟨Nat.le_of_ble_eq_true rfl, Nat.le_of_ble_eq_true rfl⟩) hP hD hS hA [4, 7] rfl ⟨rfl, rfl⟩ (fun r131 H locs hw131 hP hS => ?_)
                have hw131 : r131 = iZ (G t u) := hw131
                subst hw131
                have hb7 := hG t u (by omega) (by omega)
                refine lv_istore (lv' := [(8, .int (iZ (G t u))), (7, .int (nI u)), (6, .int (iZ (((d : Nat) : Int) + (L t)))), (5, .int (nI d)), (4, .int (iZ (N t))), (0, .ref sc), (1, .ref h), (2, .int (iZ cr)), (3, .int (nI t))]) hx hb dX6_place_134 hl (by decide) rfl (fun ls hl => ?_)
                refine lv_iload hx hb dX6_place_136 (lv_at hl 0 rfl) ?_
                refine lv_iconst (v := iZ (-1)) hx hb dX6_place_138 (by decide) ?_
                refine lv_icmp_eq (tgt := 175) hx hb dX6_place_139 (by decide) (fun h139 => ?_) (fun h139 => ?_)
                · skip
                  have h139 := (cE (iZ_toInt (by omega) (by omega)) (iZ_toInt (by omega) (by omega))).mp h139
                  refine lv_iinc (v := nI (u + 1)) (lv' := [(7, .int (nI (u + 1))), (8, .int (iZ (G t u))), (6, .int (iZ (((d : Nat) : Int) + (L t)))), (5, .int (nI d)), (4, .int (iZ (N t))), (0, .ref sc), (1, .ref h), (2, .int (iZ cr)), (3, .int (nI t))]) hx hb dX6_place_175 hl (k := 1) rfl (nI_add _ 1) (by decide) rfl (fun ls hl => ?_)
                  refine lv_goto (tgt := 118) hx hb dX6_place_178 (by decide) ?_
                  exact ih118 (u + 1) sq2 wt2 (by omega) (by rw [hsq]; exact gpu_n (decide_eq_false (not_not_intro h139))) (by rw [hwt]; exact gpu_n (decide_eq_false (not_not_intro h139))) (by omega) _ _ hP hD hS _ (lv_sub hl [0, 2, 3, 4, 5, 6, 7, 8] rfl)
                · skip
                  have h139 := (not_congr (cE (iZ_toInt (by omega) (by omega)) (iZ_toInt (by omega) (by omega)))).mp h139
                  refine lv_aload_n hx hb dX6_place_142 rfl (lv_at hl 5 rfl) ?_
                  refine va_get (D := D) (ci := 6) (v := .ref s3) (C := RX6) (T := TX6) (N := 4) hx hb hts inX6 hown hK hP 0 rfl rfl 3 (by decide) f22 (fun _ h9 => h9) rfl dX6_place_143 ?_
                  refine lv_iload hx hb dX6_place_146 (lv_at hl 1 rfl) ?_
                  refine lv_dup2_11 hx hb dX6_place_148 rfl rfl ?_
                  refine xr_iald hx hb hK hP 3 0 rfl rfl (by omega) (Nat.le_of_ble_eq_true rfl) (v := iZ (wt2 u)) rfl dX6_place_149 ?_
                  refine lv_iconst (v := nI (1)) hx hb dX6_place_150 (by decide) ?_
                  refine xr_isub_zn hx hb dX6_place_151 ?_
                  refine xr_iast hx hb hK hP hD hS 3 0 rfl rfl (by omega) (Nat.le_of_ble_eq_true rfl) (zF (upZ wt2 u ((wt2 u) - 1))) (fun _ _ => zF_up _ _ _ _) dX6_place_152 (fun H locs hP hD hS => ?_)
                  have hP : va_P D vwCl [(sc, .inr (6, [.int (iZ (max ln (((d : Nat) : Int) + (L t)))), .ref s1, .ref s2, .ref s3])), (s1, .inl (ca 0, 20, .inl (zF sq2))), (s2, .inl (ca 0, 1000, .inl (zF wk2))), (s3, .inl (ca 0, 20, .inl (zF (upZ wt2 u ((wt2 u) - 1))))), (h, .inr (7, [.int (nI T), .int (iZ E), .int (iZ C), .ref a, .ref b, .ref c])), (a, .inl (ca 0, 20, .inl (zF L))), (b, .inl (ca 0, 20, .inl (zF N))), (c, .inl (ca 0, 400, .inl (zG G)))] H := hP
                  have hD : va_D A [(sc, .inr (6, [.int (iZ (max ln (((d : Nat) : Int) + (L t)))), .ref s1, .ref s2, .ref s3])), (s1, .inl (ca 0, 20, .inl (zF sq2))), (s2, .inl (ca 0, 1000, .inl (zF wk2))), (s3, .inl (ca 0, 20, .inl (zF (upZ wt2 u ((wt2 u) - 1))))), (h, .inr (7, [.int (nI T), .int (iZ E), .int (iZ C), .ref a, .ref b, .ref c])), (a, .inl (ca 0, 20, .inl (zF L))), (b, .inl (ca 0, 20, .inl (zF N))), (c, .inl (ca 0, 400, .inl (zG G)))] := hD
                  refine lv_aload_n hx hb dX6_place_153 rfl (lv_at hl 5 rfl) ?_
                  refine va_get (D := D) (ci := 6) (v := .ref s1) (C := RX6) (T := TX6) (N := 4) hx hb hts inX6 hown hK hP 0 rfl rfl 1 (by decide) f15 (fun _ h9 => h9) rfl dX6_place_154 ?_
                  refine lv_iload hx hb dX6_place_157 (lv_at hl 1 rfl) ?_
                  refine lv_aload_n hx hb dX6_place_159 rfl (lv_at hl 5 rfl) ?_
                  refine va_get (D := D) (ci := 6) (v := .ref s1) (C := RX6) (T := TX6) (N := 4) hx hb hts inX6 hown hK hP 0 rfl rfl 1 (by decide) f15 (fun _ h9 => h9) rfl dX6_place_160 ?_
                  refine lv_iload hx hb dX6_place_163 (lv_at hl 1 rfl) ?_
                  have hb8 : 0 ≤ sq2 u ∧ sq2 u ≤ 900 := by rw [hsq, gpu_self]; have := CI_sq hC hT hG hL (show u < T by omega); exact (if q : u = t then (by rw [q, upZ_s]; omega) else (by rw [upZ_n q]; omega))
                  refine xr_iald hx hb hK hP 1 0 rfl rfl (by omega) (Nat.le_of_ble_eq_true rfl) (v := iZ (sq2 u)) rfl dX6_place_165 ?_
                  refine lv_iload hx hb dX6_place_166 (lv_at hl 2 rfl) ?_
                  refine lv_iload hx hb dX6_place_168 (lv_at hl 0 rfl) ?_
                  refine xr_iadd_zz hx hb dX6_place_170 ?_
                  refine va_mmax hx hb (by rw [hml]; exact hl.1.symm) hown ml71 stmax iniM cdmax (Nat.le_of_ble_eq_true rfl) (Nat.le_of_ble_eq_true rfl) (Nat.zero_le _) (Nat.zero_le _) dX6_place_171 ?_
                  refine xr_top (y := iZ (max (sq2 u) ((((d : Nat) : Int) + (L t)) + (G t u)))) (imax (iZ_toInt (by omega) (by omega)) (iZ_toInt (by omega) (by omega))) ?_
                  refine xr_iast hx hb hK hP hD hS 1 0 rfl rfl (by omega) (Nat.le_of_ble_eq_true rfl) (zF (upZ sq2 u (max (sq2 u) ((((d : Nat) : Int) + (L t)) + (G t u))))) (fun _ _ => zF_up _ _ _ _) dX6_place_174 (fun H locs hP hD hS => ?_)
                  have hP : va_P D vwCl [(sc, .inr (6, [.int (iZ (max ln (((d : Nat) : Int) + (L t)))), .ref s1, .ref s2, .ref s3])), (s1, .inl (ca 0, 20, .inl (zF (upZ sq2 u (max (sq2 u) ((((d : Nat) : Int) + (L t)) + (G t u))))))), (s2, .inl (ca 0, 1000, .inl (zF wk2))), (s3, .inl (ca 0, 20, .inl (zF (upZ wt2 u ((wt2 u) - 1))))), (h, .inr (7, [.int (nI T), .int (iZ E), .int (iZ C), .ref a, .ref b, .ref c])), (a, .inl (ca 0, 20, .inl (zF L))), (b, .inl (ca 0, 20, .inl (zF N))), (c, .inl (ca 0, 400, .inl (zG G)))] H := hP
                  have hD : va_D A [(sc, .inr (6, [.int (iZ (max ln (((d : Nat) : Int) + (L t)))), .ref s1, .ref s2, .ref s3])), (s1, .inl (ca 0, 20, .inl (zF (upZ sq2 u (max (sq2 u) ((((d : Nat) : Int) + (L t)) + (G t u))))))), (s2, .inl (ca 0, 1000, .inl (zF wk2))), (s3, .inl (ca 0, 20, .inl (zF (upZ wt2 u ((wt2 u) - 1))))), (h, .inr (7, [.int (nI T), .int (iZ E), .int (iZ C), .ref a, .ref b, .ref c])), (a, .inl (ca 0, 20, .inl (zF L))), (b, .inl (ca 0, 20, .inl (zF N))), (c, .inl (ca 0, 400, .inl (zG G)))] := hD
                  refine lv_iinc (v := nI (u + 1)) (lv' := [(7, .int (nI (u + 1))), (8, .int (iZ (G t u))), (6, .int (iZ (((d : Nat) : Int) + (L t)))), (5, .int (nI d)), (4, .int (iZ (N t))), (0, .ref sc), (1, .ref h), (2, .int (iZ cr)), (3, .int (nI t))]) hx hb dX6_place_175 hl (k := 1) rfl (nI_add _ 1) (by decide) rfl (fun ls hl => ?_)
                  refine lv_goto (tgt := 118) hx hb dX6_place_178 (by decide) ?_
                  exact ih118 (u + 1) (upZ sq2 u (max (sq2 u) ((((d : Nat) : Int) + (L t)) + (G t u)))) (upZ wt2 u ((wt2 u) - 1)) (by omega) (by rw [hsq, gpu_self]; exact gpu_y (decide_eq_true h139)) (by rw [hwt, gpu_self]; exact gpu_y (decide_eq_true h139)) (by omega) _ _ hP hD hS _ (lv_sub hl [0, 2, 3, 4, 5, 6, 7, 8] rfl)
          exact L118 _ 0 (upZ sq t ((d : Nat) : Int)) (upZ wt t (-1)) (by omega) (gpu_0 (fun j hj => absurd hj (Nat.not_lt_zero j))) (gpu_0 (fun j hj => absurd hj (Nat.not_lt_zero j))) (Nat.lt_succ_self _) _ _ hP hD hS _ (lv_sub hl [0, 1, 2, 3, 4, 5, 6, 7] rfl)
        · skip
          have h86 := (not_congr (cL (iZ_toInt (by omega) (by omega)) (nI_toInt (by omega)))).mp h86
          refine lv_iload hx hb dX6_place_89 (lv_at hl 0 rfl) ?_
          refine lv_sipush (v := nI (1000)) hx hb dX6_place_91 (by decide) ?_
          refine lv_icmp_ge (tgt := 115) hx hb dX6_place_94 (by decide) (fun h94 => ?_) (fun h94 => ?_)
          · skip
            have h94 := (cL (nI_toInt (by omega)) (nI_toInt (by omega))).mp h94
            exact absurd h94 (by omega)
          · skip
            have h94 := (not_congr (cL (nI_toInt (by omega)) (nI_toInt (by omega)))).mp h94
            refine lv_aload_n hx hb dX6_place_97 rfl (lv_at hl 4 rfl) ?_
            refine va_get (D := D) (ci := 6) (v := .ref s2) (C := RX6) (T := TX6) (N := 4) hx hb hts inX6 hown hK hP 0 rfl rfl 2 (by decide) f19 (fun _ h9 => h9) rfl dX6_place_98 ?_
            refine lv_iload hx hb dX6_place_101 (lv_at hl 0 rfl) ?_
            refine lv_dup2_11 hx hb dX6_place_103 rfl rfl ?_
            refine xr_iald hx hb hK hP 2 0 rfl rfl (by omega) (Nat.le_of_ble_eq_true rfl) (v := iZ (wk2 x)) rfl dX6_place_104 ?_
            refine lv_iload hx hb dX6_place_105 (lv_at hl 3 rfl) ?_
            refine xr_iadd_zz hx hb dX6_place_107 ?_
            refine xr_iast hx hb hK hP hD hS 2 0 rfl rfl (by omega) (Nat.le_of_ble_eq_true rfl) (zF (upZ wk2 x ((wk2 x) + (N t)))) (fun _ _ => zF_up _ _ _ _) dX6_place_108 (fun H locs hP hD hS => ?_)
            have hP : va_P D vwCl [(sc, .inr (6, [.int (iZ (max ln (((d : Nat) : Int) + (L t)))), .ref s1, .ref s2, .ref s3])), (s1, .inl (ca 0, 20, .inl (zF (upZ sq t ((d : Nat) : Int))))), (s2, .inl (ca 0, 1000, .inl (zF (upZ wk2 x ((wk2 x) + (N t)))))), (s3, .inl (ca 0, 20, .inl (zF (upZ wt t (-1))))), (h, .inr (7, [.int (nI T), .int (iZ E), .int (iZ C), .ref a, .ref b, .ref c])), (a, .inl (ca 0, 20, .inl (zF L))), (b, .inl (ca 0, 20, .inl (zF N))), (c, .inl (ca 0, 400, .inl (zG G)))] H := hP
            have hD : va_D A [(sc, .inr (6, [.int (iZ (max ln (((d : Nat) : Int) + (L t)))), .ref s1, .ref s2, .ref s3])), (s1, .inl (ca 0, 20, .inl (zF (upZ sq t ((d : Nat) : Int))))), (s2, .inl (ca 0, 1000, .inl (zF (upZ wk2 x ((wk2 x) + (N t)))))), (s3, .inl (ca 0, 20, .inl (zF (upZ wt t (-1))))), (h, .inr (7, [.int (nI T), .int (iZ E), .int (iZ C), .ref a, .ref b, .ref c])), (a, .inl (ca 0, 20, .inl (zF L))), (b, .inl (ca 0, 20, .inl (zF N))), (c, .inl (ca 0, 400, .inl (zG G)))] := hD
            refine lv_iinc (v := nI (x + 1)) (lv' := [(7, .int (nI (x + 1))), (6, .int (iZ (((d : Nat) : Int) + (L t)))), (5, .int (nI d)), (4, .int (iZ (N t))), (0, .ref sc), (1, .ref h), (2, .int (iZ cr)), (3, .int (nI t))]) hx hb dX6_place_109 hl (k := 0) rfl (nI_add _ 1) (by decide) rfl (fun ls hl => ?_)
            refine lv_goto (tgt := 82) hx hb dX6_place_112 (by decide) ?_
            exact ih82 (x + 1) (upZ wk2 x ((wk2 x) + (N t))) (by omega) (by omega) (by rw [hwk, gpu_self]; exact gpu_y (decide_eq_true hx1)) (by omega) _ _ hP hD hS _ (lv_sub hl [0, 1, 2, 3, 4, 5, 6, 7] rfl)
    exact L82 _ d wk (by omega) (by omega) (gpu_0 (fun j hj => decide_eq_false (by omega))) (Nat.lt_succ_self _) _ _ hP hD hS _ (lv_sub hl [0, 1, 2, 3, 4, 5, 6, 7] rfl)
  · skip
    have h5 := bI_0.mp h5
    have hon := has_none hT (fun t ht => (hot t ht).1) h5
    rw [← hE]
    exact xe_v (ln, sq, wk, wt) hx hb hr hlocks hK hP hD hS (by rw [hon]; exact CI_mono hC) dX6_place_8
def rX6_build : Room := { frames := 4, cells := 0, slots := 0, locals := 88 }
set_option maxHeartbeats 4000000 in
set_option maxRecDepth 100000 in
/-- build(plan, crews, days) -/
theorem mX6_build (l : Launch) (D : va_G) (ca : Nat → ClassId) (sz : Nat) (sc : Nat) (s1 : Nat) (s2 : Nat) (s3 : Nat) (h : Nat) (a : Nat) (b : Nat) (c : Nat) (T : Nat) (E : Int) (C : Int) (d : Nat) (de : Nat) (dl : Nat) (dn : Nat) (o : Nat) (ln : Int) (sq : Nat → Int) (wk : Nat → Int) (wt : Nat → Int) (L : Nat → Int) (N : Nat → Int) (G : Nat → Nat → Int) (sp : Int) (f : Nat → Int) (cr : Int) (hT : T ≤ 20) (hG : GOK G) (hac : ACY G T) (hL : L30 T L) (hN : NOK T N) (hcr9 : 0 ≤ cr ∧ cr ≤ 900) (hf : ∀ t, t < T → -5000 ≤ f t ∧ f t ≤ 5000) : MM l yX6_build wsX6_build rX6_build D ca [.ref sc, .ref h, .int (iZ cr), .ref d] sz [(sc, .inr (6, [.int (iZ ln), .ref s1, .ref s2, .ref s3])), (s1, .inl (ca 0, 20, .inl (zF sq))), (s2, .inl (ca 0, 1000, .inl (zF wk))), (s3, .inl (ca 0, 20, .inl (zF wt))), (h, .inr (7, [.int (nI T), .int (iZ E), .int (iZ C), .ref a, .ref b, .ref c])), (a, .inl (ca 0, 20, .inl (zF L))), (b, .inl (ca 0, 20, .inl (zF N))), (c, .inl (ca 0, 400, .inl (zG G))), (d, .inr (1, [.ref de, .ref dl, .int (iZ sp), .ref dn, .ref o])), (dl, .inl (ca 0, 20, .inl (zF f)))] (QI D ca (fun (r : Int32) (u : Int × (Nat → Int) × (Nat → Int) × (Nat → Int)) => r = bI (nOK N cr T) ∧ (nOK N cr T = true → SD G T L N f cr u.2.1 u.2.2.1 u.1)) (fun u => [(sc, .inr (6, [.int (iZ u.1), .ref s1, .ref s2, .ref s3])), (s1, .inl (ca 0, 20, .inl (zF u.2.1))), (s2, .inl (ca 0, 1000, .inl (zF u.2.2.1))), (s3, .inl (ca 0, 20, .inl (zF u.2.2.2))), (h, .inr (7, [.int (nI T), .int (iZ E), .int (iZ C), .ref a, .ref b, .ref c])), (a, .inl (ca 0, 20, .inl (zF L))), (b, .inl (ca 0, 20, .inl (zF N))), (c, .inl (ca 0, 400, .inl (zG G))), (d, .inr (1, [.ref de, .ref dl, .int (iZ sp), .ref dn, .ref o])), (dl, .inl (ca 0, 20, .inl (zF f)))])) := by
  refine MM_of (cc := cX6_build) (maxL := 5) (ret := (some .boolean)) (lv0 := [(0, .ref sc), (1, .ref h), (2, .int (iZ cr)), (3, .ref d)]) RX6 (by decide) rfl rfl (Nat.le_of_ble_eq_true rfl) rfl ?_
  intro pG eV s mI args below meth cO hx hb hr hml hts hown hlocks hnm A hA H locs hsz hP hK hD hS Q hE ls hl
  have f25 := hts (.fieldLink RX6 25 "SlackPlan$State" "tasks" "I") (List.mem_of_getElem? (i := 1) rfl)
  have inX7 : ∀ w ∈ u_ws RX7 TX7 6, w ∈ wsX6_build := in_r _ [51, 52, 53, 54, 55, 56] rfl
  have f30 := hts (.fieldLink RX6 30 "SlackPlan$State" "needs" "[I") (List.mem_of_getElem? (i := 2) rfl)
  refine lv_iconst (v := nI (0)) hx hb dX6_build_0 (by decide) ?_
  refine lv_istore (lv' := [(4, .int (nI 0)), (0, .ref sc), (1, .ref h), (2, .int (iZ cr)), (3, .ref d)]) hx hb dX6_build_1 hl (by decide) rfl (fun ls hl => ?_)
  have L3 : ∀ (fu : Nat) (k : Nat), (k ≤ T) → (nOK N cr k = true) → (T - k) < fu → ∀ (H : Heap) (locs : List Loc), va_P D vwCl [(sc, .inr (6, [.int (iZ ln), .ref s1, .ref s2, .ref s3])), (s1, .inl (ca 0, 20, .inl (zF sq))), (s2, .inl (ca 0, 1000, .inl (zF wk))), (s3, .inl (ca 0, 20, .inl (zF wt))), (h, .inr (7, [.int (nI T), .int (iZ E), .int (iZ C), .ref a, .ref b, .ref c])), (a, .inl (ca 0, 20, .inl (zF L))), (b, .inl (ca 0, 20, .inl (zF N))), (c, .inl (ca 0, 400, .inl (zG G))), (d, .inr (1, [.ref de, .ref dl, .int (iZ sp), .ref dn, .ref o])), (dl, .inl (ca 0, 20, .inl (zF f)))] H → va_D A [(sc, .inr (6, [.int (iZ ln), .ref s1, .ref s2, .ref s3])), (s1, .inl (ca 0, 20, .inl (zF sq))), (s2, .inl (ca 0, 1000, .inl (zF wk))), (s3, .inl (ca 0, 20, .inl (zF wt))), (h, .inr (7, [.int (nI T), .int (iZ E), .int (iZ C), .ref a, .ref b, .ref c])), (a, .inl (ca 0, 20, .inl (zF L))), (b, .inl (ca 0, 20, .inl (zF N))), (c, .inl (ca 0, 400, .inl (zG G))), (d, .inr (1, [.ref de, .ref dl, .int (iZ sp), .ref dn, .ref o])), (dl, .inl (ca 0, 20, .inl (zF f)))] → va_S A s.heap H locs → ∀ ls : Array Slot, lv_has ls 5 [(4, .int (nI k)), (0, .ref sc), (1, .ref h), (2, .int (iZ cr)), (3, .ref d)] → W pG l eV rX6_build s mI args below meth cO H locs 0 0 Q (F0 mI 3 ls []) := by
    clear hP hD hS hl
    intro fu; induction fu with
    | zero => intro k hk hn hmu; exact absurd hmu (Nat.not_lt_zero _)
    | succ n3 ih3 =>
      intro k hk hn hmu3 H locs hP hD hS ls hl
      refine lv_iload hx hb dX6_build_3 (lv_at hl 0 rfl) ?_
      refine lv_aload_n hx hb dX6_build_5 rfl (lv_at hl 2 rfl) ?_
      refine va_get (D := D) (ci := 7) (v := .int (nI T)) (C := RX7) (T := TX7) (N := 6) hx hb hts inX7 hown hK hP 4 rfl rfl 0 (by decide) f25 (fun _ h9 => h9) rfl dX6_build_6 ?_
      refine lv_icmp_ge (tgt := 31) hx hb dX6_build_9 (by decide) (fun h9 => ?_) (fun h9 => ?_)
      · skip
        have h9 := (cL (nI_toInt (by omega)) (nI_toInt (by omega))).mp h9
        have hnk : nOK N cr T = true := by rw [← show k = T by omega]; exact hn
        refine lv_aload_n hx hb dX6_build_31 rfl (lv_at hl 1 rfl) ?_
        refine lv_aload_n hx hb dX6_build_32 rfl (lv_at hl 2 rfl) ?_
        refine xk_v [(a, .inl (ca 0, 20, .inl (zF L))), (b, .inl (ca 0, 20, .inl (zF N))), (d, .inr (1, [.ref de, .ref dl, .int (iZ sp), .ref dn, .ref o])), (dl, .inl (ca 0, 20, .inl (zF f)))] (fun u => [(sc, .inr (6, [.int (iZ 0), .ref s1, .ref s2, .ref s3])), (s1, .inl (ca 0, 20, .inl (zF (fun _ => 0)))), (s2, .inl (ca 0, 1000, .inl (zF (fun _ => 0)))), (s3, .inl (ca 0, 20, .inl (zF u))), (h, .inr (7, [.int (nI T), .int (iZ E), .int (iZ C), .ref a, .ref b, .ref c])), (a, .inl (ca 0, 20, .inl (zF L))), (b, .inl (ca 0, 20, .inl (zF N))), (c, .inl (ca 0, 400, .inl (zG G))), (d, .inr (1, [.ref de, .ref dl, .int (iZ sp), .ref dn, .ref o])), (dl, .inl (ca 0, 20, .inl (zF f)))]) (xk_V (As := [.ref h]) (rest := []) ⟨hx, hb, hml, hown, hts⟩ (mX6_clear l D ca H.size sc s1 s2 s3 h a b c T E C ln sq wk wt G (by omega) hG) (cwV 1 hts gX6_build_X6_clear rfl rfl rfl (by decide +kernel) ⟨Nat.le_of_ble_eq_true rfl, Nat.le_of_ble_eq_true rfl⟩) hK hP hD (va_recv (q := (RX6, TX6, 4)) hK hP (ci := 6) (q0 := 0) rfl rfl) [0, 1, 2, 3, 4, 7] rfl rfl rfl hl.1 rfl (Nat.le_of_ble_eq_true rfl) dX6_build_33 ⟨Nat.le_of_ble_eq_true rfl, Nat.le_of_ble_eq_true rfl⟩) hP hD hS hA [0, 1, 2, 3, 4, 7] [5, 6, 8, 9] [4, 5, 6, 7, 8, 0, 1, 9, 2, 3] rfl rfl rfl rfl (fun _ => rfl) rfl (fun u33 H locs hw33 hP hD hS => ?_)
        obtain ⟨wt133, hu33⟩ : ∃ z, z = u33 := ⟨_, rfl⟩
        subst hu33
        have hw33 : ∀ t, t < T → wt133 t = (cntB G t T : Int) := hw33
        have hP : va_P D vwCl [(sc, .inr (6, [.int (iZ 0), .ref s1, .ref s2, .ref s3])), (s1, .inl (ca 0, 20, .inl (zF (fun _ => 0)))), (s2, .inl (ca 0, 1000, .inl (zF (fun _ => 0)))), (s3, .inl (ca 0, 20, .inl (zF wt133))), (h, .inr (7, [.int (nI T), .int (iZ E), .int (iZ C), .ref a, .ref b, .ref c])), (a, .inl (ca 0, 20, .inl (zF L))), (b, .inl (ca 0, 20, .inl (zF N))), (c, .inl (ca 0, 400, .inl (zG G))), (d, .inr (1, [.ref de, .ref dl, .int (iZ sp), .ref dn, .ref o])), (dl, .inl (ca 0, 20, .inl (zF f)))] H := hP
        have hD : va_D A [(sc, .inr (6, [.int (iZ 0), .ref s1, .ref s2, .ref s3])), (s1, .inl (ca 0, 20, .inl (zF (fun _ => 0)))), (s2, .inl (ca 0, 1000, .inl (zF (fun _ => 0)))), (s3, .inl (ca 0, 20, .inl (zF wt133))), (h, .inr (7, [.int (nI T), .int (iZ E), .int (iZ C), .ref a, .ref b, .ref c])), (a, .inl (ca 0, 20, .inl (zF L))), (b, .inl (ca 0, 20, .inl (zF N))), (c, .inl (ca 0, 400, .inl (zG G))), (d, .inr (1, [.ref de, .ref dl, .int (iZ sp), .ref dn, .ref o])), (dl, .inl (ca 0, 20, .inl (zF f)))] := hD
        refine lv_iconst (v := nI (0)) hx hb dX6_build_36 (by decide) ?_
        refine lv_istore (lv' := [(4, .int (nI 0)), (0, .ref sc), (1, .ref h), (2, .int (iZ cr)), (3, .ref d)]) hx hb dX6_build_37 hl (by decide) rfl (fun ls hl => ?_)
        have L39 : ∀ (fu : Nat) (u : Nat) (ln2 : Int) (sq2 : Nat → Int) (wk2 : Nat → Int) (wt2 : Nat → Int), (u ≤ T) → (CI G T L N u (SCH G T L N f cr u) sq2 wk2 wt2 ln2) → (T - u) < fu → ∀ (H : Heap) (locs : List Loc), va_P D vwCl [(sc, .inr (6, [.int (iZ ln2), .ref s1, .ref s2, .ref s3])), (s1, .inl (ca 0, 20, .inl (zF sq2))), (s2, .inl (ca 0, 1000, .inl (zF wk2))), (s3, .inl (ca 0, 20, .inl (zF wt2))), (h, .inr (7, [.int (nI T), .int (iZ E), .int (iZ C), .ref a, .ref b, .ref c])), (a, .inl (ca 0, 20, .inl (zF L))), (b, .inl (ca 0, 20, .inl (zF N))), (c, .inl (ca 0, 400, .inl (zG G))), (d, .inr (1, [.ref de, .ref dl, .int (iZ sp), .ref dn, .ref o])), (dl, .inl (ca 0, 20, .inl (zF f)))] H → va_D A [(sc, .inr (6, [.int (iZ ln2), .ref s1, .ref s2, .ref s3])), (s1, .inl (ca 0, 20, .inl (zF sq2))), (s2, .inl (ca 0, 1000, .inl (zF wk2))), (s3, .inl (ca 0, 20, .inl (zF wt2))), (h, .inr (7, [.int (nI T), .int (iZ E), .int (iZ C), .ref a, .ref b, .ref c])), (a, .inl (ca 0, 20, .inl (zF L))), (b, .inl (ca 0, 20, .inl (zF N))), (c, .inl (ca 0, 400, .inl (zG G))), (d, .inr (1, [.ref de, .ref dl, .int (iZ sp), .ref dn, .ref o])), (dl, .inl (ca 0, 20, .inl (zF f)))] → va_S A s.heap H locs → ∀ ls : Array Slot, lv_has ls 5 [(4, .int (nI u)), (0, .ref sc), (1, .ref h), (2, .int (iZ cr)), (3, .ref d)] → W pG l eV rX6_build s mI args below meth cO H locs 0 0 Q (F0 mI 39 ls []) := by
          clear hP hD hS hl
          intro fu; induction fu with
          | zero => intro u ln2 sq2 wk2 wt2 hu hC hmu; exact absurd hmu (Nat.not_lt_zero _)
          | succ n39 ih39 =>
            intro u ln2 sq2 wk2 wt2 hu hC hmu39 H locs hP hD hS ls hl
            refine lv_iload hx hb dX6_build_39 (lv_at hl 0 rfl) ?_
            refine lv_aload_n hx hb dX6_build_41 rfl (lv_at hl 2 rfl) ?_
            refine va_get (D := D) (ci := 7) (v := .int (nI T)) (C := RX7) (T := TX7) (N := 6) hx hb hts inX7 hown hK hP 4 rfl rfl 0 (by decide) f25 (fun _ h9 => h9) rfl dX6_build_42 ?_
            refine lv_icmp_ge (tgt := 66) hx hb dX6_build_45 (by decide) (fun h45 => ?_) (fun h45 => ?_)
            · skip
              have h45 := (cL (nI_toInt (by omega)) (nI_toInt (by omega))).mp h45
              refine lv_iconst (v := nI (1)) hx hb dX6_build_66 (by decide) ?_
              rw [← hE]
              exact xe_z (ln2, sq2, wk2, wt2) hx hb hr hlocks hK hP hD hS rfl (⟨by rw [hnk]; rfl, fun _ => CI_SD (by have e9 : u = T := (by omega); rw [e9] at hC; exact hC) hac⟩) dX6_build_67
            · skip
              have h45 := (not_congr (cL (nI_toInt (by omega)) (nI_toInt (by omega)))).mp h45
              refine lv_aload_n hx hb dX6_build_48 rfl (lv_at hl 1 rfl) ?_
              refine lv_aload_n hx hb dX6_build_49 rfl (lv_at hl 2 rfl) ?_
              refine lv_iload_n hx hb dX6_build_50 rfl (lv_at hl 3 rfl) ?_
              refine lv_aload_n hx hb dX6_build_51 rfl (lv_at hl 1 rfl) ?_
              refine lv_aload_n hx hb dX6_build_52 rfl (lv_at hl 2 rfl) ?_
              refine lv_aload_n hx hb dX6_build_53 rfl (lv_at hl 4 rfl) ?_
              refine xk_pi (xk_V (As := [.ref h, .ref d]) (rest := [.int (iZ cr), .ref h, .ref sc]) ⟨hx, hb, hml, hown, hts⟩ (mX6_nextTask l D ca H.size sc s1 s2 s3 h a b c T E C d de dl dn o ln2 wt2 sp f (by omega) (fun t ht => CI_wt hC ht) hf) (cwV 2 hts gX6_build_X6_nextTask rfl rfl rfl (by decide +kernel) ⟨Nat.le_of_ble_eq_true rfl, Nat.le_of_ble_eq_true rfl⟩) hK hP hD (va_recv (q := (RX6, TX6, 4)) hK hP (ci := 6) (q0 := 0) rfl rfl) [0, 3, 4, 8, 9] rfl rfl rfl hl.1 rfl (Nat.le_of_ble_eq_true rfl) dX6_build_54 ⟨Nat.le_of_ble_eq_true rfl, Nat.le_of_ble_eq_true rfl⟩) hP hD hS hA [0, 3, 4, 8, 9] rfl ⟨rfl, rfl⟩ (fun r54 H locs hw54 hP hS => ?_)
              have hw54 : r54 = iZ (oZ (nxt f (fun j => decide (wt2 j = 0)) T)) := hw54
              subst hw54
              refine xr_top (y := iZ (oZ (nxt f (canB G T (SCH G T L N f cr u)) T))) (congrArg (fun o => iZ (oZ o)) (CI_can' hC)) ?_
              refine xk_v [(d, .inr (1, [.ref de, .ref dl, .int (iZ sp), .ref dn, .ref o])), (dl, .inl (ca 0, 20, .inl (zF f)))] (fun u => [(sc, .inr (6, [.int (iZ u.1), .ref s1, .ref s2, .ref s3])), (s1, .inl (ca 0, 20, .inl (zF u.2.1))), (s2, .inl (ca 0, 1000, .inl (zF u.2.2.1))), (s3, .inl (ca 0, 20, .inl (zF u.2.2.2))), (h, .inr (7, [.int (nI T), .int (iZ E), .int (iZ C), .ref a, .ref b, .ref c])), (a, .inl (ca 0, 20, .inl (zF L))), (b, .inl (ca 0, 20, .inl (zF N))), (c, .inl (ca 0, 400, .inl (zG G))), (d, .inr (1, [.ref de, .ref dl, .int (iZ sp), .ref dn, .ref o])), (dl, .inl (ca 0, 20, .inl (zF f)))]) (xk_V (As := [.ref h, .int (iZ cr), .int (iZ (oZ (nxt f (canB G T (SCH G T L N f cr u)) T)))]) (rest := []) ⟨hx, hb, hml, hown, hts⟩ (mX6_place l D ca H.size sc s1 s2 s3 h a b c T E C ln2 sq2 wk2 wt2 L N G cr u (SCH G T L N f cr u) (nxt f (canB G T (SCH G T L N f cr u)) T) (by omega) hG hL hN (nOK_iff.mp hnk) hcr9 (by omega) hC (fun t ht => nxt_some ht)) (cwV 3 hts gX6_build_X6_place rfl rfl rfl (by decide +kernel) ⟨Nat.le_of_ble_eq_true rfl, Nat.le_of_ble_eq_true rfl⟩) hK hP hD (va_recv (q := (RX6, TX6, 4)) hK hP (ci := 6) (q0 := 0) rfl rfl) [0, 1, 2, 3, 4, 5, 6, 7] rfl rfl rfl hl.1 rfl (Nat.le_of_ble_eq_true rfl) dX6_build_57 ⟨Nat.le_of_ble_eq_true rfl, Nat.le_of_ble_eq_true rfl⟩) hP hD hS hA [0, 1, 2, 3, 4, 5, 6, 7] [8, 9] [2, 3, 4, 5, 6, 7, 8, 9, 0, 1] rfl rfl rfl rfl (fun _ => rfl) rfl (fun u57 H locs hw57 hP hD hS => ?_)
              obtain ⟨ln157, sq157, wk157, wt157⟩ := u57
              have hw57 : CI G T L N (u + 1) (stpO G T L N cr (SCH G T L N f cr u) (nxt f (canB G T (SCH G T L N f cr u)) T)) sq157 wk157 wt157 ln157 := hw57
              have hP : va_P D vwCl [(sc, .inr (6, [.int (iZ ln157), .ref s1, .ref s2, .ref s3])), (s1, .inl (ca 0, 20, .inl (zF sq157))), (s2, .inl (ca 0, 1000, .inl (zF wk157))), (s3, .inl (ca 0, 20, .inl (zF wt157))), (h, .inr (7, [.int (nI T), .int (iZ E), .int (iZ C), .ref a, .ref b, .ref c])), (a, .inl (ca 0, 20, .inl (zF L))), (b, .inl (ca 0, 20, .inl (zF N))), (c, .inl (ca 0, 400, .inl (zG G))), (d, .inr (1, [.ref de, .ref dl, .int (iZ sp), .ref dn, .ref o])), (dl, .inl (ca 0, 20, .inl (zF f)))] H := hP
              have hD : va_D A [(sc, .inr (6, [.int (iZ ln157), .ref s1, .ref s2, .ref s3])), (s1, .inl (ca 0, 20, .inl (zF sq157))), (s2, .inl (ca 0, 1000, .inl (zF wk157))), (s3, .inl (ca 0, 20, .inl (zF wt157))), (h, .inr (7, [.int (nI T), .int (iZ E), .int (iZ C), .ref a, .ref b, .ref c])), (a, .inl (ca 0, 20, .inl (zF L))), (b, .inl (ca 0, 20, .inl (zF N))), (c, .inl (ca 0, 400, .inl (zG G))), (d, .inr (1, [.ref de, .ref dl, .int (iZ sp), .ref dn, .ref o])), (dl, .inl (ca 0, 20, .inl (zF f)))] := hD
              refine lv_iinc (v := nI (u + 1)) (lv' := [(4, .int (nI (u + 1))), (0, .ref sc), (1, .ref h), (2, .int (iZ cr)), (3, .ref d)]) hx hb dX6_build_60 hl (k := 0) rfl (nI_add _ 1) (by decide) rfl (fun ls hl => ?_)
              refine lv_goto (tgt := 39) hx hb dX6_build_63 (by decide) ?_
              exact ih39 (u + 1) ln157 sq157 wk157 wt157 (by omega) hw57 (by omega) _ _ hP hD hS _ (lv_sub hl [0, 1, 2, 3, 4] rfl)
        exact L39 _ 0 0 (fun _ => 0) (fun _ => 0) wt133 (by omega) (CI_0 hL hw33) (Nat.lt_succ_self _) _ _ hP hD hS _ (lv_sub hl [0, 1, 2, 3, 4] rfl)
      · skip
        have h9 := (not_congr (cL (nI_toInt (by omega)) (nI_toInt (by omega)))).mp h9
        refine lv_aload_n hx hb dX6_build_12 rfl (lv_at hl 2 rfl) ?_
        refine va_get (D := D) (ci := 7) (v := .ref b) (C := RX7) (T := TX7) (N := 6) hx hb hts inX7 hown hK hP 4 rfl rfl 4 (by decide) f30 (fun _ h9 => h9) rfl dX6_build_13 ?_
        refine lv_iload hx hb dX6_build_16 (lv_at hl 0 rfl) ?_
        refine xr_iald hx hb hK hP 6 0 rfl rfl (by omega) (Nat.le_of_ble_eq_true rfl) (v := iZ (N k)) rfl dX6_build_18 ?_
        have hb1 := hN k (by omega)
        refine lv_iload_n hx hb dX6_build_19 rfl (lv_at hl 3 rfl) ?_
        refine lv_icmp_le (tgt := 25) hx hb dX6_build_20 (by decide) (fun h20 => ?_) (fun h20 => ?_)
        · skip
          have h20 := (cL (iZ_toInt (by omega) (by omega)) (iZ_toInt (by omega) (by omega))).mp h20
          refine lv_iinc (v := nI (k + 1)) (lv' := [(4, .int (nI (k + 1))), (0, .ref sc), (1, .ref h), (2, .int (iZ cr)), (3, .ref d)]) hx hb dX6_build_25 hl (k := 0) rfl (nI_add _ 1) (by decide) rfl (fun ls hl => ?_)
          refine lv_goto (tgt := 3) hx hb dX6_build_28 (by decide) ?_
          exact ih3 (k + 1) (by omega) (nOK_s hn h20) (by omega) _ _ hP hD hS _ (lv_sub hl [0, 1, 2, 3, 4] rfl)
        · skip
          have h20 := (not_congr (cL (iZ_toInt (by omega) (by omega)) (iZ_toInt (by omega) (by omega)))).mp h20
          refine lv_iconst (v := nI (0)) hx hb dX6_build_23 (by decide) ?_
          rw [← hE]
          exact xe_z (ln, sq, wk, wt) hx hb hr hlocks hK hP hD hS rfl (⟨by rw [nOK_f (show k < T by omega) (by omega)]; rfl, fun h9 => absurd ((nOK_f (show k < T by omega) (by omega)).symm.trans h9) Bool.noConfusion⟩) dX6_build_24
  exact L3 _ 0 (by omega) rfl (Nat.lt_succ_self _) _ _ hP hD hS _ (lv_sub hl [0, 1, 2, 3, 4] rfl)
def rX6_sumOfDays : Room := { frames := 0, cells := 0, slots := 0, locals := 0 }
set_option maxHeartbeats 4000000 in
set_option maxRecDepth 100000 in
/-- sumOfDays() -/
theorem mX6_sumOfDays (l : Launch) (D : va_G) (ca : Nat → ClassId) (sz : Nat) (sc : Nat) (s1 : Nat) (s2 : Nat) (s3 : Nat) (ln : Int) (wk : Nat → Int) (hln : 0 ≤ ln ∧ ln ≤ 1000) : MM l yX6_sumOfDays wsX6_sumOfDays rX6_sumOfDays D ca [.ref sc] sz [(sc, .inr (6, [.int (iZ ln), .ref s1, .ref s2, .ref s3])), (s2, .inl (ca 0, 1000, .inl (zF wk)))] (QI D ca (fun (r : Int32) (u : Unit) => r = iZ (dsum wk ln.toNat)) (fun _ => [(sc, .inr (6, [.int (iZ ln), .ref s1, .ref s2, .ref s3])), (s2, .inl (ca 0, 1000, .inl (zF wk)))])) := by
  refine MM_of (cc := cX6_sumOfDays) (maxL := 3) (ret := (some .int)) (lv0 := [(0, .ref sc)]) RX6 (by decide) rfl rfl (Nat.le_of_ble_eq_true rfl) rfl ?_
  intro pG eV s mI args below meth cO hx hb hr hml hts hown hlocks hnm A hA H locs hsz hP hK hD hS Q hE ls hl
  have f9 := hts (.fieldLink RX6 9 "SlackPlan$Schedule" "length" "I") (List.mem_of_getElem? (i := 1) rfl)
  have inX6 : ∀ w ∈ u_ws RX6 TX6 4, w ∈ wsX6_sumOfDays := in_r _ [3, 4, 5, 6] rfl
  have f19 := hts (.fieldLink RX6 19 "SlackPlan$Schedule" "working" "[I") (List.mem_of_getElem? (i := 2) rfl)
  refine lv_iconst (v := iZ 0) hx hb dX6_sumOfDays_0 (by decide) ?_
  refine lv_istore_n (lv' := [(1, .int (iZ 0)), (0, .ref sc)]) hx hb dX6_sumOfDays_1 rfl hl (by decide) rfl (fun ls hl => ?_)
  refine lv_iconst (v := nI (0)) hx hb dX6_sumOfDays_2 (by decide) ?_
  refine lv_istore_n (lv' := [(2, .int (nI 0)), (1, .int (iZ 0)), (0, .ref sc)]) hx hb dX6_sumOfDays_3 rfl hl (by decide) rfl (fun ls hl => ?_)
  have L4 : ∀ (fu : Nat) (x : Nat) (q : Int), (x : Int) ≤ ln → (q = dsum wk x) → (1000 - x) < fu → ∀ (H : Heap) (locs : List Loc), va_P D vwCl [(sc, .inr (6, [.int (iZ ln), .ref s1, .ref s2, .ref s3])), (s2, .inl (ca 0, 1000, .inl (zF wk)))] H → va_D A [(sc, .inr (6, [.int (iZ ln), .ref s1, .ref s2, .ref s3])), (s2, .inl (ca 0, 1000, .inl (zF wk)))] → va_S A s.heap H locs → ∀ ls : Array Slot, lv_has ls 3 [(2, .int (nI x)), (1, .int (iZ q)), (0, .ref sc)] → W pG l eV rX6_sumOfDays s mI args below meth cO H locs 0 0 Q (F0 mI 4 ls []) := by
    clear hP hD hS hl
    intro fu; induction fu with
    | zero => intro x q hx1 hq hmu; exact absurd hmu (Nat.not_lt_zero _)
    | succ n4 ih4 =>
      intro x q hx1 hq hmu4 H locs hP hD hS ls hl
      refine lv_iload_n hx hb dX6_sumOfDays_4 rfl (lv_at hl 0 rfl) ?_
      refine lv_aload_n hx hb dX6_sumOfDays_5 rfl (lv_at hl 2 rfl) ?_
      refine va_get (D := D) (ci := 6) (v := .int (iZ ln)) (C := RX6) (T := TX6) (N := 4) hx hb hts inX6 hown hK hP 0 rfl rfl 0 (by decide) f9 (fun _ h9 => h9) rfl dX6_sumOfDays_6 ?_
      refine lv_icmp_ge (tgt := 34) hx hb dX6_sumOfDays_9 (by decide) (fun h9 => ?_) (fun h9 => ?_)
      · skip
        have h9 := (cL (iZ_toInt (by omega) (by omega)) (nI_toInt (by omega))).mp h9
        refine lv_iload_n hx hb dX6_sumOfDays_34 rfl (lv_at hl 1 rfl) ?_
        rw [← hE]
        exact xe_i () hx hb hr hlocks hK hP hD hS (by rw [hq, show x = ln.toNat by omega]) dX6_sumOfDays_35
      · skip
        have h9 := (not_congr (cL (iZ_toInt (by omega) (by omega)) (nI_toInt (by omega)))).mp h9
        refine lv_iload_n hx hb dX6_sumOfDays_12 rfl (lv_at hl 0 rfl) ?_
        refine lv_sipush (v := nI (1000)) hx hb dX6_sumOfDays_13 (by decide) ?_
        refine lv_icmp_ge (tgt := 34) hx hb dX6_sumOfDays_16 (by decide) (fun h16 => ?_) (fun h16 => ?_)
        · skip
          have h16 := (cL (nI_toInt (by omega)) (nI_toInt (by omega))).mp h16
          refine lv_iload_n hx hb dX6_sumOfDays_34 rfl (lv_at hl 1 rfl) ?_
          rw [← hE]
          exact xe_i () hx hb hr hlocks hK hP hD hS (by rw [hq, show x = ln.toNat by omega]) dX6_sumOfDays_35
        · skip
          have h16 := (not_congr (cL (nI_toInt (by omega)) (nI_toInt (by omega)))).mp h16
          refine lv_iload_n hx hb dX6_sumOfDays_19 rfl (lv_at hl 1 rfl) ?_
          refine lv_aload_n hx hb dX6_sumOfDays_20 rfl (lv_at hl 2 rfl) ?_
          refine va_get (D := D) (ci := 6) (v := .ref s2) (C := RX6) (T := TX6) (N := 4) hx hb hts inX6 hown hK hP 0 rfl rfl 2 (by decide) f19 (fun _ h9 => h9) rfl dX6_sumOfDays_21 ?_
          refine lv_iload_n hx hb dX6_sumOfDays_24 rfl (lv_at hl 0 rfl) ?_
          refine xr_iald hx hb hK hP 1 0 rfl rfl (by omega) (Nat.le_of_ble_eq_true rfl) (v := iZ (wk x)) rfl dX6_sumOfDays_25 ?_
          refine xr_iadd_zz hx hb dX6_sumOfDays_26 ?_
          refine lv_istore_n (lv' := [(1, .int (iZ (q + (wk x)))), (2, .int (nI x)), (0, .ref sc)]) hx hb dX6_sumOfDays_27 rfl hl (by decide) rfl (fun ls hl => ?_)
          refine lv_iinc (v := nI (x + 1)) (lv' := [(2, .int (nI (x + 1))), (1, .int (iZ (q + (wk x)))), (0, .ref sc)]) hx hb dX6_sumOfDays_28 hl (k := 1) rfl (nI_add _ 1) (by decide) rfl (fun ls hl => ?_)
          refine lv_goto (tgt := 4) hx hb dX6_sumOfDays_31 (by decide) ?_
          exact ih4 (x + 1) (q + (wk x)) (by omega) (by rw [dsum, hq]) (by omega) _ _ hP hD hS _ (lv_sub hl [0, 1, 2] rfl)
  exact L4 _ 0 0 (by omega) rfl (Nat.lt_succ_self _) _ _ hP hD hS _ (lv_sub hl [0, 1, 2] rfl)

