def rX9_in : Room := { frames := 0, cells := 0, slots := 0, locals := 0 }
set_option maxHeartbeats 4000000 in
set_option maxRecDepth 100000 in
theorem mX9_in (l : Launch) (D : va_G) (ca : Nat → ClassId) (sz : Nat) (v : Int32) (lo : Int32) (hi : Int32)  : MM l yX9_in wsX9_in rX9_in D ca [.int (v), .int (lo), .int (hi)] sz [] (QI D ca (fun (r : Int32) (u : Unit) => r = bI (inB v lo hi)) (fun _ => [])) := by
  refine MM_of (cc := cX9_in) (maxL := 3) (ret := (some .boolean)) (lv0 := [(0, .int (v)), (1, .int (lo)), (2, .int (hi))]) RX9 (by decide) rfl rfl (Nat.le_of_ble_eq_true rfl) rfl ?_
  intro pG eV s mI args below meth cO hx hb hr hml hts hown hlocks hnm A hA H locs hsz hP hK hD hS Q hE ls hl
  refine lv_iload_n hx hb dX9_in_0 rfl (lv_at hl 0 rfl) ?_
  refine lv_iload_n hx hb dX9_in_1 rfl (lv_at hl 1 rfl) ?_
  refine lv_icmp_lt (tgt := 14) hx hb dX9_in_2 (by decide) (fun h2 => ?_) (fun h2 => ?_)
  · skip
    have h2 := (cT rfl rfl).mp h2
    refine lv_iconst (v := nI (0)) hx hb dX9_in_14 (by decide) ?_
    rw [← hE]
    exact xe_z () hx hb hr hlocks hK hP hD hS rfl (inB_f (by omega)) dX9_in_15
  · skip
    have h2 := (not_congr (cT rfl rfl)).mp h2
    refine lv_iload_n hx hb dX9_in_5 rfl (lv_at hl 0 rfl) ?_
    refine lv_iload_n hx hb dX9_in_6 rfl (lv_at hl 2 rfl) ?_
    refine lv_icmp_gt (tgt := 14) hx hb dX9_in_7 (by decide) (fun h7 => ?_) (fun h7 => ?_)
    · skip
      have h7 := (cT rfl rfl).mp h7
      refine lv_iconst (v := nI (0)) hx hb dX9_in_14 (by decide) ?_
      rw [← hE]
      exact xe_z () hx hb hr hlocks hK hP hD hS rfl (inB_f (by omega)) dX9_in_15
    · skip
      have h7 := (not_congr (cT rfl rfl)).mp h7
      refine lv_iconst (v := nI (1)) hx hb dX9_in_10 (by decide) ?_
      refine lv_goto (tgt := 15) hx hb dX9_in_11 (by decide) ?_
      rw [← hE]
      exact xe_z () hx hb hr hlocks hK hP hD hS rfl (inB_t (by omega) (by omega)) dX9_in_15
def rX9_thrown : Room := { frames := 0, cells := 0, slots := 0, locals := 0 }
set_option maxHeartbeats 4000000 in
set_option maxRecDepth 100000 in
theorem mX9_thrown (l : Launch) (D : va_G) (ca : Nat → ClassId) (sz : Nat) (mo : Nat) (na : Nat) (nb : Nat) (nc : Nat) (nd : Nat) (ne : Nat) (nf : Nat) (ng : Nat) (nh : Nat) (ni : Nat) (nj : Nat) (nl : Nat) (ms : Bool) (mk : Nat) (my : Nat) (mt : Nat) (mp : Nat)  : MM l yX9_thrown wsX9_thrown rX9_thrown D ca [.ref mo] sz [(mo, .inr (9, [.ref na, .ref nb, .ref nc, .ref nd, .int (bI (ms)), .int (nI mk), .ref ne, .int (nI my), .int (nI mt), .int (nI mp), .ref nf, .ref ng, .ref nh, .ref ni, .ref nj, .ref nl]))] (QI D ca (fun (r : Int32) (u : Unit) => r = nI mt) (fun _ => [(mo, .inr (9, [.ref na, .ref nb, .ref nc, .ref nd, .int (bI (ms)), .int (nI mk), .ref ne, .int (nI my), .int (nI mt), .int (nI mp), .ref nf, .ref ng, .ref nh, .ref ni, .ref nj, .ref nl]))])) := by
  refine MM_of (cc := cX9_thrown) (maxL := 1) (ret := (some .int)) (lv0 := [(0, .ref mo)]) RX9 (by decide) rfl rfl (Nat.le_of_ble_eq_true rfl) rfl ?_
  intro pG eV s mI args below meth cO hx hb hr hml hts hown hlocks hnm A hA H locs hsz hP hK hD hS Q hE ls hl
  have f44 := hts (.fieldLink RX9 44 "SlackPlanModel" "thrown" "I") (List.mem_of_getElem? (i := 1) rfl)
  have inX9 : ∀ w ∈ u_ws RX9 TX9 16, w ∈ wsX9_thrown := in_r _ [2, 3, 4, 5, 6, 7, 8, 9, 10, 11, 12, 13, 14, 15, 16, 17] rfl
  refine lv_aload_n hx hb dX9_thrown_0 rfl (lv_at hl 0 rfl) ?_
  refine va_get (D := D) (ci := 9) (v := .int (nI mt)) (C := RX9) (T := TX9) (N := 16) hx hb hts inX9 hown hK hP 0 rfl rfl 8 (by decide) f44 (fun _ h9 => h9) rfl dX9_thrown_1 ?_
  rw [← hE]
  exact xe_i () hx hb hr hlocks hK hP hD hS rfl dX9_thrown_4
def rX9_fails : Room := { frames := 0, cells := 0, slots := 0, locals := 0 }
set_option maxHeartbeats 4000000 in
set_option maxRecDepth 100000 in
theorem mX9_fails (l : Launch) (D : va_G) (ca : Nat → ClassId) (sz : Nat) (mo : Nat) (na : Nat) (nb : Nat) (nc : Nat) (nd : Nat) (ne : Nat) (nf : Nat) (ng : Nat) (nh : Nat) (ni : Nat) (nj : Nat) (nl : Nat) (ms : Bool) (mk : Nat) (my : Nat) (mt : Nat) (mp : Nat) (k : Nat)  : MM l yX9_fails wsX9_fails rX9_fails D ca [.ref mo, .int (nI k)] sz [(mo, .inr (9, [.ref na, .ref nb, .ref nc, .ref nd, .int (bI (ms)), .int (nI mk), .ref ne, .int (nI my), .int (nI mt), .int (nI mp), .ref nf, .ref ng, .ref nh, .ref ni, .ref nj, .ref nl]))] (QI D ca (fun (r : Int32) (u : Unit) => r = nI 0) (fun _ => [(mo, .inr (9, [.ref na, .ref nb, .ref nc, .ref nd, .int (bI (ms)), .int (nI mk), .ref ne, .int (nI my), .int (nI k), .int (nI mp), .ref nf, .ref ng, .ref nh, .ref ni, .ref nj, .ref nl]))])) := by
  refine MM_of (cc := cX9_fails) (maxL := 2) (ret := (some .int)) (lv0 := [(0, .ref mo), (1, .int (nI k))]) RX9 (by decide) rfl rfl (Nat.le_of_ble_eq_true rfl) rfl ?_
  intro pG eV s mI args below meth cO hx hb hr hml hts hown hlocks hnm A hA H locs hsz hP hK hD hS Q hE ls hl
  have f44 := hts (.fieldLink RX9 44 "SlackPlanModel" "thrown" "I") (List.mem_of_getElem? (i := 1) rfl)
  have inX9 : ∀ w ∈ u_ws RX9 TX9 16, w ∈ wsX9_fails := in_r _ [2, 3, 4, 5, 6, 7, 8, 9, 10, 11, 12, 13, 14, 15, 16, 17] rfl
  refine lv_aload_n hx hb dX9_fails_0 rfl (lv_at hl 0 rfl) ?_
  refine lv_iload_n hx hb dX9_fails_1 rfl (lv_at hl 1 rfl) ?_
  refine va_put (D := D) (ci := 9) (v := .int (nI k)) (ty := .int) (C := RX9) (T := TX9) (N := 16) hx hb hts inX9 tyX9 tyX9_ok nmX9 hown hK hP hD hS 0 rfl rfl 8 (by decide) f44 (fun _ h9 => h9) rfl (by decide +kernel) rfl rfl (Nat.le_of_ble_eq_true rfl) dX9_fails_2 (fun H locs hP hD hS => ?_)
  have hP : va_P D vwCl [(mo, .inr (9, [.ref na, .ref nb, .ref nc, .ref nd, .int (bI (ms)), .int (nI mk), .ref ne, .int (nI my), .int (nI k), .int (nI mp), .ref nf, .ref ng, .ref nh, .ref ni, .ref nj, .ref nl]))] H := hP
  have hD : va_D A [(mo, .inr (9, [.ref na, .ref nb, .ref nc, .ref nd, .int (bI (ms)), .int (nI mk), .ref ne, .int (nI my), .int (nI k), .int (nI mp), .ref nf, .ref ng, .ref nh, .ref ni, .ref nj, .ref nl]))] := hD
  refine lv_iconst (v := nI (0)) hx hb dX9_fails_5 (by decide) ?_
  rw [← hE]
  exact xe_i () hx hb hr hlocks hK hP hD hS rfl dX9_fails_6
def rX9_isTask : Room := { frames := 1, cells := 0, slots := 0, locals := 22 }
set_option maxHeartbeats 4000000 in
set_option maxRecDepth 100000 in
theorem mX9_isTask (l : Launch) (D : va_G) (ca : Nat → ClassId) (sz : Nat) (mo : Nat) (na : Nat) (nb : Nat) (nc : Nat) (nd : Nat) (ne : Nat) (nf : Nat) (ng : Nat) (nh : Nat) (ni : Nat) (nj : Nat) (nl : Nat) (ms : Bool) (mk : Nat) (my : Nat) (mt : Nat) (mp : Nat) (sn : Nat → Int) (T : Nat) (t : Int32) (hT : T ≤ 20) (hs0 : sn 0 = (T : Int)) : MM l yX9_isTask wsX9_isTask rX9_isTask D ca [.ref mo, .int (t)] sz [(mo, .inr (9, [.ref na, .ref nb, .ref nc, .ref nd, .int (bI (ms)), .int (nI mk), .ref ne, .int (nI my), .int (nI mt), .int (nI mp), .ref nf, .ref ng, .ref nh, .ref ni, .ref nj, .ref nl])), (na, .inl (ca 0, 442, .inl (zF sn)))] (QI D ca (fun (r : Int32) (u : Nat) => r = bI (hasB T t) ∧ u = kTa T t) (fun u => [(mo, .inr (9, [.ref na, .ref nb, .ref nc, .ref nd, .int (bI (ms)), .int (nI mk), .ref ne, .int (nI my), .int (nI u), .int (nI mp), .ref nf, .ref ng, .ref nh, .ref ni, .ref nj, .ref nl])), (na, .inl (ca 0, 442, .inl (zF sn)))])) := by
  refine MM_of (cc := cX9_isTask) (maxL := 2) (ret := (some .boolean)) (lv0 := [(0, .ref mo), (1, .int (t))]) RX9 (by decide) rfl rfl (Nat.le_of_ble_eq_true rfl) rfl ?_
  intro pG eV s mI args below meth cO hx hb hr hml hts hown hlocks hnm A hA H locs hsz hP hK hD hS Q hE ls hl
  have f7 := hts (.fieldLink RX9 7 "SlackPlanModel" "now" "[I") (List.mem_of_getElem? (i := 1) rfl)
  have inX9 : ∀ w ∈ u_ws RX9 TX9 16, w ∈ wsX9_isTask := in_r _ [7, 8, 9, 10, 11, 12, 13, 14, 15, 16, 17, 18, 19, 20, 21, 22] rfl
  have f44 := hts (.fieldLink RX9 44 "SlackPlanModel" "thrown" "I") (List.mem_of_getElem? (i := 2) rfl)
  refine lv_aload_n hx hb dX9_isTask_0 rfl (lv_at hl 0 rfl) ?_
  refine lv_iload_n hx hb dX9_isTask_1 rfl (lv_at hl 1 rfl) ?_
  refine lv_iconst (v := nI (0)) hx hb dX9_isTask_2 (by decide) ?_
  refine lv_aload_n hx hb dX9_isTask_3 rfl (lv_at hl 0 rfl) ?_
  refine va_get (D := D) (ci := 9) (v := .ref na) (C := RX9) (T := TX9) (N := 16) hx hb hts inX9 hown hK hP 0 rfl rfl 0 (by decide) f7 (fun _ h9 => h9) rfl dX9_isTask_4 ?_
  refine lv_iconst (v := nI (0)) hx hb dX9_isTask_7 (by decide) ?_
  refine xr_iald hx hb hK hP 1 0 rfl rfl (by omega) (Nat.le_of_ble_eq_true rfl) (v := iZ (sn 0)) rfl dX9_isTask_8 ?_
  refine lv_iconst (v := nI (1)) hx hb dX9_isTask_9 (by decide) ?_
  refine xr_isub_zn hx hb dX9_isTask_10 ?_
  refine xk_pi (xk_S (As := [.int (t), .int (nI 0), .int (iZ ((sn 0) - 1))]) (rest := [.ref mo]) ⟨hx, hb, hml, hown, hts⟩ (mX9_in l D ca H.size t (nI (0)) (iZ ((sn 0) - 1)) ) (va_cwS 3 hts gX9_isTask_X9_in rfl rfl rfl (by decide +kernel) ⟨Nat.le_of_ble_eq_true rfl, Nat.le_of_ble_eq_true rfl⟩) hK hP hD [] rfl rfl rfl hl.1 rfl (Nat.le_of_ble_eq_true rfl) dX9_isTask_11 ⟨Nat.le_of_ble_eq_true rfl, Nat.le_of_ble_eq_true rfl⟩) hP hD hS hA [] rfl ⟨rfl, rfl⟩ (fun r11 H locs hw11 hP hS => ?_)
  have hw11 : r11 = bI (inB t (nI (0)) (iZ ((sn 0) - 1))) := hw11
  subst hw11
  refine lv_if_eq (tgt := 21) hx hb dX9_isTask_14 (by decide) (fun h14 => ?_) (fun h14 => ?_)
  · skip
    have h14 := bI_0.mp h14
    rw [in_has hs0 hT] at h14
    refine lv_iconst (v := nI (1)) hx hb dX9_isTask_21 (by decide) ?_
    refine va_put (D := D) (ci := 9) (v := .int (nI 1)) (ty := .int) (C := RX9) (T := TX9) (N := 16) hx hb hts inX9 tyX9 tyX9_ok nmX9 hown hK hP hD hS 0 rfl rfl 8 (by decide) f44 (fun _ h9 => h9) rfl (by decide +kernel) rfl rfl (Nat.le_of_ble_eq_true rfl) dX9_isTask_22 (fun H locs hP hD hS => ?_)
    have hP : va_P D vwCl [(mo, .inr (9, [.ref na, .ref nb, .ref nc, .ref nd, .int (bI (ms)), .int (nI mk), .ref ne, .int (nI my), .int (nI 1), .int (nI mp), .ref nf, .ref ng, .ref nh, .ref ni, .ref nj, .ref nl])), (na, .inl (ca 0, 442, .inl (zF sn)))] H := hP
    have hD : va_D A [(mo, .inr (9, [.ref na, .ref nb, .ref nc, .ref nd, .int (bI (ms)), .int (nI mk), .ref ne, .int (nI my), .int (nI 1), .int (nI mp), .ref nf, .ref ng, .ref nh, .ref ni, .ref nj, .ref nl])), (na, .inl (ca 0, 442, .inl (zF sn)))] := hD
    refine lv_aload_n hx hb dX9_isTask_25 rfl (lv_at hl 0 rfl) ?_
    refine va_get (D := D) (ci := 9) (v := .int (nI 1)) (C := RX9) (T := TX9) (N := 16) hx hb hts inX9 hown hK hP 0 rfl rfl 8 (by decide) f44 (fun _ h9 => h9) rfl dX9_isTask_26 ?_
    refine lv_if_ne (tgt := 36) hx hb dX9_isTask_29 (by decide) (fun h29 => ?_) (fun h29 => ?_)
    · skip
      have h29 := (not_congr (cE (nI_toInt (by omega)) z0_toInt)).mp h29
      refine lv_iconst (v := nI (0)) hx hb dX9_isTask_36 (by decide) ?_
      rw [← hE]
      exact xe_z (1) hx hb hr hlocks hK hP hD hS rfl (⟨by rw [h14]; rfl, by unfold kTa; rw [h14]; rfl⟩) dX9_isTask_37
    · skip
      have h29 := (cE (nI_toInt (by omega)) z0_toInt).mp h29
      refine lv_iconst (v := nI (1)) hx hb dX9_isTask_32 (by decide) ?_
      refine lv_goto (tgt := 37) hx hb dX9_isTask_33 (by decide) ?_
      rw [← hE]
      exact xe_z (1) hx hb hr hlocks hK hP hD hS rfl (absurd h29 (by omega)) dX9_isTask_37
  · skip
    have h14 := bI_n0.mp h14
    rw [in_has hs0 hT] at h14
    refine lv_iconst (v := nI (0)) hx hb dX9_isTask_17 (by decide) ?_
    refine lv_goto (tgt := 22) hx hb dX9_isTask_18 (by decide) ?_
    refine va_put (D := D) (ci := 9) (v := .int (nI 0)) (ty := .int) (C := RX9) (T := TX9) (N := 16) hx hb hts inX9 tyX9 tyX9_ok nmX9 hown hK hP hD hS 0 rfl rfl 8 (by decide) f44 (fun _ h9 => h9) rfl (by decide +kernel) rfl rfl (Nat.le_of_ble_eq_true rfl) dX9_isTask_22 (fun H locs hP hD hS => ?_)
    have hP : va_P D vwCl [(mo, .inr (9, [.ref na, .ref nb, .ref nc, .ref nd, .int (bI (ms)), .int (nI mk), .ref ne, .int (nI my), .int (nI 0), .int (nI mp), .ref nf, .ref ng, .ref nh, .ref ni, .ref nj, .ref nl])), (na, .inl (ca 0, 442, .inl (zF sn)))] H := hP
    have hD : va_D A [(mo, .inr (9, [.ref na, .ref nb, .ref nc, .ref nd, .int (bI (ms)), .int (nI mk), .ref ne, .int (nI my), .int (nI 0), .int (nI mp), .ref nf, .ref ng, .ref nh, .ref ni, .ref nj, .ref nl])), (na, .inl (ca 0, 442, .inl (zF sn)))] := hD
    refine lv_aload_n hx hb dX9_isTask_25 rfl (lv_at hl 0 rfl) ?_
    refine va_get (D := D) (ci := 9) (v := .int (nI 0)) (C := RX9) (T := TX9) (N := 16) hx hb hts inX9 hown hK hP 0 rfl rfl 8 (by decide) f44 (fun _ h9 => h9) rfl dX9_isTask_26 ?_
    refine lv_if_ne (tgt := 36) hx hb dX9_isTask_29 (by decide) (fun h29 => ?_) (fun h29 => ?_)
    · skip
      have h29 := (not_congr (cE (nI_toInt (by omega)) z0_toInt)).mp h29
      refine lv_iconst (v := nI (0)) hx hb dX9_isTask_36 (by decide) ?_
      rw [← hE]
      exact xe_z (0) hx hb hr hlocks hK hP hD hS rfl (absurd h29 (by omega)) dX9_isTask_37
    · skip
      have h29 := (cE (nI_toInt (by omega)) z0_toInt).mp h29
      refine lv_iconst (v := nI (1)) hx hb dX9_isTask_32 (by decide) ?_
      refine lv_goto (tgt := 37) hx hb dX9_isTask_33 (by decide) ?_
      rw [← hE]
      exact xe_z (0) hx hb hr hlocks hK hP hD hS rfl (⟨by rw [h14]; rfl, by unfold kTa; rw [h14]; rfl⟩) dX9_isTask_37
def rX9_are : Room := { frames := 1, cells := 0, slots := 0, locals := 22 }
set_option maxHeartbeats 4000000 in
set_option maxRecDepth 100000 in
theorem mX9_are (l : Launch) (D : va_G) (ca : Nat → ClassId) (sz : Nat) (mo : Nat) (na : Nat) (nb : Nat) (nc : Nat) (nd : Nat) (ne : Nat) (nf : Nat) (ng : Nat) (nh : Nat) (ni : Nat) (nj : Nat) (nl : Nat) (ms : Bool) (mk : Nat) (my : Nat) (mt : Nat) (mp : Nat) (sn : Nat → Int) (T : Nat) (t : Int32) (t2 : Int32) (hT : T ≤ 20) (hs0 : sn 0 = (T : Int)) : MM l yX9_are wsX9_are rX9_are D ca [.ref mo, .int (t), .int (t2)] sz [(mo, .inr (9, [.ref na, .ref nb, .ref nc, .ref nd, .int (bI (ms)), .int (nI mk), .ref ne, .int (nI my), .int (nI mt), .int (nI mp), .ref nf, .ref ng, .ref nh, .ref ni, .ref nj, .ref nl])), (na, .inl (ca 0, 442, .inl (zF sn)))] (QI D ca (fun (r : Int32) (u : Nat) => r = bI (decide (hasB T t = true ∧ hasB T t2 = true)) ∧ u = kTb T t t2) (fun u => [(mo, .inr (9, [.ref na, .ref nb, .ref nc, .ref nd, .int (bI (ms)), .int (nI mk), .ref ne, .int (nI my), .int (nI u), .int (nI mp), .ref nf, .ref ng, .ref nh, .ref ni, .ref nj, .ref nl])), (na, .inl (ca 0, 442, .inl (zF sn)))])) := by
  refine MM_of (cc := cX9_are) (maxL := 3) (ret := (some .boolean)) (lv0 := [(0, .ref mo), (1, .int (t)), (2, .int (t2))]) RX9 (by decide) rfl rfl (Nat.le_of_ble_eq_true rfl) rfl ?_
  intro pG eV s mI args below meth cO hx hb hr hml hts hown hlocks hnm A hA H locs hsz hP hK hD hS Q hE ls hl
  have f7 := hts (.fieldLink RX9 7 "SlackPlanModel" "now" "[I") (List.mem_of_getElem? (i := 1) rfl)
  have inX9 : ∀ w ∈ u_ws RX9 TX9 16, w ∈ wsX9_are := in_r _ [7, 8, 9, 10, 11, 12, 13, 14, 15, 16, 17, 18, 19, 20, 21, 22] rfl
  have f44 := hts (.fieldLink RX9 44 "SlackPlanModel" "thrown" "I") (List.mem_of_getElem? (i := 2) rfl)
  refine lv_aload_n hx hb dX9_are_0 rfl (lv_at hl 0 rfl) ?_
  refine lv_iload_n hx hb dX9_are_1 rfl (lv_at hl 1 rfl) ?_
  refine lv_iconst (v := nI (0)) hx hb dX9_are_2 (by decide) ?_
  refine lv_aload_n hx hb dX9_are_3 rfl (lv_at hl 0 rfl) ?_
  refine va_get (D := D) (ci := 9) (v := .ref na) (C := RX9) (T := TX9) (N := 16) hx hb hts inX9 hown hK hP 0 rfl rfl 0 (by decide) f7 (fun _ h9 => h9) rfl dX9_are_4 ?_
  refine lv_iconst (v := nI (0)) hx hb dX9_are_7 (by decide) ?_
  refine xr_iald hx hb hK hP 1 0 rfl rfl (by omega) (Nat.le_of_ble_eq_true rfl) (v := iZ (sn 0)) rfl dX9_are_8 ?_
  refine lv_iconst (v := nI (1)) hx hb dX9_are_9 (by decide) ?_
  refine xr_isub_zn hx hb dX9_are_10 ?_
  refine xk_pi (xk_S (As := [.int (t), .int (nI 0), .int (iZ ((sn 0) - 1))]) (rest := [.ref mo]) ⟨hx, hb, hml, hown, hts⟩ (mX9_in l D ca H.size t (nI (0)) (iZ ((sn 0) - 1)) ) (va_cwS 3 hts gX9_are_X9_in rfl rfl rfl (by decide +kernel) ⟨Nat.le_of_ble_eq_true rfl, Nat.le_of_ble_eq_true rfl⟩) hK hP hD [] rfl rfl rfl hl.1 rfl (Nat.le_of_ble_eq_true rfl) dX9_are_11 ⟨Nat.le_of_ble_eq_true rfl, Nat.le_of_ble_eq_true rfl⟩) hP hD hS hA [] rfl ⟨rfl, rfl⟩ (fun r11 H locs hw11 hP hS => ?_)
  have hw11 : r11 = bI (inB t (nI (0)) (iZ ((sn 0) - 1))) := hw11
  subst hw11
  refine lv_if_eq (tgt := 37) hx hb dX9_are_14 (by decide) (fun h14 => ?_) (fun h14 => ?_)
  · skip
    have h14 := bI_0.mp h14
    rw [in_has hs0 hT] at h14
    refine lv_iconst (v := nI (1)) hx hb dX9_are_37 (by decide) ?_
    refine va_put (D := D) (ci := 9) (v := .int (nI 1)) (ty := .int) (C := RX9) (T := TX9) (N := 16) hx hb hts inX9 tyX9 tyX9_ok nmX9 hown hK hP hD hS 0 rfl rfl 8 (by decide) f44 (fun _ h9 => h9) rfl (by decide +kernel) rfl rfl (Nat.le_of_ble_eq_true rfl) dX9_are_38 (fun H locs hP hD hS => ?_)
    have hP : va_P D vwCl [(mo, .inr (9, [.ref na, .ref nb, .ref nc, .ref nd, .int (bI (ms)), .int (nI mk), .ref ne, .int (nI my), .int (nI 1), .int (nI mp), .ref nf, .ref ng, .ref nh, .ref ni, .ref nj, .ref nl])), (na, .inl (ca 0, 442, .inl (zF sn)))] H := hP
    have hD : va_D A [(mo, .inr (9, [.ref na, .ref nb, .ref nc, .ref nd, .int (bI (ms)), .int (nI mk), .ref ne, .int (nI my), .int (nI 1), .int (nI mp), .ref nf, .ref ng, .ref nh, .ref ni, .ref nj, .ref nl])), (na, .inl (ca 0, 442, .inl (zF sn)))] := hD
    refine lv_aload_n hx hb dX9_are_41 rfl (lv_at hl 0 rfl) ?_
    refine va_get (D := D) (ci := 9) (v := .int (nI 1)) (C := RX9) (T := TX9) (N := 16) hx hb hts inX9 hown hK hP 0 rfl rfl 8 (by decide) f44 (fun _ h9 => h9) rfl dX9_are_42 ?_
    refine lv_if_ne (tgt := 52) hx hb dX9_are_45 (by decide) (fun h45 => ?_) (fun h45 => ?_)
    · skip
      have h45 := (not_congr (cE (nI_toInt (by omega)) z0_toInt)).mp h45
      refine lv_iconst (v := nI (0)) hx hb dX9_are_52 (by decide) ?_
      rw [← hE]
      exact xe_z (1) hx hb hr hlocks hK hP hD hS rfl (⟨by rw [decide_eq_false (by rw [h14]; simp)]; rfl, by unfold kTb; rw [if_neg (by rw [h14]; simp)]⟩) dX9_are_53
    · skip
      have h45 := (cE (nI_toInt (by omega)) z0_toInt).mp h45
      refine lv_iconst (v := nI (1)) hx hb dX9_are_48 (by decide) ?_
      refine lv_goto (tgt := 53) hx hb dX9_are_49 (by decide) ?_
      rw [← hE]
      exact xe_z (1) hx hb hr hlocks hK hP hD hS rfl (absurd h45 (by omega)) dX9_are_53
  · skip
    have h14 := bI_n0.mp h14
    rw [in_has hs0 hT] at h14
    refine lv_iload_n hx hb dX9_are_17 rfl (lv_at hl 2 rfl) ?_
    refine lv_iconst (v := nI (0)) hx hb dX9_are_18 (by decide) ?_
    refine lv_aload_n hx hb dX9_are_19 rfl (lv_at hl 0 rfl) ?_
    refine va_get (D := D) (ci := 9) (v := .ref na) (C := RX9) (T := TX9) (N := 16) hx hb hts inX9 hown hK hP 0 rfl rfl 0 (by decide) f7 (fun _ h9 => h9) rfl dX9_are_20 ?_
    refine lv_iconst (v := nI (0)) hx hb dX9_are_23 (by decide) ?_
    refine xr_iald hx hb hK hP 1 0 rfl rfl (by omega) (Nat.le_of_ble_eq_true rfl) (v := iZ (sn 0)) rfl dX9_are_24 ?_
    refine lv_iconst (v := nI (1)) hx hb dX9_are_25 (by decide) ?_
    refine xr_isub_zn hx hb dX9_are_26 ?_
    refine xk_pi (xk_S (As := [.int (t2), .int (nI 0), .int (iZ ((sn 0) - 1))]) (rest := [.ref mo]) ⟨hx, hb, hml, hown, hts⟩ (mX9_in l D ca H.size t2 (nI (0)) (iZ ((sn 0) - 1)) ) (va_cwS 3 hts gX9_are_X9_in rfl rfl rfl (by decide +kernel) ⟨Nat.le_of_ble_eq_true rfl, Nat.le_of_ble_eq_true rfl⟩) hK hP hD [] rfl rfl rfl hl.1 rfl (Nat.le_of_ble_eq_true rfl) dX9_are_27 ⟨Nat.le_of_ble_eq_true rfl, Nat.le_of_ble_eq_true rfl⟩) hP hD hS hA [] rfl ⟨rfl, rfl⟩ (fun r27 H locs hw27 hP hS => ?_)
    have hw27 : r27 = bI (inB t2 (nI (0)) (iZ ((sn 0) - 1))) := hw27
    subst hw27
    refine lv_if_eq (tgt := 37) hx hb dX9_are_30 (by decide) (fun h30 => ?_) (fun h30 => ?_)
    · skip
      have h30 := bI_0.mp h30
      rw [in_has hs0 hT] at h30
      refine lv_iconst (v := nI (1)) hx hb dX9_are_37 (by decide) ?_
      refine va_put (D := D) (ci := 9) (v := .int (nI 1)) (ty := .int) (C := RX9) (T := TX9) (N := 16) hx hb hts inX9 tyX9 tyX9_ok nmX9 hown hK hP hD hS 0 rfl rfl 8 (by decide) f44 (fun _ h9 => h9) rfl (by decide +kernel) rfl rfl (Nat.le_of_ble_eq_true rfl) dX9_are_38 (fun H locs hP hD hS => ?_)
      have hP : va_P D vwCl [(mo, .inr (9, [.ref na, .ref nb, .ref nc, .ref nd, .int (bI (ms)), .int (nI mk), .ref ne, .int (nI my), .int (nI 1), .int (nI mp), .ref nf, .ref ng, .ref nh, .ref ni, .ref nj, .ref nl])), (na, .inl (ca 0, 442, .inl (zF sn)))] H := hP
      have hD : va_D A [(mo, .inr (9, [.ref na, .ref nb, .ref nc, .ref nd, .int (bI (ms)), .int (nI mk), .ref ne, .int (nI my), .int (nI 1), .int (nI mp), .ref nf, .ref ng, .ref nh, .ref ni, .ref nj, .ref nl])), (na, .inl (ca 0, 442, .inl (zF sn)))] := hD
      refine lv_aload_n hx hb dX9_are_41 rfl (lv_at hl 0 rfl) ?_
      refine va_get (D := D) (ci := 9) (v := .int (nI 1)) (C := RX9) (T := TX9) (N := 16) hx hb hts inX9 hown hK hP 0 rfl rfl 8 (by decide) f44 (fun _ h9 => h9) rfl dX9_are_42 ?_
      refine lv_if_ne (tgt := 52) hx hb dX9_are_45 (by decide) (fun h45 => ?_) (fun h45 => ?_)
      · skip
        have h45 := (not_congr (cE (nI_toInt (by omega)) z0_toInt)).mp h45
        refine lv_iconst (v := nI (0)) hx hb dX9_are_52 (by decide) ?_
        rw [← hE]
        exact xe_z (1) hx hb hr hlocks hK hP hD hS rfl (⟨by rw [decide_eq_false (by rw [h30]; simp)]; rfl, by unfold kTb; rw [if_neg (by rw [h30]; simp)]⟩) dX9_are_53
      · skip
        have h45 := (cE (nI_toInt (by omega)) z0_toInt).mp h45
        refine lv_iconst (v := nI (1)) hx hb dX9_are_48 (by decide) ?_
        refine lv_goto (tgt := 53) hx hb dX9_are_49 (by decide) ?_
        rw [← hE]
        exact xe_z (1) hx hb hr hlocks hK hP hD hS rfl (absurd h45 (by omega)) dX9_are_53
    · skip
      have h30 := bI_n0.mp h30
      rw [in_has hs0 hT] at h30
      refine lv_iconst (v := nI (0)) hx hb dX9_are_33 (by decide) ?_
      refine lv_goto (tgt := 38) hx hb dX9_are_34 (by decide) ?_
      refine va_put (D := D) (ci := 9) (v := .int (nI 0)) (ty := .int) (C := RX9) (T := TX9) (N := 16) hx hb hts inX9 tyX9 tyX9_ok nmX9 hown hK hP hD hS 0 rfl rfl 8 (by decide) f44 (fun _ h9 => h9) rfl (by decide +kernel) rfl rfl (Nat.le_of_ble_eq_true rfl) dX9_are_38 (fun H locs hP hD hS => ?_)
      have hP : va_P D vwCl [(mo, .inr (9, [.ref na, .ref nb, .ref nc, .ref nd, .int (bI (ms)), .int (nI mk), .ref ne, .int (nI my), .int (nI 0), .int (nI mp), .ref nf, .ref ng, .ref nh, .ref ni, .ref nj, .ref nl])), (na, .inl (ca 0, 442, .inl (zF sn)))] H := hP
      have hD : va_D A [(mo, .inr (9, [.ref na, .ref nb, .ref nc, .ref nd, .int (bI (ms)), .int (nI mk), .ref ne, .int (nI my), .int (nI 0), .int (nI mp), .ref nf, .ref ng, .ref nh, .ref ni, .ref nj, .ref nl])), (na, .inl (ca 0, 442, .inl (zF sn)))] := hD
      refine lv_aload_n hx hb dX9_are_41 rfl (lv_at hl 0 rfl) ?_
      refine va_get (D := D) (ci := 9) (v := .int (nI 0)) (C := RX9) (T := TX9) (N := 16) hx hb hts inX9 hown hK hP 0 rfl rfl 8 (by decide) f44 (fun _ h9 => h9) rfl dX9_are_42 ?_
      refine lv_if_ne (tgt := 52) hx hb dX9_are_45 (by decide) (fun h45 => ?_) (fun h45 => ?_)
      · skip
        have h45 := (not_congr (cE (nI_toInt (by omega)) z0_toInt)).mp h45
        refine lv_iconst (v := nI (0)) hx hb dX9_are_52 (by decide) ?_
        rw [← hE]
        exact xe_z (0) hx hb hr hlocks hK hP hD hS rfl (absurd h45 (by omega)) dX9_are_53
      · skip
        have h45 := (cE (nI_toInt (by omega)) z0_toInt).mp h45
        refine lv_iconst (v := nI (1)) hx hb dX9_are_48 (by decide) ?_
        refine lv_goto (tgt := 53) hx hb dX9_are_49 (by decide) ?_
        rw [← hE]
        exact xe_z (0) hx hb hr hlocks hK hP hD hS rfl (⟨by rw [decide_eq_true ⟨h14, h30⟩]; rfl, by unfold kTb; rw [if_pos ⟨h14, h30⟩]⟩) dX9_are_53
def rX9_copies : Room := { frames := 0, cells := 0, slots := 0, locals := 0 }
set_option maxHeartbeats 4000000 in
set_option maxRecDepth 100000 in
theorem mX9_copies (l : Launch) (D : va_G) (ca : Nat → ClassId) (sz : Nat) (fa : Nat) (ta : Nat) (n1 : Nat) (n2 : Nat) (f : Nat → Int) (g : Nat → Int) (p : Nat) (q : Nat) (hp : p + 442 ≤ n1 ∧ n1 ≤ 5000) (hq : q + 442 ≤ n2 ∧ n2 ≤ 5000) : MM l yX9_copies wsX9_copies rX9_copies D ca [.ref fa, .int (nI p), .ref ta, .int (nI q)] sz [(fa, .inl (ca 0, n1, .inl (zF f))), (ta, .inl (ca 0, n2, .inl (zF g)))] (QV D ca (fun (u : Unit) => True) (fun _ => [(fa, .inl (ca 0, n1, .inl (zF f))), (ta, .inl (ca 0, n2, .inl (zF (cpF f p g q 442))))])) := by
  refine MM_of (cc := cX9_copies) (maxL := 5) (ret := none) (lv0 := [(0, .ref fa), (1, .int (nI p)), (2, .ref ta), (3, .int (nI q))]) RX9 (by decide) rfl rfl (Nat.le_of_ble_eq_true rfl) rfl ?_
  intro pG eV s mI args below meth cO hx hb hr hml hts hown hlocks hnm A hA H locs hsz hP hK hD hS Q hE ls hl
  refine lv_iconst (v := nI (0)) hx hb dX9_copies_0 (by decide) ?_
  refine lv_istore (lv' := [(4, .int (nI 0)), (0, .ref fa), (1, .int (nI p)), (2, .ref ta), (3, .int (nI q))]) hx hb dX9_copies_1 hl (by decide) rfl (fun ls hl => ?_)
  have L3 : ∀ (fu : Nat) (k : Nat) (g1 : Nat → Int), (k ≤ 442) → (g1 = cpF f p g q k) → (442 - k) < fu → ∀ (H : Heap) (locs : List Loc), va_P D vwCl [(fa, .inl (ca 0, n1, .inl (zF f))), (ta, .inl (ca 0, n2, .inl (zF g1)))] H → va_D A [(fa, .inl (ca 0, n1, .inl (zF f))), (ta, .inl (ca 0, n2, .inl (zF g1)))] → va_S A s.heap H locs → ∀ ls : Array Slot, lv_has ls 5 [(4, .int (nI k)), (0, .ref fa), (1, .int (nI p)), (2, .ref ta), (3, .int (nI q))] → W pG l eV rX9_copies s mI args below meth cO H locs 0 0 Q (F0 mI 3 ls []) := by
    clear hP hD hS hl
    intro fu; induction fu with
    | zero => intro k g1 hk hg hmu; exact absurd hmu (Nat.not_lt_zero _)
    | succ n3 ih3 =>
      intro k g1 hk hg hmu3 H locs hP hD hS ls hl
      refine lv_iload hx hb dX9_copies_3 (lv_at hl 0 rfl) ?_
      refine lv_sipush (v := nI (442)) hx hb dX9_copies_5 (by decide) ?_
      refine lv_icmp_ge (tgt := 29) hx hb dX9_copies_8 (by decide) (fun h8 => ?_) (fun h8 => ?_)
      · skip
        have h8 := (cL (nI_toInt (by omega)) (nI_toInt (by omega))).mp h8
        have e9 : k = 442 := by omega
        rw [e9] at hg
        have hP := hP.arr 1 (zF (cpF f p g q 442)) rfl (fun j _ => by rw [hg])
        have hD := hD.set (p := 1) (e := .inl (ca 0, n2, .inl (zF (cpF f p g q 442)))) rfl
        have hP : va_P D vwCl [(fa, .inl (ca 0, n1, .inl (zF f))), (ta, .inl (ca 0, n2, .inl (zF (cpF f p g q 442))))] H := hP
        have hD : va_D A [(fa, .inl (ca 0, n1, .inl (zF f))), (ta, .inl (ca 0, n2, .inl (zF (cpF f p g q 442))))] := hD
        rw [← hE]
        exact xe_v () hx hb hr hlocks hK hP hD hS trivial dX9_copies_29
      · skip
        have h8 := (not_congr (cL (nI_toInt (by omega)) (nI_toInt (by omega)))).mp h8
        refine lv_aload_n hx hb dX9_copies_11 rfl (lv_at hl 3 rfl) ?_
        refine lv_iload_n hx hb dX9_copies_12 rfl (lv_at hl 4 rfl) ?_
        refine lv_iload hx hb dX9_copies_13 (lv_at hl 0 rfl) ?_
        refine xr_iadd hx hb dX9_copies_15 ?_
        refine lv_aload_n hx hb dX9_copies_16 rfl (lv_at hl 1 rfl) ?_
        refine lv_iload_n hx hb dX9_copies_17 rfl (lv_at hl 2 rfl) ?_
        refine lv_iload hx hb dX9_copies_18 (lv_at hl 0 rfl) ?_
        refine xr_iadd hx hb dX9_copies_20 ?_
        refine xr_iald hx hb hK hP 0 0 rfl rfl (by omega) (by omega) (v := iZ (f (p + k))) rfl dX9_copies_21 ?_
        refine xr_iast hx hb hK hP hD hS 1 0 rfl rfl (by omega) (by omega) (zF (upZ g1 (q + k) (f (p + k)))) (fun _ _ => zF_up _ _ _ _) dX9_copies_22 (fun H locs hP hD hS => ?_)
        have hP : va_P D vwCl [(fa, .inl (ca 0, n1, .inl (zF f))), (ta, .inl (ca 0, n2, .inl (zF (upZ g1 (q + k) (f (p + k))))))] H := hP
        have hD : va_D A [(fa, .inl (ca 0, n1, .inl (zF f))), (ta, .inl (ca 0, n2, .inl (zF (upZ g1 (q + k) (f (p + k))))))] := hD
        refine lv_iinc (v := nI (k + 1)) (lv' := [(4, .int (nI (k + 1))), (0, .ref fa), (1, .int (nI p)), (2, .ref ta), (3, .int (nI q))]) hx hb dX9_copies_23 hl (k := 0) rfl (nI_add _ 1) (by decide) rfl (fun ls hl => ?_)
        refine lv_goto (tgt := 3) hx hb dX9_copies_26 (by decide) ?_
        exact ih3 (k + 1) (upZ g1 (q + k) (f (p + k))) (by omega) (by rw [hg]; exact cpF_s) (by omega) _ _ hP hD hS _ (lv_sub hl [0, 1, 2, 3, 4] rfl)
  exact L3 _ 0 g (by omega) cpF_0 (Nat.lt_succ_self _) _ _ hP hD hS _ (lv_sub hl [0, 1, 2, 3, 4] rfl)
def rX9_keepsState : Room := { frames := 1, cells := 0, slots := 0, locals := 24 }
set_option maxHeartbeats 4000000 in
set_option maxRecDepth 100000 in
theorem mX9_keepsState (l : Launch) (D : va_G) (ca : Nat → ClassId) (sz : Nat) (mo : Nat) (na : Nat) (nb : Nat) (nc : Nat) (nd : Nat) (ne : Nat) (nf : Nat) (ng : Nat) (nh : Nat) (ni : Nat) (nj : Nat) (nl : Nat) (ms : Bool) (mk : Nat) (my : Nat) (mt : Nat) (mp : Nat) (sn : Nat → Int) (pa : Nat → Int) (hmk : mk ≤ 5) : MM l yX9_keepsState wsX9_keepsState rX9_keepsState D ca [.ref mo] sz [(mo, .inr (9, [.ref na, .ref nb, .ref nc, .ref nd, .int (bI (ms)), .int (nI mk), .ref ne, .int (nI my), .int (nI mt), .int (nI mp), .ref nf, .ref ng, .ref nh, .ref ni, .ref nj, .ref nl])), (na, .inl (ca 0, 442, .inl (zF sn))), (nc, .inl (ca 0, 2210, .inl (zF pa)))] (QV D ca (fun (u : Nat × (Nat → Int)) => u.1 = (if mk = 5 then 5 else mk + 1) ∧ u.2 = cpF sn 0 (if mk = 5 then shF pa 1768 else pa) (442 * (if mk = 5 then 4 else mk)) 442) (fun u => [(mo, .inr (9, [.ref na, .ref nb, .ref nc, .ref nd, .int (bI (ms)), .int (nI u.1), .ref ne, .int (nI my), .int (nI mt), .int (nI mp), .ref nf, .ref ng, .ref nh, .ref ni, .ref nj, .ref nl])), (na, .inl (ca 0, 442, .inl (zF sn))), (nc, .inl (ca 0, 2210, .inl (zF u.2)))])) := by
  refine MM_of (cc := cX9_keepsState) (maxL := 2) (ret := none) (lv0 := [(0, .ref mo)]) RX9 (by decide) rfl rfl (Nat.le_of_ble_eq_true rfl) rfl ?_
  intro pG eV s mI args below meth cO hx hb hr hml hts hown hlocks hnm A hA H locs hsz hP hK hD hS Q hE ls hl
  have f52 := hts (.fieldLink RX9 52 "SlackPlanModel" "kept" "I") (List.mem_of_getElem? (i := 1) rfl)
  have inX9 : ∀ w ∈ u_ws RX9 TX9 16, w ∈ wsX9_keepsState := in_r _ [8, 9, 10, 11, 12, 13, 14, 15, 16, 17, 18, 19, 20, 21, 22, 23] rfl
  have f7 := hts (.fieldLink RX9 7 "SlackPlanModel" "now" "[I") (List.mem_of_getElem? (i := 3) rfl)
  have f16 := hts (.fieldLink RX9 16 "SlackPlanModel" "past" "[I") (List.mem_of_getElem? (i := 2) rfl)
  refine lv_aload_n hx hb dX9_keepsState_0 rfl (lv_at hl 0 rfl) ?_
  refine va_get (D := D) (ci := 9) (v := .int (nI mk)) (C := RX9) (T := TX9) (N := 16) hx hb hts inX9 hown hK hP 0 rfl rfl 5 (by decide) f52 (fun _ h9 => h9) rfl dX9_keepsState_1 ?_
  refine lv_iconst (v := nI (5)) hx hb dX9_keepsState_4 (by decide) ?_
  refine lv_icmp_ne (tgt := 49) hx hb dX9_keepsState_5 (by decide) (fun h5 => ?_) (fun h5 => ?_)
  · skip
    have h5 := (not_congr (cE (nI_toInt (by omega)) (nI_toInt (by omega)))).mp h5
    have h5 : ¬ mk = 5 := by omega
    refine lv_aload_n hx hb dX9_keepsState_49 rfl (lv_at hl 0 rfl) ?_
    refine va_get (D := D) (ci := 9) (v := .ref na) (C := RX9) (T := TX9) (N := 16) hx hb hts inX9 hown hK hP 0 rfl rfl 0 (by decide) f7 (fun _ h9 => h9) rfl dX9_keepsState_50 ?_
    refine lv_iconst (v := nI (0)) hx hb dX9_keepsState_53 (by decide) ?_
    refine lv_aload_n hx hb dX9_keepsState_54 rfl (lv_at hl 0 rfl) ?_
    refine va_get (D := D) (ci := 9) (v := .ref nc) (C := RX9) (T := TX9) (N := 16) hx hb hts inX9 hown hK hP 0 rfl rfl 2 (by decide) f16 (fun _ h9 => h9) rfl dX9_keepsState_55 ?_
    refine lv_sipush (v := nI (442)) hx hb dX9_keepsState_58 (by decide) ?_
    refine lv_aload_n hx hb dX9_keepsState_61 rfl (lv_at hl 0 rfl) ?_
    refine va_get (D := D) (ci := 9) (v := .int (nI mk)) (C := RX9) (T := TX9) (N := 16) hx hb hts inX9 hown hK hP 0 rfl rfl 5 (by decide) f52 (fun _ h9 => h9) rfl dX9_keepsState_62 ?_
    refine xr_imul hx hb dX9_keepsState_65 ?_
    refine xk_v [(mo, .inr (9, [.ref na, .ref nb, .ref nc, .ref nd, .int (bI (ms)), .int (nI mk), .ref ne, .int (nI my), .int (nI mt), .int (nI mp), .ref nf, .ref ng, .ref nh, .ref ni, .ref nj, .ref nl]))] (fun u => [(mo, .inr (9, [.ref na, .ref nb, .ref nc, .ref nd, .int (bI (ms)), .int (nI mk), .ref ne, .int (nI my), .int (nI mt), .int (nI mp), .ref nf, .ref ng, .ref nh, .ref ni, .ref nj, .ref nl])), (na, .inl (ca 0, 442, .inl (zF sn))), (nc, .inl (ca 0, 2210, .inl (zF (cpF sn 0 pa (442 * mk) 442))))]) (xk_S (As := [.ref na, .int (nI 0), .ref nc, .int (nI (442 * mk))]) (rest := []) ⟨hx, hb, hml, hown, hts⟩ (mX9_copies l D ca H.size na nc 442 2210 sn pa 0 (442 * mk) (by omega) (by omega)) (va_cwS 4 hts gX9_keepsState_X9_copies rfl rfl rfl (by decide +kernel) ⟨Nat.le_of_ble_eq_true rfl, Nat.le_of_ble_eq_true rfl⟩) hK hP hD [1, 2] rfl rfl rfl hl.1 rfl (Nat.le_of_ble_eq_true rfl) dX9_keepsState_66 ⟨Nat.le_of_ble_eq_true rfl, Nat.le_of_ble_eq_true rfl⟩) hP hD hS hA [1, 2] [0] [0, 1, 2] rfl rfl rfl rfl (fun _ => rfl) rfl (fun u66 H locs hw66 hP hD hS => ?_)
    have hw66 : True := hw66
    have hP : va_P D vwCl [(mo, .inr (9, [.ref na, .ref nb, .ref nc, .ref nd, .int (bI (ms)), .int (nI mk), .ref ne, .int (nI my), .int (nI mt), .int (nI mp), .ref nf, .ref ng, .ref nh, .ref ni, .ref nj, .ref nl])), (na, .inl (ca 0, 442, .inl (zF sn))), (nc, .inl (ca 0, 2210, .inl (zF (cpF sn 0 pa (442 * mk) 442))))] H := hP
    have hD : va_D A [(mo, .inr (9, [.ref na, .ref nb, .ref nc, .ref nd, .int (bI (ms)), .int (nI mk), .ref ne, .int (nI my), .int (nI mt), .int (nI mp), .ref nf, .ref ng, .ref nh, .ref ni, .ref nj, .ref nl])), (na, .inl (ca 0, 442, .inl (zF sn))), (nc, .inl (ca 0, 2210, .inl (zF (cpF sn 0 pa (442 * mk) 442))))] := hD
    refine lv_aload_n hx hb dX9_keepsState_69 rfl (lv_at hl 0 rfl) ?_
    refine lv_dup hx hb dX9_keepsState_70 rfl ?_
    refine va_get (D := D) (ci := 9) (v := .int (nI mk)) (C := RX9) (T := TX9) (N := 16) hx hb hts inX9 hown hK hP 0 rfl rfl 5 (by decide) f52 (fun _ h9 => h9) rfl dX9_keepsState_71 ?_
    refine lv_iconst (v := nI (1)) hx hb dX9_keepsState_74 (by decide) ?_
    refine xr_iadd hx hb dX9_keepsState_75 ?_
    refine va_put (D := D) (ci := 9) (v := .int (nI (mk + 1))) (ty := .int) (C := RX9) (T := TX9) (N := 16) hx hb hts inX9 tyX9 tyX9_ok nmX9 hown hK hP hD hS 0 rfl rfl 5 (by decide) f52 (fun _ h9 => h9) rfl (by decide +kernel) rfl rfl (Nat.le_of_ble_eq_true rfl) dX9_keepsState_76 (fun H locs hP hD hS => ?_)
    have hP : va_P D vwCl [(mo, .inr (9, [.ref na, .ref nb, .ref nc, .ref nd, .int (bI (ms)), .int (nI (mk + 1)), .ref ne, .int (nI my), .int (nI mt), .int (nI mp), .ref nf, .ref ng, .ref nh, .ref ni, .ref nj, .ref nl])), (na, .inl (ca 0, 442, .inl (zF sn))), (nc, .inl (ca 0, 2210, .inl (zF (cpF sn 0 pa (442 * mk) 442))))] H := hP
    have hD : va_D A [(mo, .inr (9, [.ref na, .ref nb, .ref nc, .ref nd, .int (bI (ms)), .int (nI (mk + 1)), .ref ne, .int (nI my), .int (nI mt), .int (nI mp), .ref nf, .ref ng, .ref nh, .ref ni, .ref nj, .ref nl])), (na, .inl (ca 0, 442, .inl (zF sn))), (nc, .inl (ca 0, 2210, .inl (zF (cpF sn 0 pa (442 * mk) 442))))] := hD
    rw [← hE]
    exact xe_v ((mk + 1), cpF sn 0 pa (442 * mk) 442) hx hb hr hlocks hK hP hD hS (⟨by rw [if_neg h5], by rw [if_neg h5, if_neg h5]⟩) dX9_keepsState_79
  · skip
    have h5 := (cE (nI_toInt (by omega)) (nI_toInt (by omega))).mp h5
    have h5 : mk = 5 := by omega
    refine lv_iconst (v := nI (0)) hx hb dX9_keepsState_8 (by decide) ?_
    refine lv_istore_n (lv' := [(1, .int (nI 0)), (0, .ref mo)]) hx hb dX9_keepsState_9 rfl hl (by decide) rfl (fun ls hl => ?_)
    have L10 : ∀ (fu : Nat) (k : Nat) (g1 : Nat → Int), (k ≤ 1768) → (g1 = shF pa k) → (1768 - k) < fu → ∀ (H : Heap) (locs : List Loc), va_P D vwCl [(mo, .inr (9, [.ref na, .ref nb, .ref nc, .ref nd, .int (bI (ms)), .int (nI mk), .ref ne, .int (nI my), .int (nI mt), .int (nI mp), .ref nf, .ref ng, .ref nh, .ref ni, .ref nj, .ref nl])), (na, .inl (ca 0, 442, .inl (zF sn))), (nc, .inl (ca 0, 2210, .inl (zF g1)))] H → va_D A [(mo, .inr (9, [.ref na, .ref nb, .ref nc, .ref nd, .int (bI (ms)), .int (nI mk), .ref ne, .int (nI my), .int (nI mt), .int (nI mp), .ref nf, .ref ng, .ref nh, .ref ni, .ref nj, .ref nl])), (na, .inl (ca 0, 442, .inl (zF sn))), (nc, .inl (ca 0, 2210, .inl (zF g1)))] → va_S A s.heap H locs → ∀ ls : Array Slot, lv_has ls 2 [(1, .int (nI k)), (0, .ref mo)] → W pG l eV rX9_keepsState s mI args below meth cO H locs 0 0 Q (F0 mI 10 ls []) := by
      clear hP hD hS hl
      intro fu; induction fu with
      | zero => intro k g1 hk hg hmu; exact absurd hmu (Nat.not_lt_zero _)
      | succ n10 ih10 =>
        intro k g1 hk hg hmu10 H locs hP hD hS ls hl
        refine lv_iload_n hx hb dX9_keepsState_10 rfl (lv_at hl 0 rfl) ?_
        refine lv_sipush (v := nI (1768)) hx hb dX9_keepsState_11 (by decide) ?_
        refine lv_icmp_ge (tgt := 39) hx hb dX9_keepsState_14 (by decide) (fun h14 => ?_) (fun h14 => ?_)
        · skip
          have h14 := (cL (nI_toInt (by omega)) (nI_toInt (by omega))).mp h14
          have e9 : k = 1768 := by omega
          rw [e9] at hg
          have hP := hP.arr 2 (zF (shF pa 1768)) rfl (fun j _ => by rw [hg])
          have hD := hD.set (p := 2) (e := .inl (ca 0, 2210, .inl (zF (shF pa 1768)))) rfl
          have hP : va_P D vwCl [(mo, .inr (9, [.ref na, .ref nb, .ref nc, .ref nd, .int (bI (ms)), .int (nI mk), .ref ne, .int (nI my), .int (nI mt), .int (nI mp), .ref nf, .ref ng, .ref nh, .ref ni, .ref nj, .ref nl])), (na, .inl (ca 0, 442, .inl (zF sn))), (nc, .inl (ca 0, 2210, .inl (zF (shF pa 1768))))] H := hP
          have hD : va_D A [(mo, .inr (9, [.ref na, .ref nb, .ref nc, .ref nd, .int (bI (ms)), .int (nI mk), .ref ne, .int (nI my), .int (nI mt), .int (nI mp), .ref nf, .ref ng, .ref nh, .ref ni, .ref nj, .ref nl])), (na, .inl (ca 0, 442, .inl (zF sn))), (nc, .inl (ca 0, 2210, .inl (zF (shF pa 1768))))] := hD
          refine lv_aload_n hx hb dX9_keepsState_39 rfl (lv_at hl 1 rfl) ?_
          refine lv_dup hx hb dX9_keepsState_40 rfl ?_
          refine va_get (D := D) (ci := 9) (v := .int (nI mk)) (C := RX9) (T := TX9) (N := 16) hx hb hts inX9 hown hK hP 0 rfl rfl 5 (by decide) f52 (fun _ h9 => h9) rfl dX9_keepsState_41 ?_
          refine lv_iconst (v := nI (1)) hx hb dX9_keepsState_44 (by decide) ?_
          refine xr_isub_nn hx hb dX9_keepsState_45 ?_
          refine xr_top (y := nI (4)) (by rw [iZ_n]; exact congrArg iZ (by omega)) ?_
          refine va_put (D := D) (ci := 9) (v := .int (nI 4)) (ty := .int) (C := RX9) (T := TX9) (N := 16) hx hb hts inX9 tyX9 tyX9_ok nmX9 hown hK hP hD hS 0 rfl rfl 5 (by decide) f52 (fun _ h9 => h9) rfl (by decide +kernel) rfl rfl (Nat.le_of_ble_eq_true rfl) dX9_keepsState_46 (fun H locs hP hD hS => ?_)
          have hP : va_P D vwCl [(mo, .inr (9, [.ref na, .ref nb, .ref nc, .ref nd, .int (bI (ms)), .int (nI 4), .ref ne, .int (nI my), .int (nI mt), .int (nI mp), .ref nf, .ref ng, .ref nh, .ref ni, .ref nj, .ref nl])), (na, .inl (ca 0, 442, .inl (zF sn))), (nc, .inl (ca 0, 2210, .inl (zF (shF pa 1768))))] H := hP
          have hD : va_D A [(mo, .inr (9, [.ref na, .ref nb, .ref nc, .ref nd, .int (bI (ms)), .int (nI 4), .ref ne, .int (nI my), .int (nI mt), .int (nI mp), .ref nf, .ref ng, .ref nh, .ref ni, .ref nj, .ref nl])), (na, .inl (ca 0, 442, .inl (zF sn))), (nc, .inl (ca 0, 2210, .inl (zF (shF pa 1768))))] := hD
          refine lv_aload_n hx hb dX9_keepsState_49 rfl (lv_at hl 1 rfl) ?_
          refine va_get (D := D) (ci := 9) (v := .ref na) (C := RX9) (T := TX9) (N := 16) hx hb hts inX9 hown hK hP 0 rfl rfl 0 (by decide) f7 (fun _ h9 => h9) rfl dX9_keepsState_50 ?_
          refine lv_iconst (v := nI (0)) hx hb dX9_keepsState_53 (by decide) ?_
          refine lv_aload_n hx hb dX9_keepsState_54 rfl (lv_at hl 1 rfl) ?_
          refine va_get (D := D) (ci := 9) (v := .ref nc) (C := RX9) (T := TX9) (N := 16) hx hb hts inX9 hown hK hP 0 rfl rfl 2 (by decide) f16 (fun _ h9 => h9) rfl dX9_keepsState_55 ?_
          refine lv_sipush (v := nI (442)) hx hb dX9_keepsState_58 (by decide) ?_
          refine lv_aload_n hx hb dX9_keepsState_61 rfl (lv_at hl 1 rfl) ?_
          refine va_get (D := D) (ci := 9) (v := .int (nI 4)) (C := RX9) (T := TX9) (N := 16) hx hb hts inX9 hown hK hP 0 rfl rfl 5 (by decide) f52 (fun _ h9 => h9) rfl dX9_keepsState_62 ?_
          refine xr_imul hx hb dX9_keepsState_65 ?_
          refine xk_v [(mo, .inr (9, [.ref na, .ref nb, .ref nc, .ref nd, .int (bI (ms)), .int (nI 4), .ref ne, .int (nI my), .int (nI mt), .int (nI mp), .ref nf, .ref ng, .ref nh, .ref ni, .ref nj, .ref nl]))] (fun u => [(mo, .inr (9, [.ref na, .ref nb, .ref nc, .ref nd, .int (bI (ms)), .int (nI 4), .ref ne, .int (nI my), .int (nI mt), .int (nI mp), .ref nf, .ref ng, .ref nh, .ref ni, .ref nj, .ref nl])), (na, .inl (ca 0, 442, .inl (zF sn))), (nc, .inl (ca 0, 2210, .inl (zF (cpF sn 0 (shF pa 1768) (442 * 4) 442))))]) (xk_S (As := [.ref na, .int (nI 0), .ref nc, .int (nI (442 * 4))]) (rest := []) ⟨hx, hb, hml, hown, hts⟩ (mX9_copies l D ca H.size na nc 442 2210 sn (shF pa 1768) 0 (442 * 4) (by omega) (by omega)) (va_cwS 4 hts gX9_keepsState_X9_copies rfl rfl rfl (by decide +kernel) ⟨Nat.le_of_ble_eq_true rfl, Nat.le_of_ble_eq_true rfl⟩) hK hP hD [1, 2] rfl rfl rfl hl.1 rfl (Nat.le_of_ble_eq_true rfl) dX9_keepsState_66 ⟨Nat.le_of_ble_eq_true rfl, Nat.le_of_ble_eq_true rfl⟩) hP hD hS hA [1, 2] [0] [0, 1, 2] rfl rfl rfl rfl (fun _ => rfl) rfl (fun u66 H locs hw66 hP hD hS => ?_)
          have hw66 : True := hw66
          have hP : va_P D vwCl [(mo, .inr (9, [.ref na, .ref nb, .ref nc, .ref nd, .int (bI (ms)), .int (nI 4), .ref ne, .int (nI my), .int (nI mt), .int (nI mp), .ref nf, .ref ng, .ref nh, .ref ni, .ref nj, .ref nl])), (na, .inl (ca 0, 442, .inl (zF sn))), (nc, .inl (ca 0, 2210, .inl (zF (cpF sn 0 (shF pa 1768) (442 * 4) 442))))] H := hP
          have hD : va_D A [(mo, .inr (9, [.ref na, .ref nb, .ref nc, .ref nd, .int (bI (ms)), .int (nI 4), .ref ne, .int (nI my), .int (nI mt), .int (nI mp), .ref nf, .ref ng, .ref nh, .ref ni, .ref nj, .ref nl])), (na, .inl (ca 0, 442, .inl (zF sn))), (nc, .inl (ca 0, 2210, .inl (zF (cpF sn 0 (shF pa 1768) (442 * 4) 442))))] := hD
          refine lv_aload_n hx hb dX9_keepsState_69 rfl (lv_at hl 1 rfl) ?_
          refine lv_dup hx hb dX9_keepsState_70 rfl ?_
          refine va_get (D := D) (ci := 9) (v := .int (nI 4)) (C := RX9) (T := TX9) (N := 16) hx hb hts inX9 hown hK hP 0 rfl rfl 5 (by decide) f52 (fun _ h9 => h9) rfl dX9_keepsState_71 ?_
          refine lv_iconst (v := nI (1)) hx hb dX9_keepsState_74 (by decide) ?_
          refine xr_iadd hx hb dX9_keepsState_75 ?_
          refine va_put (D := D) (ci := 9) (v := .int (nI (4 + 1))) (ty := .int) (C := RX9) (T := TX9) (N := 16) hx hb hts inX9 tyX9 tyX9_ok nmX9 hown hK hP hD hS 0 rfl rfl 5 (by decide) f52 (fun _ h9 => h9) rfl (by decide +kernel) rfl rfl (Nat.le_of_ble_eq_true rfl) dX9_keepsState_76 (fun H locs hP hD hS => ?_)
          have hP : va_P D vwCl [(mo, .inr (9, [.ref na, .ref nb, .ref nc, .ref nd, .int (bI (ms)), .int (nI (4 + 1)), .ref ne, .int (nI my), .int (nI mt), .int (nI mp), .ref nf, .ref ng, .ref nh, .ref ni, .ref nj, .ref nl])), (na, .inl (ca 0, 442, .inl (zF sn))), (nc, .inl (ca 0, 2210, .inl (zF (cpF sn 0 (shF pa 1768) (442 * 4) 442))))] H := hP
          have hD : va_D A [(mo, .inr (9, [.ref na, .ref nb, .ref nc, .ref nd, .int (bI (ms)), .int (nI (4 + 1)), .ref ne, .int (nI my), .int (nI mt), .int (nI mp), .ref nf, .ref ng, .ref nh, .ref ni, .ref nj, .ref nl])), (na, .inl (ca 0, 442, .inl (zF sn))), (nc, .inl (ca 0, 2210, .inl (zF (cpF sn 0 (shF pa 1768) (442 * 4) 442))))] := hD
          rw [← hE]
          exact xe_v ((4 + 1), cpF sn 0 (shF pa 1768) (442 * 4) 442) hx hb hr hlocks hK hP hD hS (⟨by rw [if_pos h5], by rw [if_pos h5, if_pos h5]⟩) dX9_keepsState_79
        · skip
          have h14 := (not_congr (cL (nI_toInt (by omega)) (nI_toInt (by omega)))).mp h14
          refine lv_aload_n hx hb dX9_keepsState_17 rfl (lv_at hl 1 rfl) ?_
          refine va_get (D := D) (ci := 9) (v := .ref nc) (C := RX9) (T := TX9) (N := 16) hx hb hts inX9 hown hK hP 0 rfl rfl 2 (by decide) f16 (fun _ h9 => h9) rfl dX9_keepsState_18 ?_
          refine lv_iload_n hx hb dX9_keepsState_21 rfl (lv_at hl 0 rfl) ?_
          refine lv_aload_n hx hb dX9_keepsState_22 rfl (lv_at hl 1 rfl) ?_
          refine va_get (D := D) (ci := 9) (v := .ref nc) (C := RX9) (T := TX9) (N := 16) hx hb hts inX9 hown hK hP 0 rfl rfl 2 (by decide) f16 (fun _ h9 => h9) rfl dX9_keepsState_23 ?_
          refine lv_iload_n hx hb dX9_keepsState_26 rfl (lv_at hl 0 rfl) ?_
          refine lv_sipush (v := nI (442)) hx hb dX9_keepsState_27 (by decide) ?_
          refine xr_iadd hx hb dX9_keepsState_30 ?_
          refine xr_iald hx hb hK hP 2 0 rfl rfl (by omega) (Nat.le_of_ble_eq_true rfl) (v := iZ (g1 (k + 442))) rfl dX9_keepsState_31 ?_
          refine xr_iast hx hb hK hP hD hS 2 0 rfl rfl (by omega) (Nat.le_of_ble_eq_true rfl) (zF (upZ g1 k (g1 (k + 442)))) (fun _ _ => zF_up _ _ _ _) dX9_keepsState_32 (fun H locs hP hD hS => ?_)
          have hP : va_P D vwCl [(mo, .inr (9, [.ref na, .ref nb, .ref nc, .ref nd, .int (bI (ms)), .int (nI mk), .ref ne, .int (nI my), .int (nI mt), .int (nI mp), .ref nf, .ref ng, .ref nh, .ref ni, .ref nj, .ref nl])), (na, .inl (ca 0, 442, .inl (zF sn))), (nc, .inl (ca 0, 2210, .inl (zF (upZ g1 k (g1 (k + 442))))))] H := hP
          have hD : va_D A [(mo, .inr (9, [.ref na, .ref nb, .ref nc, .ref nd, .int (bI (ms)), .int (nI mk), .ref ne, .int (nI my), .int (nI mt), .int (nI mp), .ref nf, .ref ng, .ref nh, .ref ni, .ref nj, .ref nl])), (na, .inl (ca 0, 442, .inl (zF sn))), (nc, .inl (ca 0, 2210, .inl (zF (upZ g1 k (g1 (k + 442))))))] := hD
          refine lv_iinc (v := nI (k + 1)) (lv' := [(1, .int (nI (k + 1))), (0, .ref mo)]) hx hb dX9_keepsState_33 hl (k := 0) rfl (nI_add _ 1) (by decide) rfl (fun ls hl => ?_)
          refine lv_goto (tgt := 10) hx hb dX9_keepsState_36 (by decide) ?_
          exact ih10 (k + 1) (upZ g1 k (g1 (k + 442))) (by omega) (by rw [hg]; exact shF_s) (by omega) _ _ hP hD hS _ (lv_sub hl [0, 1] rfl)
    exact L10 _ 0 pa (by omega) shF_0 (Nat.lt_succ_self _) _ _ hP hD hS _ (lv_sub hl [0, 1] rfl)
def rX9_lag : Room := { frames := 0, cells := 0, slots := 0, locals := 0 }
set_option maxHeartbeats 4000000 in
set_option maxRecDepth 100000 in
theorem mX9_lag (l : Launch) (D : va_G) (ca : Nat → ClassId) (sz : Nat) (sa : Nat) (sv : Nat → Int) (T : Nat) (C : Int) (L : Nat → Int) (N : Nat → Int) (G : Nat → Nat → Int) (i : Nat) (j : Nat) (hM : MS sv T C L N G) (hij : i < 20 ∧ j < 20) : MM l yX9_lag wsX9_lag rX9_lag D ca [.ref sa, .int (nI i), .int (nI j)] sz [(sa, .inl (ca 0, 442, .inl (zF sv)))] (QI D ca (fun (r : Int32) (u : Unit) => r = iZ (G i j)) (fun _ => [(sa, .inl (ca 0, 442, .inl (zF sv)))])) := by
  refine MM_of (cc := cX9_lag) (maxL := 3) (ret := (some .int)) (lv0 := [(0, .ref sa), (1, .int (nI i)), (2, .int (nI j))]) RX9 (by decide) rfl rfl (Nat.le_of_ble_eq_true rfl) rfl ?_
  intro pG eV s mI args below meth cO hx hb hr hml hts hown hlocks hnm A hA H locs hsz hP hK hD hS Q hE ls hl
  refine lv_aload_n hx hb dX9_lag_0 rfl (lv_at hl 0 rfl) ?_
  refine lv_bipush (v := nI (42)) hx hb dX9_lag_1 (by decide) ?_
  refine lv_bipush (v := nI (20)) hx hb dX9_lag_3 (by decide) ?_
  refine lv_iload_n hx hb dX9_lag_5 rfl (lv_at hl 1 rfl) ?_
  refine xr_imul hx hb dX9_lag_6 ?_
  refine xr_iadd hx hb dX9_lag_7 ?_
  refine lv_iload_n hx hb dX9_lag_8 rfl (lv_at hl 2 rfl) ?_
  refine xr_iadd hx hb dX9_lag_9 ?_
  refine xr_iald hx hb hK hP 0 0 rfl rfl (by omega) (Nat.le_of_ble_eq_true rfl) (v := iZ (sv ((42 + (20 * i)) + j))) rfl dX9_lag_10 ?_
  rw [← hE]
  exact xe_i () hx hb hr hlocks hK hP hD hS (congrArg iZ (MS_g hM hij.1 hij.2)) dX9_lag_11
def rX9_links : Room := { frames := 0, cells := 0, slots := 0, locals := 0 }
set_option maxHeartbeats 4000000 in
set_option maxRecDepth 100000 in
theorem mX9_links (l : Launch) (D : va_G) (ca : Nat → ClassId) (sz : Nat) (sa : Nat) (sv : Nat → Int) (T : Nat) (C : Int) (L : Nat → Int) (N : Nat → Int) (G : Nat → Nat → Int) (hM : MS sv T C L N G) (hG : GOK G) : MM l yX9_links wsX9_links rX9_links D ca [.ref sa] sz [(sa, .inl (ca 0, 442, .inl (zF sv)))] (QI D ca (fun (r : Int32) (u : Unit) => r = iZ (lnk G)) (fun _ => [(sa, .inl (ca 0, 442, .inl (zF sv)))])) := by
  refine MM_of (cc := cX9_links) (maxL := 3) (ret := (some .int)) (lv0 := [(0, .ref sa)]) RX9 (by decide) rfl rfl (Nat.le_of_ble_eq_true rfl) rfl ?_
  intro pG eV s mI args below meth cO hx hb hr hml hts hown hlocks hnm A hA H locs hsz hP hK hD hS Q hE ls hl
  refine lv_iconst (v := iZ 0) hx hb dX9_links_0 (by decide) ?_
  refine lv_istore_n (lv' := [(1, .int (iZ 0)), (0, .ref sa)]) hx hb dX9_links_1 rfl hl (by decide) rfl (fun ls hl => ?_)
  refine lv_bipush (v := nI (42)) hx hb dX9_links_2 (by decide) ?_
  refine lv_istore_n (lv' := [(2, .int (nI 42)), (1, .int (iZ 0)), (0, .ref sa)]) hx hb dX9_links_4 rfl hl (by decide) rfl (fun ls hl => ?_)
  have L5 : ∀ (fu : Nat) (q : Nat) (n : Int), (q ≤ 400) → (n = lnkN G q) → (400 - q) < fu → ∀ (H : Heap) (locs : List Loc), va_P D vwCl [(sa, .inl (ca 0, 442, .inl (zF sv)))] H → va_D A [(sa, .inl (ca 0, 442, .inl (zF sv)))] → va_S A s.heap H locs → ∀ ls : Array Slot, lv_has ls 3 [(2, .int (nI (42 + q))), (1, .int (iZ n)), (0, .ref sa)] → W pG l eV rX9_links s mI args below meth cO H locs 0 0 Q (F0 mI 5 ls []) := by
    clear hP hD hS hl
    intro fu; induction fu with
    | zero => intro q n hq hn hmu; exact absurd hmu (Nat.not_lt_zero _)
    | succ n5 ih5 =>
      intro q n hq hn hmu5 H locs hP hD hS ls hl
      refine lv_iload_n hx hb dX9_links_5 rfl (lv_at hl 0 rfl) ?_
      refine lv_sipush (v := nI (442)) hx hb dX9_links_6 (by decide) ?_
      refine lv_icmp_ge (tgt := 32) hx hb dX9_links_9 (by decide) (fun h9 => ?_) (fun h9 => ?_)
      · skip
        have h9 := (cL (nI_toInt (by omega)) (nI_toInt (by omega))).mp h9
        refine lv_iload_n hx hb dX9_links_32 rfl (lv_at hl 1 rfl) ?_
        rw [← hE]
        exact xe_i () hx hb hr hlocks hK hP hD hS (by rw [hn, show q = 400 by omega]; rfl) dX9_links_33
      · skip
        have h9 := (not_congr (cL (nI_toInt (by omega)) (nI_toInt (by omega)))).mp h9
        refine lv_iload_n hx hb dX9_links_12 rfl (lv_at hl 1 rfl) ?_
        refine lv_aload_n hx hb dX9_links_13 rfl (lv_at hl 2 rfl) ?_
        refine lv_iload_n hx hb dX9_links_14 rfl (lv_at hl 0 rfl) ?_
        refine xr_iald hx hb hK hP 0 0 rfl rfl (by omega) (Nat.le_of_ble_eq_true rfl) (v := iZ (sv (42 + q))) rfl dX9_links_15 ?_
        have hb0 := hM.2.2.2 q (by omega)
        have hb1 := hG (q / 20) (q % 20) (by omega) (by omega)
        refine lv_if_ge (tgt := 23) hx hb dX9_links_16 (by decide) (fun h16 => ?_) (fun h16 => ?_)
        · skip
          have h16 := (cL z0_toInt (iZ_toInt (by omega) (by omega))).mp h16
          refine lv_iconst (v := nI (1)) hx hb dX9_links_23 (by decide) ?_
          refine xr_iadd_zn hx hb dX9_links_24 ?_
          refine lv_istore_n (lv' := [(1, .int (iZ (n + 1))), (2, .int (nI (42 + q))), (0, .ref sa)]) hx hb dX9_links_25 rfl hl (by decide) rfl (fun ls hl => ?_)
          refine lv_iinc (v := nI (42 + q + 1)) (lv' := [(2, .int (nI (42 + q + 1))), (1, .int (iZ (n + 1))), (0, .ref sa)]) hx hb dX9_links_26 hl (k := 1) rfl (nI_add _ 1) (by decide) rfl (fun ls hl => ?_)
          refine lv_goto (tgt := 5) hx hb dX9_links_29 (by decide) ?_
          exact ih5 (q + 1) (n + 1) (by omega) (by rw [hn, lnkN]; unfold isD; rw [if_neg (by omega)]) (by omega) _ _ hP hD hS _ (lv_sub hl [0, 1, 2] rfl)
        · skip
          have h16 := (not_congr (cL z0_toInt (iZ_toInt (by omega) (by omega)))).mp h16
          refine lv_iconst (v := nI (0)) hx hb dX9_links_19 (by decide) ?_
          refine lv_goto (tgt := 24) hx hb dX9_links_20 (by decide) ?_
          refine xr_iadd_zn hx hb dX9_links_24 ?_
          refine lv_istore_n (lv' := [(1, .int (iZ (n + 0))), (2, .int (nI (42 + q))), (0, .ref sa)]) hx hb dX9_links_25 rfl hl (by decide) rfl (fun ls hl => ?_)
          refine lv_iinc (v := nI (42 + q + 1)) (lv' := [(2, .int (nI (42 + q + 1))), (1, .int (iZ (n + 0))), (0, .ref sa)]) hx hb dX9_links_26 hl (k := 1) rfl (nI_add _ 1) (by decide) rfl (fun ls hl => ?_)
          refine lv_goto (tgt := 5) hx hb dX9_links_29 (by decide) ?_
          exact ih5 (q + 1) (n + 0) (by omega) (by rw [hn, lnkN]; unfold isD; rw [if_pos (by omega)]) (by omega) _ _ hP hD hS _ (lv_sub hl [0, 1, 2] rfl)
  exact L5 _ 0 0 (by omega) rfl (Nat.lt_succ_self _) _ _ hP hD hS _ (lv_sub hl [0, 1, 2] rfl)
def rX9_starts : Room := { frames := 0, cells := 0, slots := 0, locals := 0 }
set_option maxHeartbeats 4000000 in
set_option maxRecDepth 100000 in
theorem mX9_starts (l : Launch) (D : va_G) (ca : Nat → ClassId) (sz : Nat) (mo : Nat) (na : Nat) (nb : Nat) (nc : Nat) (nd : Nat) (ne : Nat) (nf : Nat) (ng : Nat) (nh : Nat) (ni : Nat) (nj : Nat) (nl : Nat) (ms : Bool) (mk : Nat) (my : Nat) (mt : Nat) (mp : Nat) (sa : Nat) (sv : Nat → Int) (e : Nat → Int) (T : Nat) (C : Int) (L : Nat → Int) (N : Nat → Int) (G : Nat → Nat → Int) (hT : T ≤ 20) (hG : GOK G) (hac : ACY G T) (hGo : ∀ i j, i < 20 → j < 20 → G i j ≠ -1 → i < T ∧ j < T) (hM : MS sv T C L N G) (hL : LOK T L) : MM l yX9_starts wsX9_starts rX9_starts D ca [.ref mo, .ref sa] sz [(mo, .inr (9, [.ref na, .ref nb, .ref nc, .ref nd, .int (bI (ms)), .int (nI mk), .ref ne, .int (nI my), .int (nI mt), .int (nI mp), .ref nf, .ref ng, .ref nh, .ref ni, .ref nj, .ref nl])), (nf, .inl (ca 0, 20, .inl (zF e))), (sa, .inl (ca 0, 442, .inl (zF sv)))] (QI D ca (fun (r : Int32) (u : (Nat → Int)) => r = iZ (span G T L) ∧ ∀ j, j < T → u j = es G T L j) (fun u => [(mo, .inr (9, [.ref na, .ref nb, .ref nc, .ref nd, .int (bI (ms)), .int (nI mk), .ref ne, .int (nI my), .int (nI mt), .int (nI mp), .ref nf, .ref ng, .ref nh, .ref ni, .ref nj, .ref nl])), (nf, .inl (ca 0, 20, .inl (zF u))), (sa, .inl (ca 0, 442, .inl (zF sv)))])) := by
  refine MM_of (cc := cX9_starts) (maxL := 6) (ret := (some .int)) (lv0 := [(0, .ref mo), (1, .ref sa)]) RX9 (by decide) rfl rfl (Nat.le_of_ble_eq_true rfl) rfl ?_
  intro pG eV s mI args below meth cO hx hb hr hml hts hown hlocks hnm A hA H locs hsz hP hK hD hS Q hE ls hl
  have f25 := hts (.fieldLink RX9 25 "SlackPlanModel" "early" "[I") (List.mem_of_getElem? (i := 1) rfl)
  have inX9 : ∀ w ∈ u_ws RX9 TX9 16, w ∈ wsX9_starts := in_r _ [2, 3, 4, 5, 6, 7, 8, 9, 10, 11, 12, 13, 14, 15, 16, 17] rfl
  refine lv_iconst (v := nI (0)) hx hb dX9_starts_0 (by decide) ?_
  refine lv_istore_n (lv' := [(2, .int (nI 0)), (0, .ref mo), (1, .ref sa)]) hx hb dX9_starts_1 rfl hl (by decide) rfl (fun ls hl => ?_)
  have L2 : ∀ (fu : Nat) (k : Nat) (e2 : Nat → Int), (k ≤ 20) → (e2 = rwF e (fun _ => 0) k) → (20 - k) < fu → ∀ (H : Heap) (locs : List Loc), va_P D vwCl [(mo, .inr (9, [.ref na, .ref nb, .ref nc, .ref nd, .int (bI (ms)), .int (nI mk), .ref ne, .int (nI my), .int (nI mt), .int (nI mp), .ref nf, .ref ng, .ref nh, .ref ni, .ref nj, .ref nl])), (nf, .inl (ca 0, 20, .inl (zF e2))), (sa, .inl (ca 0, 442, .inl (zF sv)))] H → va_D A [(mo, .inr (9, [.ref na, .ref nb, .ref nc, .ref nd, .int (bI (ms)), .int (nI mk), .ref ne, .int (nI my), .int (nI mt), .int (nI mp), .ref nf, .ref ng, .ref nh, .ref ni, .ref nj, .ref nl])), (nf, .inl (ca 0, 20, .inl (zF e2))), (sa, .inl (ca 0, 442, .inl (zF sv)))] → va_S A s.heap H locs → ∀ ls : Array Slot, lv_has ls 6 [(2, .int (nI k)), (0, .ref mo), (1, .ref sa)] → W pG l eV rX9_starts s mI args below meth cO H locs 0 0 Q (F0 mI 2 ls []) := by
    clear hP hD hS hl
    intro fu; induction fu with
    | zero => intro k e2 hk he hmu; exact absurd hmu (Nat.not_lt_zero _)
    | succ n2 ih2 =>
      intro k e2 hk he hmu2 H locs hP hD hS ls hl
      refine lv_iload_n hx hb dX9_starts_2 rfl (lv_at hl 0 rfl) ?_
      refine lv_bipush (v := nI (20)) hx hb dX9_starts_3 (by decide) ?_
      refine lv_icmp_ge (tgt := 21) hx hb dX9_starts_5 (by decide) (fun h5 => ?_) (fun h5 => ?_)
      · skip
        have h5 := (cL (nI_toInt (by omega)) (nI_toInt (by omega))).mp h5
        have e9 : k = 20 := by omega
        rw [e9] at he
        have hP := hP.arr 1 (zF (fun _ => 0)) rfl (fun j hj => by rw [he]; unfold zF rwF; rw [if_pos (show j < 20 from hj)])
        have hD := hD.set (p := 1) (e := .inl (ca 0, 20, .inl (zF (fun _ => 0)))) rfl
        have hP : va_P D vwCl [(mo, .inr (9, [.ref na, .ref nb, .ref nc, .ref nd, .int (bI (ms)), .int (nI mk), .ref ne, .int (nI my), .int (nI mt), .int (nI mp), .ref nf, .ref ng, .ref nh, .ref ni, .ref nj, .ref nl])), (nf, .inl (ca 0, 20, .inl (zF (fun _ => 0)))), (sa, .inl (ca 0, 442, .inl (zF sv)))] H := hP
        have hD : va_D A [(mo, .inr (9, [.ref na, .ref nb, .ref nc, .ref nd, .int (bI (ms)), .int (nI mk), .ref ne, .int (nI my), .int (nI mt), .int (nI mp), .ref nf, .ref ng, .ref nh, .ref ni, .ref nj, .ref nl])), (nf, .inl (ca 0, 20, .inl (zF (fun _ => 0)))), (sa, .inl (ca 0, 442, .inl (zF sv)))] := hD
        refine lv_iconst (v := nI (1)) hx hb dX9_starts_21 (by decide) ?_
        refine lv_istore_n (lv' := [(2, .int (nI 1)), (0, .ref mo), (1, .ref sa)]) hx hb dX9_starts_22 rfl hl (by decide) rfl (fun ls hl => ?_)
        have L23 : ∀ (fu : Nat) (kk : Nat) (e2 : Nat → Int) (m : Bool), (WH G T L kk e2 m) → (T + 3 - kk) < fu → ∀ (H : Heap) (locs : List Loc), va_P D vwCl [(mo, .inr (9, [.ref na, .ref nb, .ref nc, .ref nd, .int (bI (ms)), .int (nI mk), .ref ne, .int (nI my), .int (nI mt), .int (nI mp), .ref nf, .ref ng, .ref nh, .ref ni, .ref nj, .ref nl])), (nf, .inl (ca 0, 20, .inl (zF e2))), (sa, .inl (ca 0, 442, .inl (zF sv)))] H → va_D A [(mo, .inr (9, [.ref na, .ref nb, .ref nc, .ref nd, .int (bI (ms)), .int (nI mk), .ref ne, .int (nI my), .int (nI mt), .int (nI mp), .ref nf, .ref ng, .ref nh, .ref ni, .ref nj, .ref nl])), (nf, .inl (ca 0, 20, .inl (zF e2))), (sa, .inl (ca 0, 442, .inl (zF sv)))] → va_S A s.heap H locs → ∀ ls : Array Slot, lv_has ls 6 [(2, .int (bI (m))), (0, .ref mo), (1, .ref sa)] → W pG l eV rX9_starts s mI args below meth cO H locs 0 0 Q (F0 mI 23 ls []) := by
          clear hP hD hS hl
          intro fu; induction fu with
          | zero => intro kk e2 m hW hmu; exact absurd hmu (Nat.not_lt_zero _)
          | succ n23 ih23 =>
            intro kk e2 m hW hmu23 H locs hP hD hS ls hl
            refine lv_iload_n hx hb dX9_starts_23 rfl (lv_at hl 0 rfl) ?_
            refine lv_if_eq (tgt := 112) hx hb dX9_starts_24 (by decide) (fun h24 => ?_) (fun h24 => ?_)
            · skip
              have h24 := bI_0.mp h24
              have hend := WH_end hW h24
              refine lv_iconst (v := iZ 0) hx hb dX9_starts_112 (by decide) ?_
              refine lv_istore_n (lv' := [(3, .int (iZ 0)), (2, .int (bI (m))), (0, .ref mo), (1, .ref sa)]) hx hb dX9_starts_113 rfl hl (by decide) rfl (fun ls hl => ?_)
              refine lv_iconst (v := nI (0)) hx hb dX9_starts_114 (by decide) ?_
              refine lv_istore (lv' := [(4, .int (nI 0)), (3, .int (iZ 0)), (2, .int (bI (m))), (0, .ref mo), (1, .ref sa)]) hx hb dX9_starts_115 hl (by decide) rfl (fun ls hl => ?_)
              have L117 : ∀ (fu : Nat) (j : Nat) (n : Int), (j ≤ T) → (n = spE L e2 j) → (T - j) < fu → ∀ (H : Heap) (locs : List Loc), va_P D vwCl [(mo, .inr (9, [.ref na, .ref nb, .ref nc, .ref nd, .int (bI (ms)), .int (nI mk), .ref ne, .int (nI my), .int (nI mt), .int (nI mp), .ref nf, .ref ng, .ref nh, .ref ni, .ref nj, .ref nl])), (nf, .inl (ca 0, 20, .inl (zF e2))), (sa, .inl (ca 0, 442, .inl (zF sv)))] H → va_D A [(mo, .inr (9, [.ref na, .ref nb, .ref nc, .ref nd, .int (bI (ms)), .int (nI mk), .ref ne, .int (nI my), .int (nI mt), .int (nI mp), .ref nf, .ref ng, .ref nh, .ref ni, .ref nj, .ref nl])), (nf, .inl (ca 0, 20, .inl (zF e2))), (sa, .inl (ca 0, 442, .inl (zF sv)))] → va_S A s.heap H locs → ∀ ls : Array Slot, lv_has ls 6 [(4, .int (nI j)), (3, .int (iZ n)), (0, .ref mo), (1, .ref sa)] → W pG l eV rX9_starts s mI args below meth cO H locs 0 0 Q (F0 mI 117 ls []) := by
                clear hP hD hS hl
                intro fu; induction fu with
                | zero => intro j n hj hn hmu; exact absurd hmu (Nat.not_lt_zero _)
                | succ n117 ih117 =>
                  intro j n hj hn hmu117 H locs hP hD hS ls hl
                  have hs0 := hM.1
                  refine lv_iload hx hb dX9_starts_117 (lv_at hl 0 rfl) ?_
                  refine lv_aload_n hx hb dX9_starts_119 rfl (lv_at hl 3 rfl) ?_
                  refine lv_iconst (v := nI (0)) hx hb dX9_starts_120 (by decide) ?_
                  refine xr_iald hx hb hK hP 2 0 rfl rfl (by omega) (Nat.le_of_ble_eq_true rfl) (v := iZ (sv 0)) rfl dX9_starts_121 ?_
                  refine lv_icmp_ge (tgt := 168) hx hb dX9_starts_122 (by decide) (fun h122 => ?_) (fun h122 => ?_)
                  · skip
                    have h122 := (cL (iZ_toInt (by omega) (by omega)) (nI_toInt (by omega))).mp h122
                    refine lv_iload_n hx hb dX9_starts_168 rfl (lv_at hl 1 rfl) ?_
                    rw [← hE]
                    exact xe_i (e2) hx hb hr hlocks hK hP hD hS (⟨by rw [hn, show j = T by omega, spE_cong2 hend], hend⟩) dX9_starts_169
                  · skip
                    have h122 := (not_congr (cL (iZ_toInt (by omega) (by omega)) (nI_toInt (by omega)))).mp h122
                    refine lv_aload_n hx hb dX9_starts_125 rfl (lv_at hl 2 rfl) ?_
                    refine va_get (D := D) (ci := 9) (v := .ref nf) (C := RX9) (T := TX9) (N := 16) hx hb hts inX9 hown hK hP 0 rfl rfl 10 (by decide) f25 (fun _ h9 => h9) rfl dX9_starts_126 ?_
                    refine lv_iload hx hb dX9_starts_129 (lv_at hl 0 rfl) ?_
                    refine xr_iald hx hb hK hP 1 0 rfl rfl (by omega) (Nat.le_of_ble_eq_true rfl) (v := iZ (e2 j)) rfl dX9_starts_131 ?_
                    refine lv_aload_n hx hb dX9_starts_132 rfl (lv_at hl 3 rfl) ?_
                    refine lv_iconst (v := nI (2)) hx hb dX9_starts_133 (by decide) ?_
                    refine lv_iload hx hb dX9_starts_134 (lv_at hl 0 rfl) ?_
                    refine xr_iadd hx hb dX9_starts_136 ?_
                    refine xr_iald hx hb hK hP 2 0 rfl rfl (by omega) (Nat.le_of_ble_eq_true rfl) (v := iZ (sv (2 + j))) rfl dX9_starts_137 ?_
                    refine xr_iadd_zz hx hb dX9_starts_138 ?_
                    refine lv_iload_n hx hb dX9_starts_139 rfl (lv_at hl 1 rfl) ?_
                    have hb2 := (hM.2.2.1 j (by omega)).1
                    have hb3 := hL j (by omega)
                    have hb4 := hend j (by omega)
                    have hb5 := es_le hT hG hL (show j < T by omega)
                    have hb6 := es_0 (G := G) (T := T) (L := L) j
                    have hb7 : 0 ≤ spE L e2 j := spE_0 j
                    have hb8 : spE L e2 j ≤ 4200 := by rcases spE_at (L := L) (e := e2) j with h9 | ⟨i9, h9, h8⟩; (omega); (have c1 := hend i9 (by omega); have c2 := es_le hT hG hL (show i9 < T by omega); have c3 := hL i9 (by omega); omega)
                    refine lv_icmp_le (tgt := 160) hx hb dX9_starts_140 (by decide) (fun h140 => ?_) (fun h140 => ?_)
                    · skip
                      have h140 := (cL (iZ_toInt (by omega) (by omega)) (iZ_toInt (by omega) (by omega))).mp h140
                      refine lv_iload_n hx hb dX9_starts_160 rfl (lv_at hl 1 rfl) ?_
                      refine lv_istore_n (lv' := [(3, .int (iZ n)), (4, .int (nI j)), (0, .ref mo), (1, .ref sa)]) hx hb dX9_starts_161 rfl hl (by decide) rfl (fun ls hl => ?_)
                      refine lv_iinc (v := nI (j + 1)) (lv' := [(4, .int (nI (j + 1))), (3, .int (iZ n)), (0, .ref mo), (1, .ref sa)]) hx hb dX9_starts_162 hl (k := 1) rfl (nI_add _ 1) (by decide) rfl (fun ls hl => ?_)
                      refine lv_goto (tgt := 117) hx hb dX9_starts_165 (by decide) ?_
                      exact ih117 (j + 1) n (by omega) (by rw [spE]; omega) (by omega) _ _ hP hD hS _ (lv_sub hl [0, 1, 2, 3] rfl)
                    · skip
                      have h140 := (not_congr (cL (iZ_toInt (by omega) (by omega)) (iZ_toInt (by omega) (by omega)))).mp h140
                      refine lv_aload_n hx hb dX9_starts_143 rfl (lv_at hl 2 rfl) ?_
                      refine va_get (D := D) (ci := 9) (v := .ref nf) (C := RX9) (T := TX9) (N := 16) hx hb hts inX9 hown hK hP 0 rfl rfl 10 (by decide) f25 (fun _ h9 => h9) rfl dX9_starts_144 ?_
                      refine lv_iload hx hb dX9_starts_147 (lv_at hl 0 rfl) ?_
                      refine xr_iald hx hb hK hP 1 0 rfl rfl (by omega) (Nat.le_of_ble_eq_true rfl) (v := iZ (e2 j)) rfl dX9_starts_149 ?_
                      refine lv_aload_n hx hb dX9_starts_150 rfl (lv_at hl 3 rfl) ?_
                      refine lv_iconst (v := nI (2)) hx hb dX9_starts_151 (by decide) ?_
                      refine lv_iload hx hb dX9_starts_152 (lv_at hl 0 rfl) ?_
                      refine xr_iadd hx hb dX9_starts_154 ?_
                      refine xr_iald hx hb hK hP 2 0 rfl rfl (by omega) (Nat.le_of_ble_eq_true rfl) (v := iZ (sv (2 + j))) rfl dX9_starts_155 ?_
                      refine xr_iadd_zz hx hb dX9_starts_156 ?_
                      refine lv_goto (tgt := 161) hx hb dX9_starts_157 (by decide) ?_
                      refine lv_istore_n (lv' := [(3, .int (iZ ((e2 j) + (sv (2 + j))))), (4, .int (nI j)), (0, .ref mo), (1, .ref sa)]) hx hb dX9_starts_161 rfl hl (by decide) rfl (fun ls hl => ?_)
                      refine lv_iinc (v := nI (j + 1)) (lv' := [(4, .int (nI (j + 1))), (3, .int (iZ ((e2 j) + (sv (2 + j))))), (0, .ref mo), (1, .ref sa)]) hx hb dX9_starts_162 hl (k := 1) rfl (nI_add _ 1) (by decide) rfl (fun ls hl => ?_)
                      refine lv_goto (tgt := 117) hx hb dX9_starts_165 (by decide) ?_
                      exact ih117 (j + 1) ((e2 j) + (sv (2 + j))) (by omega) (by rw [spE]; omega) (by omega) _ _ hP hD hS _ (lv_sub hl [0, 1, 2, 3] rfl)
              exact L117 _ 0 0 (by omega) rfl (Nat.lt_succ_self _) _ _ hP hD hS _ (lv_sub hl [0, 1, 3, 4] rfl)
            · skip
              have h24 := bI_n0.mp h24
              refine lv_iconst (v := nI (0)) hx hb dX9_starts_27 (by decide) ?_
              refine lv_istore_n (lv' := [(2, .int (nI 0)), (0, .ref mo), (1, .ref sa)]) hx hb dX9_starts_28 rfl hl (by decide) rfl (fun ls hl => ?_)
              refine lv_iconst (v := nI (0)) hx hb dX9_starts_29 (by decide) ?_
              refine lv_istore_n (lv' := [(3, .int (nI 0)), (2, .int (nI 0)), (0, .ref mo), (1, .ref sa)]) hx hb dX9_starts_30 rfl hl (by decide) rfl (fun ls hl => ?_)
              have L31 : ∀ (fu : Nat) (q : Nat) (e3 : Nat → Int) (m3 : Bool), (q ≤ 400) → (MVP G T L e2 (FP1 q) e3 m3) → (400 - q) < fu → ∀ (H : Heap) (locs : List Loc), va_P D vwCl [(mo, .inr (9, [.ref na, .ref nb, .ref nc, .ref nd, .int (bI (ms)), .int (nI mk), .ref ne, .int (nI my), .int (nI mt), .int (nI mp), .ref nf, .ref ng, .ref nh, .ref ni, .ref nj, .ref nl])), (nf, .inl (ca 0, 20, .inl (zF e3))), (sa, .inl (ca 0, 442, .inl (zF sv)))] H → va_D A [(mo, .inr (9, [.ref na, .ref nb, .ref nc, .ref nd, .int (bI (ms)), .int (nI mk), .ref ne, .int (nI my), .int (nI mt), .int (nI mp), .ref nf, .ref ng, .ref nh, .ref ni, .ref nj, .ref nl])), (nf, .inl (ca 0, 20, .inl (zF e3))), (sa, .inl (ca 0, 442, .inl (zF sv)))] → va_S A s.heap H locs → ∀ ls : Array Slot, lv_has ls 6 [(3, .int (nI q)), (2, .int (bI (m3))), (0, .ref mo), (1, .ref sa)] → W pG l eV rX9_starts s mI args below meth cO H locs 0 0 Q (F0 mI 31 ls []) := by
                clear hP hD hS hl
                intro fu; induction fu with
                | zero => intro q e3 m3 hq hMV hmu; exact absurd hmu (Nat.not_lt_zero _)
                | succ n31 ih31 =>
                  intro q e3 m3 hq hMV hmu31 H locs hP hD hS ls hl
                  refine lv_iload_n hx hb dX9_starts_31 rfl (lv_at hl 0 rfl) ?_
                  refine lv_sipush (v := nI (400)) hx hb dX9_starts_32 (by decide) ?_
                  refine lv_icmp_ge (tgt := 109) hx hb dX9_starts_35 (by decide) (fun h35 => ?_) (fun h35 => ?_)
                  · skip
                    have h35 := (cL (nI_toInt (by omega)) (nI_toInt (by omega))).mp h35
                    refine lv_goto (tgt := 23) hx hb dX9_starts_109 (by decide) ?_
                    exact ih23 (kk + 1) e3 m3 (by rw [h24] at hW; exact WH_s hW hMV (FP1_e hT (by omega))) (by have := hW.2.2 h24; omega) _ _ hP hD hS _ (lv_sub hl [1, 2, 3] rfl)
                  · skip
                    have h35 := (not_congr (cL (nI_toInt (by omega)) (nI_toInt (by omega)))).mp h35
                    refine lv_iload_n hx hb dX9_starts_38 rfl (lv_at hl 0 rfl) ?_
                    refine lv_bipush (v := nI (20)) hx hb dX9_starts_39 (by decide) ?_
                    refine xr_idiv hx hb (by omega) (by omega) (by omega) dX9_starts_41 ?_
                    refine lv_istore (lv' := [(4, .int (nI (q / 20))), (3, .int (nI q)), (2, .int (bI (m3))), (0, .ref mo), (1, .ref sa)]) hx hb dX9_starts_42 hl (by decide) rfl (fun ls hl => ?_)
                    refine lv_aload_n hx hb dX9_starts_44 rfl (lv_at hl 3 rfl) ?_
                    refine va_get (D := D) (ci := 9) (v := .ref nf) (C := RX9) (T := TX9) (N := 16) hx hb hts inX9 hown hK hP 0 rfl rfl 10 (by decide) f25 (fun _ h9 => h9) rfl dX9_starts_45 ?_
                    refine lv_iload hx hb dX9_starts_48 (lv_at hl 0 rfl) ?_
                    refine xr_iald hx hb hK hP 1 0 rfl rfl (by omega) (Nat.le_of_ble_eq_true rfl) (v := iZ (e3 (q / 20))) rfl dX9_starts_50 ?_
                    refine lv_aload_n hx hb dX9_starts_51 rfl (lv_at hl 4 rfl) ?_
                    refine lv_iconst (v := nI (2)) hx hb dX9_starts_52 (by decide) ?_
                    refine lv_iload hx hb dX9_starts_53 (lv_at hl 0 rfl) ?_
                    refine xr_iadd hx hb dX9_starts_55 ?_
                    refine xr_iald hx hb hK hP 2 0 rfl rfl (by omega) (Nat.le_of_ble_eq_true rfl) (v := iZ (sv (2 + (q / 20)))) rfl dX9_starts_56 ?_
                    refine xr_iadd_zz hx hb dX9_starts_57 ?_
                    refine lv_aload_n hx hb dX9_starts_58 rfl (lv_at hl 4 rfl) ?_
                    refine lv_bipush (v := nI (42)) hx hb dX9_starts_59 (by decide) ?_
                    refine lv_iload_n hx hb dX9_starts_61 rfl (lv_at hl 1 rfl) ?_
                    refine xr_iadd hx hb dX9_starts_62 ?_
                    refine xr_iald hx hb hK hP 2 0 rfl rfl (by omega) (Nat.le_of_ble_eq_true rfl) (v := iZ (sv (42 + q))) rfl dX9_starts_63 ?_
                    refine xr_iadd_zz hx hb dX9_starts_64 ?_
                    refine lv_istore (lv' := [(5, .int (iZ (((e3 (q / 20)) + (sv (2 + (q / 20)))) + (sv (42 + q))))), (4, .int (nI (q / 20))), (3, .int (nI q)), (2, .int (bI (m3))), (0, .ref mo), (1, .ref sa)]) hx hb dX9_starts_65 hl (by decide) rfl (fun ls hl => ?_)
                    refine lv_aload_n hx hb dX9_starts_67 rfl (lv_at hl 5 rfl) ?_
                    refine lv_bipush (v := nI (42)) hx hb dX9_starts_68 (by decide) ?_
                    refine lv_iload_n hx hb dX9_starts_70 rfl (lv_at hl 2 rfl) ?_
                    refine xr_iadd hx hb dX9_starts_71 ?_
                    refine xr_iald hx hb hK hP 2 0 rfl rfl (by omega) (Nat.le_of_ble_eq_true rfl) (v := iZ (sv (42 + q))) rfl dX9_starts_72 ?_
                    have hb0 := hM.2.2.2 q (by omega)
                    have hb1 := hG (q / 20) (q % 20) (by omega) (by omega)
                    refine lv_if_lt (tgt := 103) hx hb dX9_starts_73 (by decide) (fun h73 => ?_) (fun h73 => ?_)
                    · skip
                      have h73 := (cT (iZ_toInt (by omega) (by omega)) z0_toInt).mp h73
                      refine lv_iinc (v := nI (q + 1)) (lv' := [(3, .int (nI (q + 1))), (5, .int (iZ (((e3 (q / 20)) + (sv (2 + (q / 20)))) + (sv (42 + q))))), (4, .int (nI (q / 20))), (2, .int (bI (m3))), (0, .ref mo), (1, .ref sa)]) hx hb dX9_starts_103 hl (k := 2) rfl (nI_add _ 1) (by decide) rfl (fun ls hl => ?_)
                      refine lv_goto (tgt := 31) hx hb dX9_starts_106 (by decide) ?_
                      exact ih31 (q + 1) e3 m3 (by omega) (MVP_ok hT hMV FP1_s (Or.inl (by omega))) (by omega) _ _ hP hD hS _ (lv_sub hl [0, 3, 4, 5] rfl)
                    · skip
                      have h73 := (not_congr (cT (iZ_toInt (by omega) (by omega)) z0_toInt)).mp h73
                      have hed : G (q / 20) (q % 20) ≠ -1 := by omega
                      have hqT := hGo _ _ (by omega) (by omega) hed
                      have hb2 := (hM.2.2.1 _ hqT.1).1
                      have hb3 := hL _ hqT.1
                      have hb4 := hMV.1 _ hqT.1
                      have hb5 := hMV.1 _ hqT.2
                      have hb6 := es_le hT hG hL hqT.1
                      have hb7 := es_le hT hG hL hqT.2
                      refine lv_iload hx hb dX9_starts_76 (lv_at hl 0 rfl) ?_
                      refine lv_aload_n hx hb dX9_starts_78 rfl (lv_at hl 4 rfl) ?_
                      refine va_get (D := D) (ci := 9) (v := .ref nf) (C := RX9) (T := TX9) (N := 16) hx hb hts inX9 hown hK hP 0 rfl rfl 10 (by decide) f25 (fun _ h9 => h9) rfl dX9_starts_79 ?_
                      refine lv_iload_n hx hb dX9_starts_82 rfl (lv_at hl 2 rfl) ?_
                      refine lv_bipush (v := nI (20)) hx hb dX9_starts_83 (by decide) ?_
                      refine xr_irem hx hb (by omega) (by omega) (by omega) dX9_starts_85 ?_
                      refine xr_iald hx hb hK hP 1 0 rfl rfl (by omega) (Nat.le_of_ble_eq_true rfl) (v := iZ (e3 (q % 20))) rfl dX9_starts_86 ?_
                      refine lv_icmp_le (tgt := 103) hx hb dX9_starts_87 (by decide) (fun h87 => ?_) (fun h87 => ?_)
                      · skip
                        have h87 := (cL (iZ_toInt (by omega) (by omega)) (iZ_toInt (by omega) (by omega))).mp h87
                        refine lv_iinc (v := nI (q + 1)) (lv' := [(3, .int (nI (q + 1))), (5, .int (iZ (((e3 (q / 20)) + (sv (2 + (q / 20)))) + (sv (42 + q))))), (4, .int (nI (q / 20))), (2, .int (bI (m3))), (0, .ref mo), (1, .ref sa)]) hx hb dX9_starts_103 hl (k := 2) rfl (nI_add _ 1) (by decide) rfl (fun ls hl => ?_)
                        refine lv_goto (tgt := 31) hx hb dX9_starts_106 (by decide) ?_
                        exact ih31 (q + 1) e3 m3 (by omega) (MVP_ok hT hMV FP1_s (Or.inr (by omega))) (by omega) _ _ hP hD hS _ (lv_sub hl [0, 3, 4, 5] rfl)
                      · skip
                        have h87 := (not_congr (cL (iZ_toInt (by omega) (by omega)) (iZ_toInt (by omega) (by omega)))).mp h87
                        refine lv_aload_n hx hb dX9_starts_90 rfl (lv_at hl 4 rfl) ?_
                        refine va_get (D := D) (ci := 9) (v := .ref nf) (C := RX9) (T := TX9) (N := 16) hx hb hts inX9 hown hK hP 0 rfl rfl 10 (by decide) f25 (fun _ h9 => h9) rfl dX9_starts_91 ?_
                        refine lv_iload_n hx hb dX9_starts_94 rfl (lv_at hl 2 rfl) ?_
                        refine lv_bipush (v := nI (20)) hx hb dX9_starts_95 (by decide) ?_
                        refine xr_irem hx hb (by omega) (by omega) (by omega) dX9_starts_97 ?_
                        refine lv_iload hx hb dX9_starts_98 (lv_at hl 0 rfl) ?_
                        refine xr_iast hx hb hK hP hD hS 1 0 rfl rfl (by omega) (Nat.le_of_ble_eq_true rfl) (zF (upZ e3 (q % 20) (((e3 (q / 20)) + (sv (2 + (q / 20)))) + (sv (42 + q))))) (fun _ _ => zF_up _ _ _ _) dX9_starts_100 (fun H locs hP hD hS => ?_)
                        have hP : va_P D vwCl [(mo, .inr (9, [.ref na, .ref nb, .ref nc, .ref nd, .int (bI (ms)), .int (nI mk), .ref ne, .int (nI my), .int (nI mt), .int (nI mp), .ref nf, .ref ng, .ref nh, .ref ni, .ref nj, .ref nl])), (nf, .inl (ca 0, 20, .inl (zF (upZ e3 (q % 20) (((e3 (q / 20)) + (sv (2 + (q / 20)))) + (sv (42 + q))))))), (sa, .inl (ca 0, 442, .inl (zF sv)))] H := hP
                        have hD : va_D A [(mo, .inr (9, [.ref na, .ref nb, .ref nc, .ref nd, .int (bI (ms)), .int (nI mk), .ref ne, .int (nI my), .int (nI mt), .int (nI mp), .ref nf, .ref ng, .ref nh, .ref ni, .ref nj, .ref nl])), (nf, .inl (ca 0, 20, .inl (zF (upZ e3 (q % 20) (((e3 (q / 20)) + (sv (2 + (q / 20)))) + (sv (42 + q))))))), (sa, .inl (ca 0, 442, .inl (zF sv)))] := hD
                        refine lv_iconst (v := nI (1)) hx hb dX9_starts_101 (by decide) ?_
                        refine lv_istore_n (lv' := [(2, .int (nI 1)), (5, .int (iZ (((e3 (q / 20)) + (sv (2 + (q / 20)))) + (sv (42 + q))))), (4, .int (nI (q / 20))), (3, .int (nI q)), (0, .ref mo), (1, .ref sa)]) hx hb dX9_starts_102 rfl hl (by decide) rfl (fun ls hl => ?_)
                        refine lv_iinc (v := nI (q + 1)) (lv' := [(3, .int (nI (q + 1))), (2, .int (nI 1)), (5, .int (iZ (((e3 (q / 20)) + (sv (2 + (q / 20)))) + (sv (42 + q))))), (4, .int (nI (q / 20))), (0, .ref mo), (1, .ref sa)]) hx hb dX9_starts_103 hl (k := 3) rfl (nI_add _ 1) (by decide) rfl (fun ls hl => ?_)
                        refine lv_goto (tgt := 31) hx hb dX9_starts_106 (by decide) ?_
                        exact ih31 (q + 1) (upZ e3 (q % 20) (((e3 (q / 20)) + (sv (2 + (q / 20)))) + (sv (42 + q)))) true (by omega) (MVP_up hT hac hMV hqT.1 hqT.2 hed FP1_s (by omega) (by omega)) (by omega) _ _ hP hD hS _ (lv_sub hl [0, 1, 4, 5] rfl)
              exact L31 _ 0 e2 false (by omega) (MVP_0 (WH_S0 hW) FP1_0) (Nat.lt_succ_self _) _ _ hP hD hS _ (lv_sub hl [0, 1, 2, 3] rfl)
        exact L23 _ 0 (fun _ => 0) true WH_0 (Nat.lt_succ_self _) _ _ hP hD hS _ (lv_sub hl [0, 1, 2] rfl)
      · skip
        have h5 := (not_congr (cL (nI_toInt (by omega)) (nI_toInt (by omega)))).mp h5
        refine lv_aload_n hx hb dX9_starts_8 rfl (lv_at hl 1 rfl) ?_
        refine va_get (D := D) (ci := 9) (v := .ref nf) (C := RX9) (T := TX9) (N := 16) hx hb hts inX9 hown hK hP 0 rfl rfl 10 (by decide) f25 (fun _ h9 => h9) rfl dX9_starts_9 ?_
        refine lv_iload_n hx hb dX9_starts_12 rfl (lv_at hl 0 rfl) ?_
        refine lv_iconst (v := nI (0)) hx hb dX9_starts_13 (by decide) ?_
        refine xr_iast hx hb hK hP hD hS 1 0 rfl rfl (by omega) (Nat.le_of_ble_eq_true rfl) (zF (upZ e2 k ((0 : Nat) : Int))) (fun _ _ => zF_upn _ _ _ _) dX9_starts_14 (fun H locs hP hD hS => ?_)
        have hP : va_P D vwCl [(mo, .inr (9, [.ref na, .ref nb, .ref nc, .ref nd, .int (bI (ms)), .int (nI mk), .ref ne, .int (nI my), .int (nI mt), .int (nI mp), .ref nf, .ref ng, .ref nh, .ref ni, .ref nj, .ref nl])), (nf, .inl (ca 0, 20, .inl (zF (upZ e2 k ((0 : Nat) : Int))))), (sa, .inl (ca 0, 442, .inl (zF sv)))] H := hP
        have hD : va_D A [(mo, .inr (9, [.ref na, .ref nb, .ref nc, .ref nd, .int (bI (ms)), .int (nI mk), .ref ne, .int (nI my), .int (nI mt), .int (nI mp), .ref nf, .ref ng, .ref nh, .ref ni, .ref nj, .ref nl])), (nf, .inl (ca 0, 20, .inl (zF (upZ e2 k ((0 : Nat) : Int))))), (sa, .inl (ca 0, 442, .inl (zF sv)))] := hD
        refine lv_iinc (v := nI (k + 1)) (lv' := [(2, .int (nI (k + 1))), (0, .ref mo), (1, .ref sa)]) hx hb dX9_starts_15 hl (k := 0) rfl (nI_add _ 1) (by decide) rfl (fun ls hl => ?_)
        refine lv_goto (tgt := 2) hx hb dX9_starts_18 (by decide) ?_
        exact ih2 (k + 1) (upZ e2 k ((0 : Nat) : Int)) (by omega) (by rw [he]; exact rwF_s) (by omega) _ _ hP hD hS _ (lv_sub hl [0, 1, 2] rfl)
  exact L2 _ 0 e (by omega) rwF_0 (Nat.lt_succ_self _) _ _ hP hD hS _ (lv_sub hl [0, 1, 2] rfl)
def rX9_days : Room := { frames := 1, cells := 0, slots := 0, locals := 25 }
set_option maxHeartbeats 4000000 in
set_option maxRecDepth 100000 in
theorem mX9_days (l : Launch) (D : va_G) (ca : Nat → ClassId) (sz : Nat) (mo : Nat) (na : Nat) (nb : Nat) (nc : Nat) (nd : Nat) (ne : Nat) (nf : Nat) (ng : Nat) (nh : Nat) (ni : Nat) (nj : Nat) (nl : Nat) (ms : Bool) (mk : Nat) (my : Nat) (mt : Nat) (mp : Nat) (sa : Nat) (sv : Nat → Int) (e : Nat → Int) (f : Nat → Int) (T : Nat) (C : Int) (L : Nat → Int) (N : Nat → Int) (G : Nat → Nat → Int) (hT : T ≤ 20) (hG : GOK G) (hac : ACY G T) (hGo : ∀ i j, i < 20 → j < 20 → G i j ≠ -1 → i < T ∧ j < T) (hM : MS sv T C L N G) (hL : LOK T L) : MM l yX9_days wsX9_days rX9_days D ca [.ref mo, .ref sa] sz [(mo, .inr (9, [.ref na, .ref nb, .ref nc, .ref nd, .int (bI (ms)), .int (nI mk), .ref ne, .int (nI my), .int (nI mt), .int (nI mp), .ref nf, .ref ng, .ref nh, .ref ni, .ref nj, .ref nl])), (nf, .inl (ca 0, 20, .inl (zF e))), (ng, .inl (ca 0, 20, .inl (zF f))), (sa, .inl (ca 0, 442, .inl (zF sv)))] (QI D ca (fun (r : Int32) (u : (Nat → Int) × (Nat → Int)) => r = iZ (span G T L) ∧ (∀ j, j < T → u.1 j = es G T L j) ∧ ∀ j, j < T → u.2 j = lst G T L j) (fun u => [(mo, .inr (9, [.ref na, .ref nb, .ref nc, .ref nd, .int (bI (ms)), .int (nI mk), .ref ne, .int (nI my), .int (nI mt), .int (nI mp), .ref nf, .ref ng, .ref nh, .ref ni, .ref nj, .ref nl])), (nf, .inl (ca 0, 20, .inl (zF u.1))), (ng, .inl (ca 0, 20, .inl (zF u.2))), (sa, .inl (ca 0, 442, .inl (zF sv)))])) := by
  refine MM_of (cc := cX9_days) (maxL := 7) (ret := (some .int)) (lv0 := [(0, .ref mo), (1, .ref sa)]) RX9 (by decide) rfl rfl (Nat.le_of_ble_eq_true rfl) rfl ?_
  intro pG eV s mI args below meth cO hx hb hr hml hts hown hlocks hnm A hA H locs hsz hP hK hD hS Q hE ls hl
  have f28 := hts (.fieldLink RX9 28 "SlackPlanModel" "late" "[I") (List.mem_of_getElem? (i := 1) rfl)
  have inX9 : ∀ w ∈ u_ws RX9 TX9 16, w ∈ wsX9_days := in_r _ [8, 9, 10, 11, 12, 13, 14, 15, 16, 17, 18, 19, 20, 21, 22, 23] rfl
  refine lv_aload_n hx hb dX9_days_0 rfl (lv_at hl 0 rfl) ?_
  refine lv_aload_n hx hb dX9_days_1 rfl (lv_at hl 1 rfl) ?_
  refine xk_i [(ng, .inl (ca 0, 20, .inl (zF f)))] (fun u => [(mo, .inr (9, [.ref na, .ref nb, .ref nc, .ref nd, .int (bI (ms)), .int (nI mk), .ref ne, .int (nI my), .int (nI mt), .int (nI mp), .ref nf, .ref ng, .ref nh, .ref ni, .ref nj, .ref nl])), (nf, .inl (ca 0, 20, .inl (zF u))), (ng, .inl (ca 0, 20, .inl (zF f))), (sa, .inl (ca 0, 442, .inl (zF sv)))]) (xk_V (As := [.ref sa]) (rest := []) ⟨hx, hb, hml, hown, hts⟩ (mX9_starts l D ca H.size mo na nb nc nd ne nf ng nh ni nj nl ms mk my mt mp sa sv e T C L N G (by omega) hG hac hGo hM hL) (cwV 1 hts gX9_days_X9_starts rfl rfl rfl (by decide +kernel) ⟨Nat.le_of_ble_eq_true rfl, Nat.le_of_ble_eq_true rfl⟩) hK hP hD (va_recv (q := (RX9, TX9, 16)) hK hP (ci := 9) (q0 := 0) rfl rfl) [0, 1, 3] rfl rfl rfl hl.1 rfl (Nat.le_of_ble_eq_true rfl) dX9_days_2 ⟨Nat.le_of_ble_eq_true rfl, Nat.le_of_ble_eq_true rfl⟩) hP hD hS hA [0, 1, 3] [2] [1, 2, 0, 3] rfl rfl rfl rfl (fun _ => rfl) rfl (fun r2 u2 H locs hw2 hP hD hS => ?_)
  obtain ⟨e12, hu2⟩ : ∃ z, z = u2 := ⟨_, rfl⟩
  subst hu2
  have hw2 : r2 = iZ (span G T L) ∧ ∀ j, j < T → e12 j = es G T L j := hw2
  have hP : va_P D vwCl [(mo, .inr (9, [.ref na, .ref nb, .ref nc, .ref nd, .int (bI (ms)), .int (nI mk), .ref ne, .int (nI my), .int (nI mt), .int (nI mp), .ref nf, .ref ng, .ref nh, .ref ni, .ref nj, .ref nl])), (nf, .inl (ca 0, 20, .inl (zF e12))), (ng, .inl (ca 0, 20, .inl (zF f))), (sa, .inl (ca 0, 442, .inl (zF sv)))] H := hP
  have hD : va_D A [(mo, .inr (9, [.ref na, .ref nb, .ref nc, .ref nd, .int (bI (ms)), .int (nI mk), .ref ne, .int (nI my), .int (nI mt), .int (nI mp), .ref nf, .ref ng, .ref nh, .ref ni, .ref nj, .ref nl])), (nf, .inl (ca 0, 20, .inl (zF e12))), (ng, .inl (ca 0, 20, .inl (zF f))), (sa, .inl (ca 0, 442, .inl (zF sv)))] := hD
  obtain ⟨hwr2, hv2⟩ := hw2
  subst hwr2
  refine lv_istore_n (lv' := [(2, .int (iZ (span G T L))), (0, .ref mo), (1, .ref sa)]) hx hb dX9_days_5 rfl hl (by decide) rfl (fun ls hl => ?_)
  refine lv_iconst (v := nI (0)) hx hb dX9_days_6 (by decide) ?_
  refine lv_istore_n (lv' := [(3, .int (nI 0)), (2, .int (iZ (span G T L))), (0, .ref mo), (1, .ref sa)]) hx hb dX9_days_7 rfl hl (by decide) rfl (fun ls hl => ?_)
  have L8 : ∀ (fu : Nat) (k : Nat) (f2 : Nat → Int), (k ≤ 20) → (f2 = rwF f (fun j => span G T L - sv (2 + j)) k) → (20 - k) < fu → ∀ (H : Heap) (locs : List Loc), va_P D vwCl [(mo, .inr (9, [.ref na, .ref nb, .ref nc, .ref nd, .int (bI (ms)), .int (nI mk), .ref ne, .int (nI my), .int (nI mt), .int (nI mp), .ref nf, .ref ng, .ref nh, .ref ni, .ref nj, .ref nl])), (nf, .inl (ca 0, 20, .inl (zF e12))), (ng, .inl (ca 0, 20, .inl (zF f2))), (sa, .inl (ca 0, 442, .inl (zF sv)))] H → va_D A [(mo, .inr (9, [.ref na, .ref nb, .ref nc, .ref nd, .int (bI (ms)), .int (nI mk), .ref ne, .int (nI my), .int (nI mt), .int (nI mp), .ref nf, .ref ng, .ref nh, .ref ni, .ref nj, .ref nl])), (nf, .inl (ca 0, 20, .inl (zF e12))), (ng, .inl (ca 0, 20, .inl (zF f2))), (sa, .inl (ca 0, 442, .inl (zF sv)))] → va_S A s.heap H locs → ∀ ls : Array Slot, lv_has ls 7 [(3, .int (nI k)), (2, .int (iZ (span G T L))), (0, .ref mo), (1, .ref sa)] → W pG l eV rX9_days s mI args below meth cO H locs 0 0 Q (F0 mI 8 ls []) := by
    clear hP hD hS hl
    intro fu; induction fu with
    | zero => intro k f2 hk hf hmu; exact absurd hmu (Nat.not_lt_zero _)
    | succ n8 ih8 =>
      intro k f2 hk hf hmu8 H locs hP hD hS ls hl
      refine lv_iload_n hx hb dX9_days_8 rfl (lv_at hl 0 rfl) ?_
      refine lv_bipush (v := nI (20)) hx hb dX9_days_9 (by decide) ?_
      refine lv_icmp_ge (tgt := 33) hx hb dX9_days_11 (by decide) (fun h11 => ?_) (fun h11 => ?_)
      · skip
        have h11 := (cL (nI_toInt (by omega)) (nI_toInt (by omega))).mp h11
        refine lv_iconst (v := nI (1)) hx hb dX9_days_33 (by decide) ?_
        refine lv_istore_n (lv' := [(3, .int (nI 1)), (2, .int (iZ (span G T L))), (0, .ref mo), (1, .ref sa)]) hx hb dX9_days_34 rfl hl (by decide) rfl (fun ls hl => ?_)
        have L35 : ∀ (fu : Nat) (kk : Nat) (f2 : Nat → Int) (u : Nat → Int) (m : Bool), (WH (trG G) T L kk u m) → (∀ j, j < T → f2 j = span G T L - L j - u j) → (T + 3 - kk) < fu → ∀ (H : Heap) (locs : List Loc), va_P D vwCl [(mo, .inr (9, [.ref na, .ref nb, .ref nc, .ref nd, .int (bI (ms)), .int (nI mk), .ref ne, .int (nI my), .int (nI mt), .int (nI mp), .ref nf, .ref ng, .ref nh, .ref ni, .ref nj, .ref nl])), (nf, .inl (ca 0, 20, .inl (zF e12))), (ng, .inl (ca 0, 20, .inl (zF f2))), (sa, .inl (ca 0, 442, .inl (zF sv)))] H → va_D A [(mo, .inr (9, [.ref na, .ref nb, .ref nc, .ref nd, .int (bI (ms)), .int (nI mk), .ref ne, .int (nI my), .int (nI mt), .int (nI mp), .ref nf, .ref ng, .ref nh, .ref ni, .ref nj, .ref nl])), (nf, .inl (ca 0, 20, .inl (zF e12))), (ng, .inl (ca 0, 20, .inl (zF f2))), (sa, .inl (ca 0, 442, .inl (zF sv)))] → va_S A s.heap H locs → ∀ ls : Array Slot, lv_has ls 7 [(3, .int (bI (m))), (2, .int (iZ (span G T L))), (0, .ref mo), (1, .ref sa)] → W pG l eV rX9_days s mI args below meth cO H locs 0 0 Q (F0 mI 35 ls []) := by
          clear hP hD hS hl
          intro fu; induction fu with
          | zero => intro kk f2 u m hW hf2 hmu; exact absurd hmu (Nat.not_lt_zero _)
          | succ n35 ih35 =>
            intro kk f2 u m hW hf2 hmu35 H locs hP hD hS ls hl
            refine lv_iload_n hx hb dX9_days_35 rfl (lv_at hl 0 rfl) ?_
            refine lv_if_eq (tgt := 128) hx hb dX9_days_36 (by decide) (fun h36 => ?_) (fun h36 => ?_)
            · skip
              have h36 := bI_0.mp h36
              have hend := WH_end hW h36
              refine lv_iload_n hx hb dX9_days_128 rfl (lv_at hl 1 rfl) ?_
              rw [← hE]
              exact xe_i (e12, f2) hx hb hr hlocks hK hP hD hS (⟨rfl, hv2, fun j hj => by show f2 j = lst G T L j; rw [hf2 j hj, hend j hj]; rfl⟩) dX9_days_129
            · skip
              have h36 := bI_n0.mp h36
              refine lv_iconst (v := nI (0)) hx hb dX9_days_39 (by decide) ?_
              refine lv_istore_n (lv' := [(3, .int (nI 0)), (2, .int (iZ (span G T L))), (0, .ref mo), (1, .ref sa)]) hx hb dX9_days_40 rfl hl (by decide) rfl (fun ls hl => ?_)
              refine lv_iconst (v := nI (0)) hx hb dX9_days_41 (by decide) ?_
              refine lv_istore (lv' := [(4, .int (nI 0)), (3, .int (nI 0)), (2, .int (iZ (span G T L))), (0, .ref mo), (1, .ref sa)]) hx hb dX9_days_42 hl (by decide) rfl (fun ls hl => ?_)
              have L44 : ∀ (fu : Nat) (q : Nat) (f3 : Nat → Int) (u3 : Nat → Int) (m3 : Bool), (q ≤ 400) → (MVP (trG G) T L u (FP2 q) u3 m3) → (∀ j, j < T → f3 j = span G T L - L j - u3 j) → (400 - q) < fu → ∀ (H : Heap) (locs : List Loc), va_P D vwCl [(mo, .inr (9, [.ref na, .ref nb, .ref nc, .ref nd, .int (bI (ms)), .int (nI mk), .ref ne, .int (nI my), .int (nI mt), .int (nI mp), .ref nf, .ref ng, .ref nh, .ref ni, .ref nj, .ref nl])), (nf, .inl (ca 0, 20, .inl (zF e12))), (ng, .inl (ca 0, 20, .inl (zF f3))), (sa, .inl (ca 0, 442, .inl (zF sv)))] H → va_D A [(mo, .inr (9, [.ref na, .ref nb, .ref nc, .ref nd, .int (bI (ms)), .int (nI mk), .ref ne, .int (nI my), .int (nI mt), .int (nI mp), .ref nf, .ref ng, .ref nh, .ref ni, .ref nj, .ref nl])), (nf, .inl (ca 0, 20, .inl (zF e12))), (ng, .inl (ca 0, 20, .inl (zF f3))), (sa, .inl (ca 0, 442, .inl (zF sv)))] → va_S A s.heap H locs → ∀ ls : Array Slot, lv_has ls 7 [(4, .int (nI q)), (3, .int (bI (m3))), (2, .int (iZ (span G T L))), (0, .ref mo), (1, .ref sa)] → W pG l eV rX9_days s mI args below meth cO H locs 0 0 Q (F0 mI 44 ls []) := by
                clear hP hD hS hl
                intro fu; induction fu with
                | zero => intro q f3 u3 m3 hq hMV hf3 hmu; exact absurd hmu (Nat.not_lt_zero _)
                | succ n44 ih44 =>
                  intro q f3 u3 m3 hq hMV hf3 hmu44 H locs hP hD hS ls hl
                  refine lv_iload hx hb dX9_days_44 (lv_at hl 0 rfl) ?_
                  refine lv_sipush (v := nI (400)) hx hb dX9_days_46 (by decide) ?_
                  refine lv_icmp_ge (tgt := 125) hx hb dX9_days_49 (by decide) (fun h49 => ?_) (fun h49 => ?_)
                  · skip
                    have h49 := (cL (nI_toInt (by omega)) (nI_toInt (by omega))).mp h49
                    refine lv_goto (tgt := 35) hx hb dX9_days_125 (by decide) ?_
                    exact ih35 (kk + 1) f3 u3 m3 (by rw [h36] at hW; exact WH_s hW hMV (FP2_e hT (by omega))) hf3 (by have := hW.2.2 h36; omega) _ _ hP hD hS _ (lv_sub hl [1, 2, 3, 4] rfl)
                  · skip
                    have h49 := (not_congr (cL (nI_toInt (by omega)) (nI_toInt (by omega)))).mp h49
                    refine lv_iload hx hb dX9_days_52 (lv_at hl 0 rfl) ?_
                    refine lv_bipush (v := nI (20)) hx hb dX9_days_54 (by decide) ?_
                    refine xr_idiv hx hb (by omega) (by omega) (by omega) dX9_days_56 ?_
                    refine lv_istore (lv' := [(5, .int (nI (q / 20))), (4, .int (nI q)), (3, .int (bI (m3))), (2, .int (iZ (span G T L))), (0, .ref mo), (1, .ref sa)]) hx hb dX9_days_57 hl (by decide) rfl (fun ls hl => ?_)
                    refine lv_aload_n hx hb dX9_days_59 rfl (lv_at hl 4 rfl) ?_
                    refine va_get (D := D) (ci := 9) (v := .ref ng) (C := RX9) (T := TX9) (N := 16) hx hb hts inX9 hown hK hP 0 rfl rfl 11 (by decide) f28 (fun _ h9 => h9) rfl dX9_days_60 ?_
                    refine lv_iload hx hb dX9_days_63 (lv_at hl 1 rfl) ?_
                    refine lv_bipush (v := nI (20)) hx hb dX9_days_65 (by decide) ?_
                    refine xr_irem hx hb (by omega) (by omega) (by omega) dX9_days_67 ?_
                    refine xr_iald hx hb hK hP 2 0 rfl rfl (by omega) (Nat.le_of_ble_eq_true rfl) (v := iZ (f3 (q % 20))) rfl dX9_days_68 ?_
                    refine lv_aload_n hx hb dX9_days_69 rfl (lv_at hl 5 rfl) ?_
                    refine lv_bipush (v := nI (42)) hx hb dX9_days_70 (by decide) ?_
                    refine lv_iload hx hb dX9_days_72 (lv_at hl 1 rfl) ?_
                    refine xr_iadd hx hb dX9_days_74 ?_
                    refine xr_iald hx hb hK hP 3 0 rfl rfl (by omega) (Nat.le_of_ble_eq_true rfl) (v := iZ (sv (42 + q))) rfl dX9_days_75 ?_
                    refine xr_isub_zz hx hb dX9_days_76 ?_
                    refine lv_aload_n hx hb dX9_days_77 rfl (lv_at hl 5 rfl) ?_
                    refine lv_iconst (v := nI (2)) hx hb dX9_days_78 (by decide) ?_
                    refine lv_iload hx hb dX9_days_79 (lv_at hl 0 rfl) ?_
                    refine xr_iadd hx hb dX9_days_81 ?_
                    refine xr_iald hx hb hK hP 3 0 rfl rfl (by omega) (Nat.le_of_ble_eq_true rfl) (v := iZ (sv (2 + (q / 20)))) rfl dX9_days_82 ?_
                    refine xr_isub_zz hx hb dX9_days_83 ?_
                    refine lv_istore (lv' := [(6, .int (iZ (((f3 (q % 20)) - (sv (42 + q))) - (sv (2 + (q / 20)))))), (5, .int (nI (q / 20))), (4, .int (nI q)), (3, .int (bI (m3))), (2, .int (iZ (span G T L))), (0, .ref mo), (1, .ref sa)]) hx hb dX9_days_84 hl (by decide) rfl (fun ls hl => ?_)
                    refine lv_aload_n hx hb dX9_days_86 rfl (lv_at hl 6 rfl) ?_
                    refine lv_bipush (v := nI (42)) hx hb dX9_days_87 (by decide) ?_
                    refine lv_iload hx hb dX9_days_89 (lv_at hl 2 rfl) ?_
                    refine xr_iadd hx hb dX9_days_91 ?_
                    refine xr_iald hx hb hK hP 3 0 rfl rfl (by omega) (Nat.le_of_ble_eq_true rfl) (v := iZ (sv (42 + q))) rfl dX9_days_92 ?_
                    have hb0 := hM.2.2.2 q (by omega)
                    have hb1 := hG (q / 20) (q % 20) (by omega) (by omega)
                    refine lv_if_lt (tgt := 119) hx hb dX9_days_93 (by decide) (fun h93 => ?_) (fun h93 => ?_)
                    · skip
                      have h93 := (cT (iZ_toInt (by omega) (by omega)) z0_toInt).mp h93
                      refine lv_iinc (v := nI (q + 1)) (lv' := [(4, .int (nI (q + 1))), (6, .int (iZ (((f3 (q % 20)) - (sv (42 + q))) - (sv (2 + (q / 20)))))), (5, .int (nI (q / 20))), (3, .int (bI (m3))), (2, .int (iZ (span G T L))), (0, .ref mo), (1, .ref sa)]) hx hb dX9_days_119 hl (k := 2) rfl (nI_add _ 1) (by decide) rfl (fun ls hl => ?_)
                      refine lv_goto (tgt := 44) hx hb dX9_days_122 (by decide) ?_
                      exact ih44 (q + 1) f3 u3 m3 (by omega) (MVP_ok hT hMV FP2_s (Or.inl (show G (q / 20) (q % 20) = -1 by omega))) hf3 (by omega) _ _ hP hD hS _ (lv_sub hl [0, 3, 4, 5, 6] rfl)
                    · skip
                      have h93 := (not_congr (cT (iZ_toInt (by omega) (by omega)) z0_toInt)).mp h93
                      have hed : G (q / 20) (q % 20) ≠ -1 := by omega
                      have hqT := hGo _ _ (by omega) (by omega) hed
                      have hb2 := (hM.2.2.1 _ hqT.1).1
                      have hb3 := hL _ hqT.1
                      have hb8 := hL _ hqT.2
                      have hb4 := hMV.1 _ hqT.1
                      have hb5 := hMV.1 _ hqT.2
                      have hb6 := es_le hT (trG_ok hG) hL hqT.1
                      have hb7 := es_le hT (trG_ok hG) hL hqT.2
                      have hb9 := hf3 _ hqT.1
                      have hb10 := hf3 _ hqT.2
                      have hb11 := span_le hT hG hL
                      have hb12 := span_0 (G := G) (T := T) (L := L)
                      refine lv_iload hx hb dX9_days_96 (lv_at hl 0 rfl) ?_
                      refine lv_aload_n hx hb dX9_days_98 rfl (lv_at hl 5 rfl) ?_
                      refine va_get (D := D) (ci := 9) (v := .ref ng) (C := RX9) (T := TX9) (N := 16) hx hb hts inX9 hown hK hP 0 rfl rfl 11 (by decide) f28 (fun _ h9 => h9) rfl dX9_days_99 ?_
                      refine lv_iload hx hb dX9_days_102 (lv_at hl 1 rfl) ?_
                      refine xr_iald hx hb hK hP 2 0 rfl rfl (by omega) (Nat.le_of_ble_eq_true rfl) (v := iZ (f3 (q / 20))) rfl dX9_days_104 ?_
                      refine lv_icmp_ge (tgt := 119) hx hb dX9_days_105 (by decide) (fun h105 => ?_) (fun h105 => ?_)
                      · skip
                        have h105 := (cL (iZ_toInt (by omega) (by omega)) (iZ_toInt (by omega) (by omega))).mp h105
                        refine lv_iinc (v := nI (q + 1)) (lv' := [(4, .int (nI (q + 1))), (6, .int (iZ (((f3 (q % 20)) - (sv (42 + q))) - (sv (2 + (q / 20)))))), (5, .int (nI (q / 20))), (3, .int (bI (m3))), (2, .int (iZ (span G T L))), (0, .ref mo), (1, .ref sa)]) hx hb dX9_days_119 hl (k := 2) rfl (nI_add _ 1) (by decide) rfl (fun ls hl => ?_)
                        refine lv_goto (tgt := 44) hx hb dX9_days_122 (by decide) ?_
                        exact ih44 (q + 1) f3 u3 m3 (by omega) (MVP_ok hT hMV FP2_s (Or.inr (show u3 (q % 20) + L (q % 20) + G (q / 20) (q % 20) ≤ u3 (q / 20) by omega))) hf3 (by omega) _ _ hP hD hS _ (lv_sub hl [0, 3, 4, 5, 6] rfl)
                      · skip
                        have h105 := (not_congr (cL (iZ_toInt (by omega) (by omega)) (iZ_toInt (by omega) (by omega)))).mp h105
                        refine lv_aload_n hx hb dX9_days_108 rfl (lv_at hl 5 rfl) ?_
                        refine va_get (D := D) (ci := 9) (v := .ref ng) (C := RX9) (T := TX9) (N := 16) hx hb hts inX9 hown hK hP 0 rfl rfl 11 (by decide) f28 (fun _ h9 => h9) rfl dX9_days_109 ?_
                        refine lv_iload hx hb dX9_days_112 (lv_at hl 1 rfl) ?_
                        refine lv_iload hx hb dX9_days_114 (lv_at hl 0 rfl) ?_
                        refine xr_iast hx hb hK hP hD hS 2 0 rfl rfl (by omega) (Nat.le_of_ble_eq_true rfl) (zF (upZ f3 (q / 20) (((f3 (q % 20)) - (sv (42 + q))) - (sv (2 + (q / 20)))))) (fun _ _ => zF_up _ _ _ _) dX9_days_116 (fun H locs hP hD hS => ?_)
                        have hP : va_P D vwCl [(mo, .inr (9, [.ref na, .ref nb, .ref nc, .ref nd, .int (bI (ms)), .int (nI mk), .ref ne, .int (nI my), .int (nI mt), .int (nI mp), .ref nf, .ref ng, .ref nh, .ref ni, .ref nj, .ref nl])), (nf, .inl (ca 0, 20, .inl (zF e12))), (ng, .inl (ca 0, 20, .inl (zF (upZ f3 (q / 20) (((f3 (q % 20)) - (sv (42 + q))) - (sv (2 + (q / 20)))))))), (sa, .inl (ca 0, 442, .inl (zF sv)))] H := hP
                        have hD : va_D A [(mo, .inr (9, [.ref na, .ref nb, .ref nc, .ref nd, .int (bI (ms)), .int (nI mk), .ref ne, .int (nI my), .int (nI mt), .int (nI mp), .ref nf, .ref ng, .ref nh, .ref ni, .ref nj, .ref nl])), (nf, .inl (ca 0, 20, .inl (zF e12))), (ng, .inl (ca 0, 20, .inl (zF (upZ f3 (q / 20) (((f3 (q % 20)) - (sv (42 + q))) - (sv (2 + (q / 20)))))))), (sa, .inl (ca 0, 442, .inl (zF sv)))] := hD
                        refine lv_iconst (v := nI (1)) hx hb dX9_days_117 (by decide) ?_
                        refine lv_istore_n (lv' := [(3, .int (nI 1)), (6, .int (iZ (((f3 (q % 20)) - (sv (42 + q))) - (sv (2 + (q / 20)))))), (5, .int (nI (q / 20))), (4, .int (nI q)), (2, .int (iZ (span G T L))), (0, .ref mo), (1, .ref sa)]) hx hb dX9_days_118 rfl hl (by decide) rfl (fun ls hl => ?_)
                        refine lv_iinc (v := nI (q + 1)) (lv' := [(4, .int (nI (q + 1))), (3, .int (nI 1)), (6, .int (iZ (((f3 (q % 20)) - (sv (42 + q))) - (sv (2 + (q / 20)))))), (5, .int (nI (q / 20))), (2, .int (iZ (span G T L))), (0, .ref mo), (1, .ref sa)]) hx hb dX9_days_119 hl (k := 3) rfl (nI_add _ 1) (by decide) rfl (fun ls hl => ?_)
                        refine lv_goto (tgt := 44) hx hb dX9_days_122 (by decide) ?_
                        exact ih44 (q + 1) (upZ f3 (q / 20) (((f3 (q % 20)) - (sv (42 + q))) - (sv (2 + (q / 20))))) (upZ u3 (q / 20) (u3 (q % 20) + L (q % 20) + G (q / 20) (q % 20))) true (by omega) (MVP_up hT (ACY_tr hac) hMV hqT.2 hqT.1 (show G (q / 20) (q % 20) ≠ -1 from hed) FP2_s (show _ = u3 (q % 20) + L (q % 20) + G (q / 20) (q % 20) from rfl) (show _ < _ by omega)) (fun j hj => if c9 : j = q / 20 then (by rw [c9, upZ_s, upZ_s]; omega) else (by rw [upZ_n c9, upZ_n c9]; exact hf3 j hj)) (by omega) _ _ hP hD hS _ (lv_sub hl [0, 1, 4, 5, 6] rfl)
              exact L44 _ 0 f2 u false (by omega) (MVP_0 (WH_S0 hW) FP2_0) hf2 (Nat.lt_succ_self _) _ _ hP hD hS _ (lv_sub hl [0, 1, 2, 3, 4] rfl)
        exact L35 _ 0 f2 (fun _ => 0) true WH_0 (fun j hj => by rw [hf, show k = 20 by omega, (hM.2.2.1 j hj).1.symm]; unfold rwF; rw [if_pos (by omega)]; show span G T L - sv (2 + j) = span G T L - sv (2 + j) - 0; omega) (Nat.lt_succ_self _) _ _ hP hD hS _ (lv_sub hl [0, 1, 2, 3] rfl)
      · skip
        have h11 := (not_congr (cL (nI_toInt (by omega)) (nI_toInt (by omega)))).mp h11
        refine lv_aload_n hx hb dX9_days_14 rfl (lv_at hl 2 rfl) ?_
        refine va_get (D := D) (ci := 9) (v := .ref ng) (C := RX9) (T := TX9) (N := 16) hx hb hts inX9 hown hK hP 0 rfl rfl 11 (by decide) f28 (fun _ h9 => h9) rfl dX9_days_15 ?_
        refine lv_iload_n hx hb dX9_days_18 rfl (lv_at hl 0 rfl) ?_
        refine lv_iload_n hx hb dX9_days_19 rfl (lv_at hl 1 rfl) ?_
        refine lv_aload_n hx hb dX9_days_20 rfl (lv_at hl 3 rfl) ?_
        refine lv_iconst (v := nI (2)) hx hb dX9_days_21 (by decide) ?_
        refine lv_iload_n hx hb dX9_days_22 rfl (lv_at hl 0 rfl) ?_
        refine xr_iadd hx hb dX9_days_23 ?_
        refine xr_iald hx hb hK hP 3 0 rfl rfl (by omega) (Nat.le_of_ble_eq_true rfl) (v := iZ (sv (2 + k))) rfl dX9_days_24 ?_
        refine xr_isub_zz hx hb dX9_days_25 ?_
        refine xr_iast hx hb hK hP hD hS 2 0 rfl rfl (by omega) (Nat.le_of_ble_eq_true rfl) (zF (upZ f2 k ((span G T L) - (sv (2 + k))))) (fun _ _ => zF_up _ _ _ _) dX9_days_26 (fun H locs hP hD hS => ?_)
        have hP : va_P D vwCl [(mo, .inr (9, [.ref na, .ref nb, .ref nc, .ref nd, .int (bI (ms)), .int (nI mk), .ref ne, .int (nI my), .int (nI mt), .int (nI mp), .ref nf, .ref ng, .ref nh, .ref ni, .ref nj, .ref nl])), (nf, .inl (ca 0, 20, .inl (zF e12))), (ng, .inl (ca 0, 20, .inl (zF (upZ f2 k ((span G T L) - (sv (2 + k))))))), (sa, .inl (ca 0, 442, .inl (zF sv)))] H := hP
        have hD : va_D A [(mo, .inr (9, [.ref na, .ref nb, .ref nc, .ref nd, .int (bI (ms)), .int (nI mk), .ref ne, .int (nI my), .int (nI mt), .int (nI mp), .ref nf, .ref ng, .ref nh, .ref ni, .ref nj, .ref nl])), (nf, .inl (ca 0, 20, .inl (zF e12))), (ng, .inl (ca 0, 20, .inl (zF (upZ f2 k ((span G T L) - (sv (2 + k))))))), (sa, .inl (ca 0, 442, .inl (zF sv)))] := hD
        refine lv_iinc (v := nI (k + 1)) (lv' := [(3, .int (nI (k + 1))), (2, .int (iZ (span G T L))), (0, .ref mo), (1, .ref sa)]) hx hb dX9_days_27 hl (k := 0) rfl (nI_add _ 1) (by decide) rfl (fun ls hl => ?_)
        refine lv_goto (tgt := 8) hx hb dX9_days_30 (by decide) ?_
        exact ih8 (k + 1) (upZ f2 k ((span G T L) - (sv (2 + k)))) (by omega) (by rw [hf]; exact rwF_s) (by omega) _ _ hP hD hS _ (lv_sub hl [0, 1, 2, 3] rfl)
  exact L8 _ 0 f (by omega) rwF_0 (Nat.lt_succ_self _) _ _ hP hD hS _ (lv_sub hl [0, 1, 2, 3] rfl)
def rX9_ahead : Room := { frames := 0, cells := 0, slots := 0, locals := 0 }
set_option maxHeartbeats 4000000 in
set_option maxRecDepth 100000 in
theorem mX9_ahead (l : Launch) (D : va_G) (ca : Nat → ClassId) (sz : Nat) (sa : Nat) (sv : Nat → Int) (T : Nat) (C : Int) (L : Nat → Int) (N : Nat → Int) (G : Nat → Nat → Int) (t : Nat) (t2 : Nat) (hT : T ≤ 20) (hG : GOK G) (hac : ACY G T) (hGo : ∀ i j, i < 20 → j < 20 → G i j ≠ -1 → i < T ∧ j < T) (hM : MS sv T C L N G) (htt : t < T ∧ t2 < T) : MM l yX9_ahead wsX9_ahead rX9_ahead D ca [.ref sa, .int (nI t), .int (nI t2)] sz [(sa, .inl (ca 0, 442, .inl (zF sv)))] (QI D ca (fun (r : Int32) (u : Unit) => r = bI (ahB G T t t2)) (fun _ => [(sa, .inl (ca 0, 442, .inl (zF sv)))])) := by
  refine MM_of (cc := cX9_ahead) (maxL := 6) (ret := (some .boolean)) (lv0 := [(0, .ref sa), (1, .int (nI t)), (2, .int (nI t2))]) RX9 (by decide) rfl rfl (Nat.le_of_ble_eq_true rfl) rfl ?_
  intro pG eV s mI args below meth cO hx hb hr hml hts hown hlocks hnm A hA H locs hsz hP hK hD hS Q hE ls hl
  refine lv_iconst (v := nI (1)) hx hb dX9_ahead_0 (by decide) ?_
  refine lv_iload_n hx hb dX9_ahead_1 rfl (lv_at hl 1 rfl) ?_
  refine lv_ishl hx hb dX9_ahead_2 ?_
  refine xr_top (y := nI (2 ^ t)) (b_shl (by omega)) ?_
  refine lv_istore_n (lv' := [(3, .int (nI (2 ^ t))), (0, .ref sa), (1, .int (nI t)), (2, .int (nI t2))]) hx hb dX9_ahead_3 rfl hl (by decide) rfl (fun ls hl => ?_)
  refine lv_iconst (v := nI 0) hx hb dX9_ahead_4 (by decide) ?_
  refine lv_istore (lv' := [(4, .int (nI 0)), (3, .int (nI (2 ^ t))), (0, .ref sa), (1, .int (nI t)), (2, .int (nI t2))]) hx hb dX9_ahead_5 hl (by decide) rfl (fun ls hl => ?_)
  have L7 : ∀ (fu : Nat) (hd : Nat) (b : Nat), (AH G T t hd b 400) → (msB hd b) < fu → ∀ (H : Heap) (locs : List Loc), va_P D vwCl [(sa, .inl (ca 0, 442, .inl (zF sv)))] H → va_D A [(sa, .inl (ca 0, 442, .inl (zF sv)))] → va_S A s.heap H locs → ∀ ls : Array Slot, lv_has ls 6 [(4, .int (nI hd)), (3, .int (nI b)), (0, .ref sa), (1, .int (nI t)), (2, .int (nI t2))] → W pG l eV rX9_ahead s mI args below meth cO H locs 0 0 Q (F0 mI 7 ls []) := by
    clear hP hD hS hl
    intro fu; induction fu with
    | zero => intro hd b hA hmu; exact absurd hmu (Nat.not_lt_zero _)
    | succ n7 ih7 =>
      intro hd b hA hmu7 H locs hP hD hS ls hl
      have hq1 := hA.1
      have hq2 := hA.2.1
      refine lv_iload hx hb dX9_ahead_7 (lv_at hl 0 rfl) ?_
      refine lv_iload_n hx hb dX9_ahead_9 rfl (lv_at hl 1 rfl) ?_
      refine lv_icmp_eq (tgt := 74) hx hb dX9_ahead_10 (by decide) (fun h10 => ?_) (fun h10 => ?_)
      · skip
        have h10 := (cE (nI_toInt (by omega)) (nI_toInt (by omega))).mp h10
        have hhb : hd = b := by omega
        rw [hhb] at hA
        refine lv_iload_n hx hb dX9_ahead_74 rfl (lv_at hl 3 rfl) ?_
        refine lv_iload_n hx hb dX9_ahead_75 rfl (lv_at hl 4 rfl) ?_
        refine lv_icmp_eq (tgt := 92) hx hb dX9_ahead_76 (by decide) (fun h76 => ?_) (fun h76 => ?_)
        · skip
          have h76 := (cE (nI_toInt (by omega)) (nI_toInt (by omega))).mp h76
          refine lv_iconst (v := nI (0)) hx hb dX9_ahead_92 (by decide) ?_
          rw [← hE]
          exact xe_z () hx hb hr hlocks hK hP hD hS rfl (by rw [show t = t2 by omega, ahB_self]; rfl) dX9_ahead_93
        · skip
          have h76 := (not_congr (cE (nI_toInt (by omega)) (nI_toInt (by omega)))).mp h76
          refine lv_iload_n hx hb dX9_ahead_79 rfl (lv_at hl 1 rfl) ?_
          refine lv_iload_n hx hb dX9_ahead_80 rfl (lv_at hl 4 rfl) ?_
          refine lv_ishr hx hb dX9_ahead_81 ?_
          refine xr_top (y := nI (b / 2 ^ t2)) (b_shr (by omega) (by omega)) ?_
          refine lv_iconst (v := nI (1)) hx hb dX9_ahead_82 (by decide) ?_
          refine lv_iand hx hb dX9_ahead_83 ?_
          refine xr_top (y := nI ((b / 2 ^ t2) % 2)) (b_and (Nat.lt_of_le_of_lt (Nat.div_le_self _ _) (by omega))) ?_
          refine lv_iconst (v := nI (1)) hx hb dX9_ahead_84 (by decide) ?_
          refine lv_icmp_ne (tgt := 92) hx hb dX9_ahead_85 (by decide) (fun h85 => ?_) (fun h85 => ?_)
          · skip
            have h85 := (not_congr (cE (nI_toInt (by omega)) (nI_toInt (by omega)))).mp h85
            refine lv_iconst (v := nI (0)) hx hb dX9_ahead_92 (by decide) ?_
            rw [← hE]
            exact xe_z () hx hb hr hlocks hK hP hD hS rfl (by rw [AH_ans2 hT hA (fun h9 => h85 (by omega))]; rfl) dX9_ahead_93
          · skip
            have h85 := (cE (nI_toInt (by omega)) (nI_toInt (by omega))).mp h85
            refine lv_iconst (v := nI (1)) hx hb dX9_ahead_88 (by decide) ?_
            refine lv_goto (tgt := 93) hx hb dX9_ahead_89 (by decide) ?_
            rw [← hE]
            exact xe_z () hx hb hr hlocks hK hP hD hS rfl (by rw [AH_ans hT hA (by omega) (by omega)]; rfl) dX9_ahead_93
      · skip
        have h10 := (not_congr (cE (nI_toInt (by omega)) (nI_toInt (by omega)))).mp h10
        refine lv_iload_n hx hb dX9_ahead_13 rfl (lv_at hl 1 rfl) ?_
        refine lv_istore (lv' := [(4, .int (nI b)), (3, .int (nI b)), (0, .ref sa), (1, .int (nI t)), (2, .int (nI t2))]) hx hb dX9_ahead_14 hl (by decide) rfl (fun ls hl => ?_)
        refine lv_iconst (v := nI (0)) hx hb dX9_ahead_16 (by decide) ?_
        refine lv_istore (lv' := [(5, .int (nI 0)), (4, .int (nI b)), (3, .int (nI b)), (0, .ref sa), (1, .int (nI t)), (2, .int (nI t2))]) hx hb dX9_ahead_17 hl (by decide) rfl (fun ls hl => ?_)
        have L19 : ∀ (fu : Nat) (q : Nat) (b2 : Nat), (q ≤ 400) → (AH G T t b b2 q) → (400 - q) < fu → ∀ (H : Heap) (locs : List Loc), va_P D vwCl [(sa, .inl (ca 0, 442, .inl (zF sv)))] H → va_D A [(sa, .inl (ca 0, 442, .inl (zF sv)))] → va_S A s.heap H locs → ∀ ls : Array Slot, lv_has ls 6 [(5, .int (nI q)), (4, .int (nI b)), (3, .int (nI b2)), (0, .ref sa), (1, .int (nI t)), (2, .int (nI t2))] → W pG l eV rX9_ahead s mI args below meth cO H locs 0 0 Q (F0 mI 19 ls []) := by
          clear hP hD hS hl
          intro fu; induction fu with
          | zero => intro q b2 hq hA2 hmu; exact absurd hmu (Nat.not_lt_zero _)
          | succ n19 ih19 =>
            intro q b2 hq hA2 hmu19 H locs hP hD hS ls hl
            have hq3 := hA2.1
            refine lv_iload hx hb dX9_ahead_19 (lv_at hl 0 rfl) ?_
            refine lv_sipush (v := nI (400)) hx hb dX9_ahead_21 (by decide) ?_
            refine lv_icmp_ge (tgt := 71) hx hb dX9_ahead_24 (by decide) (fun h24 => ?_) (fun h24 => ?_)
            · skip
              have h24 := (cL (nI_toInt (by omega)) (nI_toInt (by omega))).mp h24
              refine lv_goto (tgt := 7) hx hb dX9_ahead_71 (by decide) ?_
              exact ih7 b b2 (by rw [show q = 400 by omega] at hA2; exact hA2) (by have := msB_lt (show ¬ hd = b by omega) hA2.2.1 hA2.1; omega) _ _ hP hD hS _ (lv_sub hl [1, 2, 3, 4, 5] rfl)
            · skip
              have h24 := (not_congr (cL (nI_toInt (by omega)) (nI_toInt (by omega)))).mp h24
              refine lv_iload_n hx hb dX9_ahead_27 rfl (lv_at hl 2 rfl) ?_
              refine lv_aload_n hx hb dX9_ahead_28 rfl (lv_at hl 3 rfl) ?_
              refine lv_bipush (v := nI (42)) hx hb dX9_ahead_29 (by decide) ?_
              refine lv_iload hx hb dX9_ahead_31 (lv_at hl 0 rfl) ?_
              refine xr_iadd hx hb dX9_ahead_33 ?_
              refine xr_iald hx hb hK hP 0 0 rfl rfl (by omega) (Nat.le_of_ble_eq_true rfl) (v := iZ (sv (42 + q))) rfl dX9_ahead_34 ?_
              have hb0 := hM.2.2.2 q (by omega)
              have hb1 := hG (q / 20) (q % 20) (by omega) (by omega)
              refine lv_if_lt (tgt := 62) hx hb dX9_ahead_35 (by decide) (fun h35 => ?_) (fun h35 => ?_)
              · skip
                have h35 := (cT (iZ_toInt (by omega) (by omega)) z0_toInt).mp h35
                refine lv_iconst (v := nI (0)) hx hb dX9_ahead_62 (by decide) ?_
                refine lv_ior hx hb dX9_ahead_63 ?_
                refine xr_top (y := nI (b2 ||| 0)) (b_or (by omega) (by omega)) ?_
                refine xr_top (y := nI (b2)) (congrArg nI (Nat.or_zero b2)) ?_
                refine lv_istore_n (lv' := [(3, .int (nI b2)), (5, .int (nI q)), (4, .int (nI b)), (0, .ref sa), (1, .int (nI t)), (2, .int (nI t2))]) hx hb dX9_ahead_64 rfl hl (by decide) rfl (fun ls hl => ?_)
                refine lv_iinc (v := nI (q + 1)) (lv' := [(5, .int (nI (q + 1))), (3, .int (nI b2)), (4, .int (nI b)), (0, .ref sa), (1, .int (nI t)), (2, .int (nI t2))]) hx hb dX9_ahead_65 hl (k := 1) rfl (nI_add _ 1) (by decide) rfl (fun ls hl => ?_)
                refine lv_goto (tgt := 19) hx hb dX9_ahead_68 (by decide) ?_
                exact ih19 (q + 1) b2 (by omega) (AH_skip hT hA2 (Or.inl (by omega))) (by omega) _ _ hP hD hS _ (lv_sub hl [0, 2, 1, 3, 4, 5] rfl)
              · skip
                have h35 := (not_congr (cT (iZ_toInt (by omega) (by omega)) z0_toInt)).mp h35
                have hed : ¬ G (q / 20) (q % 20) = -1 := by omega
                have hqT := hGo _ _ (by omega) (by omega) hed
                refine lv_iload hx hb dX9_ahead_38 (lv_at hl 1 rfl) ?_
                refine lv_iload hx hb dX9_ahead_40 (lv_at hl 0 rfl) ?_
                refine lv_bipush (v := nI (20)) hx hb dX9_ahead_42 (by decide) ?_
                refine xr_idiv hx hb (by omega) (by omega) (by omega) dX9_ahead_44 ?_
                refine lv_ishr hx hb dX9_ahead_45 ?_
                refine xr_top (y := nI (b / 2 ^ (q / 20))) (b_shr (by omega) (by omega)) ?_
                refine lv_iconst (v := nI (1)) hx hb dX9_ahead_46 (by decide) ?_
                refine lv_iand hx hb dX9_ahead_47 ?_
                refine xr_top (y := nI ((b / 2 ^ (q / 20)) % 2)) (b_and (Nat.lt_of_le_of_lt (Nat.div_le_self _ _) (by omega))) ?_
                refine lv_iconst (v := nI (1)) hx hb dX9_ahead_48 (by decide) ?_
                refine lv_icmp_ne (tgt := 62) hx hb dX9_ahead_49 (by decide) (fun h49 => ?_) (fun h49 => ?_)
                · skip
                  have h49 := (not_congr (cE (nI_toInt (by omega)) (nI_toInt (by omega)))).mp h49
                  refine lv_iconst (v := nI (0)) hx hb dX9_ahead_62 (by decide) ?_
                  refine lv_ior hx hb dX9_ahead_63 ?_
                  refine xr_top (y := nI (b2 ||| 0)) (b_or (by omega) (by omega)) ?_
                  refine xr_top (y := nI (b2)) (congrArg nI (Nat.or_zero b2)) ?_
                  refine lv_istore_n (lv' := [(3, .int (nI b2)), (5, .int (nI q)), (4, .int (nI b)), (0, .ref sa), (1, .int (nI t)), (2, .int (nI t2))]) hx hb dX9_ahead_64 rfl hl (by decide) rfl (fun ls hl => ?_)
                  refine lv_iinc (v := nI (q + 1)) (lv' := [(5, .int (nI (q + 1))), (3, .int (nI b2)), (4, .int (nI b)), (0, .ref sa), (1, .int (nI t)), (2, .int (nI t2))]) hx hb dX9_ahead_65 hl (k := 1) rfl (nI_add _ 1) (by decide) rfl (fun ls hl => ?_)
                  refine lv_goto (tgt := 19) hx hb dX9_ahead_68 (by decide) ?_
                  exact ih19 (q + 1) b2 (by omega) (AH_skip hT hA2 (Or.inr (fun h9 => h49 (by have := tb_iff.mp h9; omega)))) (by omega) _ _ hP hD hS _ (lv_sub hl [0, 2, 1, 3, 4, 5] rfl)
                · skip
                  have h49 := (cE (nI_toInt (by omega)) (nI_toInt (by omega))).mp h49
                  refine lv_iconst (v := nI (1)) hx hb dX9_ahead_52 (by decide) ?_
                  refine lv_iload hx hb dX9_ahead_53 (lv_at hl 0 rfl) ?_
                  refine lv_bipush (v := nI (20)) hx hb dX9_ahead_55 (by decide) ?_
                  refine xr_irem hx hb (by omega) (by omega) (by omega) dX9_ahead_57 ?_
                  refine lv_ishl hx hb dX9_ahead_58 ?_
                  refine xr_top (y := nI (2 ^ (q % 20))) (b_shl (by omega)) ?_
                  refine lv_goto (tgt := 63) hx hb dX9_ahead_59 (by decide) ?_
                  have hp9 : 2 ^ (q % 20) < 1048576 := Nat.pow_lt_pow_right (a := 2) (m := q % 20) (n := 20) (by omega) (by omega)
                  refine lv_ior hx hb dX9_ahead_63 ?_
                  refine xr_top (y := nI (b2 ||| (2 ^ (q % 20)))) (b_or (by omega) (by omega)) ?_
                  refine xr_top (y := nI (b2 ||| (2 ^ (q % 20)))) (rfl) ?_
                  refine lv_istore_n (lv' := [(3, .int (nI (b2 ||| (2 ^ (q % 20))))), (5, .int (nI q)), (4, .int (nI b)), (0, .ref sa), (1, .int (nI t)), (2, .int (nI t2))]) hx hb dX9_ahead_64 rfl hl (by decide) rfl (fun ls hl => ?_)
                  refine lv_iinc (v := nI (q + 1)) (lv' := [(5, .int (nI (q + 1))), (3, .int (nI (b2 ||| (2 ^ (q % 20))))), (4, .int (nI b)), (0, .ref sa), (1, .int (nI t)), (2, .int (nI t2))]) hx hb dX9_ahead_65 hl (k := 1) rfl (nI_add _ 1) (by decide) rfl (fun ls hl => ?_)
                  refine lv_goto (tgt := 19) hx hb dX9_ahead_68 (by decide) ?_
                  exact ih19 (q + 1) (b2 ||| (2 ^ (q % 20))) (by omega) (AH_or hT hA2 hqT.1 hqT.2 hed (tb_iff.mpr (by omega))) (by omega) _ _ hP hD hS _ (lv_sub hl [0, 2, 1, 3, 4, 5] rfl)
        exact L19 _ 0 b (by omega) (AH_start hA) (Nat.lt_succ_self _) _ _ hP hD hS _ (lv_sub hl [0, 1, 2, 3, 4, 5] rfl)
  exact L7 _ 0 (2 ^ t) (AH_0 (by omega)) (Nat.lt_succ_self _) _ _ hP hD hS _ (lv_sub hl [0, 1, 2, 3, 4] rfl)

