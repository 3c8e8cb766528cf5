def rX9_addTask : Room := { frames := 2, cells := 0, slots := 0, locals := 45 }
set_option maxHeartbeats 4000000 in
set_option maxRecDepth 100000 in
theorem mX9_addTask (l : Launch) (D : va_G) (ca : Nat → ClassId) (sz : Nat) (mo : Nat) (na : Nat) (nb : Nat) (nc : Nat) (nd : Nat) (ne : Nat) (nf : Nat) (ng : Nat) (nh : Nat) (ni : Nat) (nj : Nat) (nl : Nat) (ms : Bool) (mk : Nat) (my : Nat) (mt : Nat) (mp : Nat) (sn : Nat → Int) (T : Nat) (En : Int) (C : Int) (L : Nat → Int) (N : Nat → Int) (G : Nat → Nat → Int) (pa : Nat → Int) (p : Int32) (q : Int32) (hV : PSV T En C L N G) (hM : MS sn T C L N G) (hmk : mk ≤ 5) : MM l yX9_addTask wsX9_addTask rX9_addTask D ca [.ref mo, .int (p), .int (q)] sz [(mo, .inr (9, [.ref na, .ref nb, .ref nc, .ref nd, .int (bI (ms)), .int (nI mk), .ref ne, .int (nI my), .int (nI mt), .int (nI mp), .ref nf, .ref ng, .ref nh, .ref ni, .ref nj, .ref nl])), (na, .inl (ca 0, 442, .inl (zF sn))), (nc, .inl (ca 0, 2210, .inl (zF pa)))] (QI D ca (fun (r : Int32) (u : Nat × Nat × (Nat → Int) × (Nat → Int)) => u.1 = kAdd T p q ∧ (kAdd T p q = 0 → r = nI T ∧ MS u.2.2.1 (T + 1) C (upZ L T p.toInt) (upZ N T q.toInt) G ∧ KS mk pa sn u.2.1 u.2.2.2) ∧ (¬ kAdd T p q = 0 → u.2.2.1 = sn ∧ u.2.1 = mk ∧ u.2.2.2 = pa)) (fun u => [(mo, .inr (9, [.ref na, .ref nb, .ref nc, .ref nd, .int (bI (ms)), .int (nI u.2.1), .ref ne, .int (nI my), .int (nI u.1), .int (nI mp), .ref nf, .ref ng, .ref nh, .ref ni, .ref nj, .ref nl])), (na, .inl (ca 0, 442, .inl (zF u.2.2.1))), (nc, .inl (ca 0, 2210, .inl (zF u.2.2.2)))])) := by
  refine MM_of (cc := cX9_addTask) (maxL := 3) (ret := (some .int)) (lv0 := [(0, .ref mo), (1, .int (p)), (2, .int (q))]) RX9 (by decide) rfl rfl (Nat.le_of_ble_eq_true rfl) rfl ?_
  intro pG eV s mI args below meth cO hx hb hr hml hts hown hlocks hnm A hA H locs hsz hP hK hD hS Q hE ls hl
  have f44 := hts (.fieldLink RX9 44 "SlackPlanModel" "thrown" "I") (List.mem_of_getElem? (i := 1) rfl)
  have inX9 : ∀ w ∈ u_ws RX9 TX9 16, w ∈ wsX9_addTask := in_r _ [23, 24, 25, 26, 27, 28, 29, 30, 31, 32, 33, 34, 35, 36, 37, 38] rfl
  have f7 := hts (.fieldLink RX9 7 "SlackPlanModel" "now" "[I") (List.mem_of_getElem? (i := 2) rfl)
  obtain ⟨hT, hC9, hL30, hNk, hG, hac, hGo, hEn, hE40⟩ := hV
  have hLk := L30_LOK hL30
  have hs0 := hM.1
  have hs1 := hM.2.1
  refine lv_aload_n hx hb dX9_addTask_0 rfl (lv_at hl 0 rfl) ?_
  refine lv_iconst (v := nI (0)) hx hb dX9_addTask_1 (by decide) ?_
  refine va_put (D := D) (ci := 9) (v := .int (nI 0)) (ty := .int) (C := RX9) (T := TX9) (N := 16) hx hb hts inX9 tyX9 tyX9_ok nmX9 hown hK hP hD hS 0 rfl rfl 8 (by decide) f44 (fun _ h9 => h9) rfl (by decide +kernel) rfl rfl (Nat.le_of_ble_eq_true rfl) dX9_addTask_2 (fun H locs hP hD hS => ?_)
  have hP : va_P D vwCl [(mo, .inr (9, [.ref na, .ref nb, .ref nc, .ref nd, .int (bI (ms)), .int (nI mk), .ref ne, .int (nI my), .int (nI 0), .int (nI mp), .ref nf, .ref ng, .ref nh, .ref ni, .ref nj, .ref nl])), (na, .inl (ca 0, 442, .inl (zF sn))), (nc, .inl (ca 0, 2210, .inl (zF pa)))] H := hP
  have hD : va_D A [(mo, .inr (9, [.ref na, .ref nb, .ref nc, .ref nd, .int (bI (ms)), .int (nI mk), .ref ne, .int (nI my), .int (nI 0), .int (nI mp), .ref nf, .ref ng, .ref nh, .ref ni, .ref nj, .ref nl])), (na, .inl (ca 0, 442, .inl (zF sn))), (nc, .inl (ca 0, 2210, .inl (zF pa)))] := hD
  refine lv_iload_n hx hb dX9_addTask_5 rfl (lv_at hl 1 rfl) ?_
  refine lv_iconst (v := nI (0)) hx hb dX9_addTask_6 (by decide) ?_
  refine lv_bipush (v := nI (30)) hx hb dX9_addTask_7 (by decide) ?_
  refine xk_pi (xk_S (As := [.int (p), .int (nI 0), .int (nI 30)]) (rest := []) ⟨hx, hb, hml, hown, hts⟩ (mX9_in l D ca H.size p (nI (0)) (nI (30)) ) (va_cwS 3 hts gX9_addTask_X9_in rfl rfl rfl (by decide +kernel) ⟨Nat.le_of_ble_eq_true rfl, Nat.le_of_ble_eq_true rfl⟩) hK hP hD [] rfl rfl rfl hl.1 rfl (Nat.le_of_ble_eq_true rfl) dX9_addTask_9 ⟨Nat.le_of_ble_eq_true rfl, Nat.le_of_ble_eq_true rfl⟩) hP hD hS hA [] rfl ⟨rfl, rfl⟩ (fun r9 H locs hw9 hP hS => ?_)
  have hw9 : r9 = bI (inB p (nI (0)) (nI (30))) := hw9
  subst hw9
  refine lv_if_eq (tgt := 24) hx hb dX9_addTask_12 (by decide) (fun h12 => ?_) (fun h12 => ?_)
  · skip
    have h12 := bI_0.mp h12
    have h12 := (in_rngf (a := 0) (b := 30) (by omega) (by omega)).mp h12
    refine lv_aload_n hx hb dX9_addTask_24 rfl (lv_at hl 0 rfl) ?_
    refine lv_iconst (v := nI (1)) hx hb dX9_addTask_25 (by decide) ?_
    refine xk_i [(na, .inl (ca 0, 442, .inl (zF sn))), (nc, .inl (ca 0, 2210, .inl (zF pa)))] (fun u => [(mo, .inr (9, [.ref na, .ref nb, .ref nc, .ref nd, .int (bI (ms)), .int (nI mk), .ref ne, .int (nI my), .int (nI 1), .int (nI mp), .ref nf, .ref ng, .ref nh, .ref ni, .ref nj, .ref nl])), (na, .inl (ca 0, 442, .inl (zF sn))), (nc, .inl (ca 0, 2210, .inl (zF pa)))]) (xk_V (As := [.int (nI 1)]) (rest := []) ⟨hx, hb, hml, hown, hts⟩ (mX9_fails l D ca H.size mo na nb nc nd ne nf ng nh ni nj nl ms mk my 0 mp 1 ) (cwV 1 hts gX9_addTask_X9_fails rfl rfl rfl (by decide +kernel) ⟨Nat.le_of_ble_eq_true rfl, Nat.le_of_ble_eq_true rfl⟩) hK hP hD (va_recv (q := (RX9, TX9, 16)) hK hP (ci := 9) (q0 := 0) rfl rfl) [0] rfl rfl rfl hl.1 rfl (Nat.le_of_ble_eq_true rfl) dX9_addTask_26 ⟨Nat.le_of_ble_eq_true rfl, Nat.le_of_ble_eq_true rfl⟩) hP hD hS hA [0] [1, 2] [2, 0, 1] rfl rfl rfl rfl (fun _ => rfl) rfl (fun r26 u26 H locs hw26 hP hD hS => ?_)
    have hw26 : r26 = nI 0 := hw26
    have hP : va_P D vwCl [(mo, .inr (9, [.ref na, .ref nb, .ref nc, .ref nd, .int (bI (ms)), .int (nI mk), .ref ne, .int (nI my), .int (nI 1), .int (nI mp), .ref nf, .ref ng, .ref nh, .ref ni, .ref nj, .ref nl])), (na, .inl (ca 0, 442, .inl (zF sn))), (nc, .inl (ca 0, 2210, .inl (zF pa)))] H := hP
    have hD : va_D A [(mo, .inr (9, [.ref na, .ref nb, .ref nc, .ref nd, .int (bI (ms)), .int (nI mk), .ref ne, .int (nI my), .int (nI 1), .int (nI mp), .ref nf, .ref ng, .ref nh, .ref ni, .ref nj, .ref nl])), (na, .inl (ca 0, 442, .inl (zF sn))), (nc, .inl (ca 0, 2210, .inl (zF pa)))] := hD
    have hwr26 := hw26
    subst hwr26
    rw [← hE]
    exact xe_i (1, mk, sn, pa) hx hb hr hlocks hK hP hD hS (⟨(kAdd_1 (by omega)).symm, fun h9 => absurd (h9.symm.trans (kAdd_1 (by omega))) (by decide), fun _ => ⟨rfl, rfl, rfl⟩⟩) dX9_addTask_29
  · skip
    have h12 := bI_n0.mp h12
    have h12 := (in_rng (a := 0) (b := 30) (by omega) (by omega)).mp h12
    refine lv_iload_n hx hb dX9_addTask_15 rfl (lv_at hl 2 rfl) ?_
    refine lv_iconst (v := nI (0)) hx hb dX9_addTask_16 (by decide) ?_
    refine lv_iconst (v := nI (5)) hx hb dX9_addTask_17 (by decide) ?_
    refine xk_pi (xk_S (As := [.int (q), .int (nI 0), .int (nI 5)]) (rest := []) ⟨hx, hb, hml, hown, hts⟩ (mX9_in l D ca H.size q (nI (0)) (nI (5)) ) (va_cwS 3 hts gX9_addTask_X9_in rfl rfl rfl (by decide +kernel) ⟨Nat.le_of_ble_eq_true rfl, Nat.le_of_ble_eq_true rfl⟩) hK hP hD [] rfl rfl rfl hl.1 rfl (Nat.le_of_ble_eq_true rfl) dX9_addTask_18 ⟨Nat.le_of_ble_eq_true rfl, Nat.le_of_ble_eq_true rfl⟩) hP hD hS hA [] rfl ⟨rfl, rfl⟩ (fun r18 H locs hw18 hP hS => ?_)
    have hw18 : r18 = bI (inB q (nI (0)) (nI (5))) := hw18
    subst hw18
    refine lv_if_ne (tgt := 30) hx hb dX9_addTask_21 (by decide) (fun h21 => ?_) (fun h21 => ?_)
    · skip
      have h21 := bI_n0.mp h21
      have h21 := (in_rng (a := 0) (b := 5) (by omega) (by omega)).mp h21
      refine lv_aload_n hx hb dX9_addTask_30 rfl (lv_at hl 0 rfl) ?_
      refine va_get (D := D) (ci := 9) (v := .ref na) (C := RX9) (T := TX9) (N := 16) hx hb hts inX9 hown hK hP 0 rfl rfl 0 (by decide) f7 (fun _ h9 => h9) rfl dX9_addTask_31 ?_
      refine lv_iconst (v := nI (0)) hx hb dX9_addTask_34 (by decide) ?_
      refine xr_iald hx hb hK hP 1 0 rfl rfl (by omega) (Nat.le_of_ble_eq_true rfl) (v := iZ (sn 0)) rfl dX9_addTask_35 ?_
      refine lv_bipush (v := nI (20)) hx hb dX9_addTask_36 (by decide) ?_
      refine lv_icmp_ne (tgt := 47) hx hb dX9_addTask_38 (by decide) (fun h38 => ?_) (fun h38 => ?_)
      · skip
        have h38 := (not_congr (cE (iZ_toInt (by omega) (by omega)) (nI_toInt (by omega)))).mp h38
        refine lv_aload_n hx hb dX9_addTask_47 rfl (lv_at hl 0 rfl) ?_
        refine xk_v [] (fun u => [(mo, .inr (9, [.ref na, .ref nb, .ref nc, .ref nd, .int (bI (ms)), .int (nI u.1), .ref ne, .int (nI my), .int (nI 0), .int (nI mp), .ref nf, .ref ng, .ref nh, .ref ni, .ref nj, .ref nl])), (na, .inl (ca 0, 442, .inl (zF sn))), (nc, .inl (ca 0, 2210, .inl (zF u.2)))]) (xk_V (As := []) (rest := []) ⟨hx, hb, hml, hown, hts⟩ (mX9_keepsState l D ca H.size mo na nb nc nd ne nf ng nh ni nj nl ms mk my 0 mp sn pa (by omega)) (cwV 0 hts gX9_addTask_X9_keepsState rfl rfl rfl (by decide +kernel) ⟨Nat.le_of_ble_eq_true rfl, Nat.le_of_ble_eq_true rfl⟩) hK hP hD (va_recv (q := (RX9, TX9, 16)) hK hP (ci := 9) (q0 := 0) rfl rfl) [0, 1, 2] rfl rfl rfl hl.1 rfl (Nat.le_of_ble_eq_true rfl) dX9_addTask_48 ⟨Nat.le_of_ble_eq_true rfl, Nat.le_of_ble_eq_true rfl⟩) hP hD hS hA [0, 1, 2] [] [0, 1, 2] rfl rfl rfl rfl (fun _ => rfl) rfl (fun u48 H locs hw48 hP hD hS => ?_)
        obtain ⟨k148, pa148⟩ := u48
        have hw48 : k148 = (if mk = 5 then 5 else mk + 1) ∧ pa148 = cpF sn 0 (if mk = 5 then shF pa 1768 else pa) (442 * (if mk = 5 then 4 else mk)) 442 := hw48
        have hP : va_P D vwCl [(mo, .inr (9, [.ref na, .ref nb, .ref nc, .ref nd, .int (bI (ms)), .int (nI k148), .ref ne, .int (nI my), .int (nI 0), .int (nI mp), .ref nf, .ref ng, .ref nh, .ref ni, .ref nj, .ref nl])), (na, .inl (ca 0, 442, .inl (zF sn))), (nc, .inl (ca 0, 2210, .inl (zF pa148)))] H := hP
        have hD : va_D A [(mo, .inr (9, [.ref na, .ref nb, .ref nc, .ref nd, .int (bI (ms)), .int (nI k148), .ref ne, .int (nI my), .int (nI 0), .int (nI mp), .ref nf, .ref ng, .ref nh, .ref ni, .ref nj, .ref nl])), (na, .inl (ca 0, 442, .inl (zF sn))), (nc, .inl (ca 0, 2210, .inl (zF pa148)))] := hD
        have e9 : (p) = iZ (p.toInt) := (iZ_toI p)
        have hl : lv_has ls 3 [(0, .ref mo), (1, .int (iZ p.toInt)), (2, .int (q))] := by rw [← e9]; exact hl
        have e9 : (q) = iZ (q.toInt) := (iZ_toI q)
        have hl : lv_has ls 3 [(0, .ref mo), (1, .int (iZ p.toInt)), (2, .int (iZ q.toInt))] := by rw [← e9]; exact hl
        refine lv_aload_n hx hb dX9_addTask_51 rfl (lv_at hl 0 rfl) ?_
        refine va_get (D := D) (ci := 9) (v := .ref na) (C := RX9) (T := TX9) (N := 16) hx hb hts inX9 hown hK hP 0 rfl rfl 0 (by decide) f7 (fun _ h9 => h9) rfl dX9_addTask_52 ?_
        refine lv_iload_n hx hb dX9_addTask_55 rfl (lv_at hl 1 rfl) ?_
        refine lv_iload_n hx hb dX9_addTask_56 rfl (lv_at hl 2 rfl) ?_
        refine xk_i [(mo, .inr (9, [.ref na, .ref nb, .ref nc, .ref nd, .int (bI (ms)), .int (nI k148), .ref ne, .int (nI my), .int (nI 0), .int (nI mp), .ref nf, .ref ng, .ref nh, .ref ni, .ref nj, .ref nl])), (nc, .inl (ca 0, 2210, .inl (zF pa148)))] (fun u => [(mo, .inr (9, [.ref na, .ref nb, .ref nc, .ref nd, .int (bI (ms)), .int (nI k148), .ref ne, .int (nI my), .int (nI 0), .int (nI mp), .ref nf, .ref ng, .ref nh, .ref ni, .ref nj, .ref nl])), (na, .inl (ca 0, 442, .inl (zF (upZ (upZ (upZ sn (2 + T) p.toInt) (22 + T) q.toInt) 0 ((T : Int) + 1))))), (nc, .inl (ca 0, 2210, .inl (zF pa148)))]) (xk_S (As := [.ref na, .int (iZ p.toInt), .int (iZ q.toInt)]) (rest := []) ⟨hx, hb, hml, hown, hts⟩ (mX9_adds l D ca H.size na sn T p.toInt q.toInt (by omega) (by omega)) (va_cwS 3 hts gX9_addTask_X9_adds rfl rfl rfl (by decide +kernel) ⟨Nat.le_of_ble_eq_true rfl, Nat.le_of_ble_eq_true rfl⟩) hK hP hD [1] rfl rfl rfl hl.1 rfl (Nat.le_of_ble_eq_true rfl) dX9_addTask_57 ⟨Nat.le_of_ble_eq_true rfl, Nat.le_of_ble_eq_true rfl⟩) hP hD hS hA [1] [0, 2] [0, 2, 1] rfl rfl rfl rfl (fun _ => rfl) rfl (fun r57 u57 H locs hw57 hP hD hS => ?_)
        have hw57 : r57 = nI T := hw57
        have hP : va_P D vwCl [(mo, .inr (9, [.ref na, .ref nb, .ref nc, .ref nd, .int (bI (ms)), .int (nI k148), .ref ne, .int (nI my), .int (nI 0), .int (nI mp), .ref nf, .ref ng, .ref nh, .ref ni, .ref nj, .ref nl])), (na, .inl (ca 0, 442, .inl (zF (upZ (upZ (upZ sn (2 + T) p.toInt) (22 + T) q.toInt) 0 ((T : Int) + 1))))), (nc, .inl (ca 0, 2210, .inl (zF pa148)))] H := hP
        have hD : va_D A [(mo, .inr (9, [.ref na, .ref nb, .ref nc, .ref nd, .int (bI (ms)), .int (nI k148), .ref ne, .int (nI my), .int (nI 0), .int (nI mp), .ref nf, .ref ng, .ref nh, .ref ni, .ref nj, .ref nl])), (na, .inl (ca 0, 442, .inl (zF (upZ (upZ (upZ sn (2 + T) p.toInt) (22 + T) q.toInt) 0 ((T : Int) + 1))))), (nc, .inl (ca 0, 2210, .inl (zF pa148)))] := hD
        have hwr57 := hw57
        subst hwr57
        rw [← hE]
        exact xe_i (0, k148, (upZ (upZ (upZ sn (2 + T) p.toInt) (22 + T) q.toInt) 0 ((T : Int) + 1)), pa148) hx hb hr hlocks hK hP hD hS (⟨(kAdd_0 (p := p) (q := q) (T := T) (by omega) (by omega)).symm, fun _ => ⟨rfl, MS_adds hM (by omega), hw48⟩, fun h9 => absurd (kAdd_0 (p := p) (q := q) (T := T) (by omega) (by omega)) h9⟩) dX9_addTask_60
      · skip
        have h38 := (cE (iZ_toInt (by omega) (by omega)) (nI_toInt (by omega))).mp h38
        refine lv_aload_n hx hb dX9_addTask_41 rfl (lv_at hl 0 rfl) ?_
        refine lv_iconst (v := nI (2)) hx hb dX9_addTask_42 (by decide) ?_
        refine xk_i [(na, .inl (ca 0, 442, .inl (zF sn))), (nc, .inl (ca 0, 2210, .inl (zF pa)))] (fun u => [(mo, .inr (9, [.ref na, .ref nb, .ref nc, .ref nd, .int (bI (ms)), .int (nI mk), .ref ne, .int (nI my), .int (nI 2), .int (nI mp), .ref nf, .ref ng, .ref nh, .ref ni, .ref nj, .ref nl])), (na, .inl (ca 0, 442, .inl (zF sn))), (nc, .inl (ca 0, 2210, .inl (zF pa)))]) (xk_V (As := [.int (nI 2)]) (rest := []) ⟨hx, hb, hml, hown, hts⟩ (mX9_fails l D ca H.size mo na nb nc nd ne nf ng nh ni nj nl ms mk my 0 mp 2 ) (cwV 1 hts gX9_addTask_X9_fails rfl rfl rfl (by decide +kernel) ⟨Nat.le_of_ble_eq_true rfl, Nat.le_of_ble_eq_true rfl⟩) hK hP hD (va_recv (q := (RX9, TX9, 16)) hK hP (ci := 9) (q0 := 0) rfl rfl) [0] rfl rfl rfl hl.1 rfl (Nat.le_of_ble_eq_true rfl) dX9_addTask_43 ⟨Nat.le_of_ble_eq_true rfl, Nat.le_of_ble_eq_true rfl⟩) hP hD hS hA [0] [1, 2] [2, 0, 1] rfl rfl rfl rfl (fun _ => rfl) rfl (fun r43 u43 H locs hw43 hP hD hS => ?_)
        have hw43 : r43 = nI 0 := hw43
        have hP : va_P D vwCl [(mo, .inr (9, [.ref na, .ref nb, .ref nc, .ref nd, .int (bI (ms)), .int (nI mk), .ref ne, .int (nI my), .int (nI 2), .int (nI mp), .ref nf, .ref ng, .ref nh, .ref ni, .ref nj, .ref nl])), (na, .inl (ca 0, 442, .inl (zF sn))), (nc, .inl (ca 0, 2210, .inl (zF pa)))] H := hP
        have hD : va_D A [(mo, .inr (9, [.ref na, .ref nb, .ref nc, .ref nd, .int (bI (ms)), .int (nI mk), .ref ne, .int (nI my), .int (nI 2), .int (nI mp), .ref nf, .ref ng, .ref nh, .ref ni, .ref nj, .ref nl])), (na, .inl (ca 0, 442, .inl (zF sn))), (nc, .inl (ca 0, 2210, .inl (zF pa)))] := hD
        have hwr43 := hw43
        subst hwr43
        rw [← hE]
        exact xe_i (2, mk, sn, pa) hx hb hr hlocks hK hP hD hS (⟨(kAdd_2 (by omega) (by omega)).symm, fun h9 => absurd (h9.symm.trans (kAdd_2 (by omega) (by omega))) (by decide), fun _ => ⟨rfl, rfl, rfl⟩⟩) dX9_addTask_46
    · skip
      have h21 := bI_0.mp h21
      have h21 := (in_rngf (a := 0) (b := 5) (by omega) (by omega)).mp h21
      refine lv_aload_n hx hb dX9_addTask_24 rfl (lv_at hl 0 rfl) ?_
      refine lv_iconst (v := nI (1)) hx hb dX9_addTask_25 (by decide) ?_
      refine xk_i [(na, .inl (ca 0, 442, .inl (zF sn))), (nc, .inl (ca 0, 2210, .inl (zF pa)))] (fun u => [(mo, .inr (9, [.ref na, .ref nb, .ref nc, .ref nd, .int (bI (ms)), .int (nI mk), .ref ne, .int (nI my), .int (nI 1), .int (nI mp), .ref nf, .ref ng, .ref nh, .ref ni, .ref nj, .ref nl])), (na, .inl (ca 0, 442, .inl (zF sn))), (nc, .inl (ca 0, 2210, .inl (zF pa)))]) (xk_V (As := [.int (nI 1)]) (rest := []) ⟨hx, hb, hml, hown, hts⟩ (mX9_fails l D ca H.size mo na nb nc nd ne nf ng nh ni nj nl ms mk my 0 mp 1 ) (cwV 1 hts gX9_addTask_X9_fails rfl rfl rfl (by decide +kernel) ⟨Nat.le_of_ble_eq_true rfl, Nat.le_of_ble_eq_true rfl⟩) hK hP hD (va_recv (q := (RX9, TX9, 16)) hK hP (ci := 9) (q0 := 0) rfl rfl) [0] rfl rfl rfl hl.1 rfl (Nat.le_of_ble_eq_true rfl) dX9_addTask_26 ⟨Nat.le_of_ble_eq_true rfl, Nat.le_of_ble_eq_true rfl⟩) hP hD hS hA [0] [1, 2] [2, 0, 1] rfl rfl rfl rfl (fun _ => rfl) rfl (fun r26 u26 H locs hw26 hP hD hS => ?_)
      have hw26 : r26 = nI 0 := hw26
      have hP : va_P D vwCl [(mo, .inr (9, [.ref na, .ref nb, .ref nc, .ref nd, .int (bI (ms)), .int (nI mk), .ref ne, .int (nI my), .int (nI 1), .int (nI mp), .ref nf, .ref ng, .ref nh, .ref ni, .ref nj, .ref nl])), (na, .inl (ca 0, 442, .inl (zF sn))), (nc, .inl (ca 0, 2210, .inl (zF pa)))] H := hP
      have hD : va_D A [(mo, .inr (9, [.ref na, .ref nb, .ref nc, .ref nd, .int (bI (ms)), .int (nI mk), .ref ne, .int (nI my), .int (nI 1), .int (nI mp), .ref nf, .ref ng, .ref nh, .ref ni, .ref nj, .ref nl])), (na, .inl (ca 0, 442, .inl (zF sn))), (nc, .inl (ca 0, 2210, .inl (zF pa)))] := hD
      have hwr26 := hw26
      subst hwr26
      rw [← hE]
      exact xe_i (1, mk, sn, pa) hx hb hr hlocks hK hP hD hS (⟨(kAdd_1 (by omega)).symm, fun h9 => absurd (h9.symm.trans (kAdd_1 (by omega))) (by decide), fun _ => ⟨rfl, rfl, rfl⟩⟩) dX9_addTask_29
def rX9_removeTask : Room := { frames := 2, cells := 0, slots := 0, locals := 45 }
set_option maxHeartbeats 4000000 in
set_option maxRecDepth 100000 in
theorem mX9_removeTask (l : Launch) (D : va_G) (ca : Nat → ClassId) (sz : Nat) (mo : Nat) (na : Nat) (nb : Nat) (nc : Nat) (nd : Nat) (ne : Nat) (nf : Nat) (ng : Nat) (nh : Nat) (ni : Nat) (nj : Nat) (nl : Nat) (ms : Bool) (mk : Nat) (my : Nat) (mt : Nat) (mp : Nat) (sn : Nat → Int) (T : Nat) (En : Int) (C : Int) (L : Nat → Int) (N : Nat → Int) (G : Nat → Nat → Int) (pa : Nat → Int) (hV : PSV T En C L N G) (hM : MS sn T C L N G) (hmk : mk ≤ 5) : MM l yX9_removeTask wsX9_removeTask rX9_removeTask D ca [.ref mo] sz [(mo, .inr (9, [.ref na, .ref nb, .ref nc, .ref nd, .int (bI (ms)), .int (nI mk), .ref ne, .int (nI my), .int (nI mt), .int (nI mp), .ref nf, .ref ng, .ref nh, .ref ni, .ref nj, .ref nl])), (na, .inl (ca 0, 442, .inl (zF sn))), (nc, .inl (ca 0, 2210, .inl (zF pa)))] (QI D ca (fun (r : Int32) (u : Nat × Nat × (Nat → Int) × (Nat → Int)) => u.1 = kRem T ∧ (kRem T = 0 → r = iZ (En - rlE G (T - 1) (T - 1)) ∧ MS u.2.2.1 (T - 1) C L N (rlG G (T - 1) (T - 1)) ∧ KS mk pa sn u.2.1 u.2.2.2) ∧ (¬ kRem T = 0 → u.2.2.1 = sn ∧ u.2.1 = mk ∧ u.2.2.2 = pa)) (fun u => [(mo, .inr (9, [.ref na, .ref nb, .ref nc, .ref nd, .int (bI (ms)), .int (nI u.2.1), .ref ne, .int (nI my), .int (nI u.1), .int (nI mp), .ref nf, .ref ng, .ref nh, .ref ni, .ref nj, .ref nl])), (na, .inl (ca 0, 442, .inl (zF u.2.2.1))), (nc, .inl (ca 0, 2210, .inl (zF u.2.2.2)))])) := by
  refine MM_of (cc := cX9_removeTask) (maxL := 2) (ret := (some .int)) (lv0 := [(0, .ref mo)]) RX9 (by decide) rfl rfl (Nat.le_of_ble_eq_true rfl) rfl ?_
  intro pG eV s mI args below meth cO hx hb hr hml hts hown hlocks hnm A hA H locs hsz hP hK hD hS Q hE ls hl
  have f44 := hts (.fieldLink RX9 44 "SlackPlanModel" "thrown" "I") (List.mem_of_getElem? (i := 1) rfl)
  have inX9 : ∀ w ∈ u_ws RX9 TX9 16, w ∈ wsX9_removeTask := in_r _ [20, 21, 22, 23, 24, 25, 26, 27, 28, 29, 30, 31, 32, 33, 34, 35] rfl
  have f7 := hts (.fieldLink RX9 7 "SlackPlanModel" "now" "[I") (List.mem_of_getElem? (i := 2) rfl)
  obtain ⟨hT, hC9, hL30, hNk, hG, hac, hGo, hEn, hE40⟩ := hV
  have hLk := L30_LOK hL30
  have hs0 := hM.1
  have hs1 := hM.2.1
  refine lv_aload_n hx hb dX9_removeTask_0 rfl (lv_at hl 0 rfl) ?_
  refine lv_iconst (v := nI (0)) hx hb dX9_removeTask_1 (by decide) ?_
  refine va_put (D := D) (ci := 9) (v := .int (nI 0)) (ty := .int) (C := RX9) (T := TX9) (N := 16) hx hb hts inX9 tyX9 tyX9_ok nmX9 hown hK hP hD hS 0 rfl rfl 8 (by decide) f44 (fun _ h9 => h9) rfl (by decide +kernel) rfl rfl (Nat.le_of_ble_eq_true rfl) dX9_removeTask_2 (fun H locs hP hD hS => ?_)
  have hP : va_P D vwCl [(mo, .inr (9, [.ref na, .ref nb, .ref nc, .ref nd, .int (bI (ms)), .int (nI mk), .ref ne, .int (nI my), .int (nI 0), .int (nI mp), .ref nf, .ref ng, .ref nh, .ref ni, .ref nj, .ref nl])), (na, .inl (ca 0, 442, .inl (zF sn))), (nc, .inl (ca 0, 2210, .inl (zF pa)))] H := hP
  have hD : va_D A [(mo, .inr (9, [.ref na, .ref nb, .ref nc, .ref nd, .int (bI (ms)), .int (nI mk), .ref ne, .int (nI my), .int (nI 0), .int (nI mp), .ref nf, .ref ng, .ref nh, .ref ni, .ref nj, .ref nl])), (na, .inl (ca 0, 442, .inl (zF sn))), (nc, .inl (ca 0, 2210, .inl (zF pa)))] := hD
  refine lv_aload_n hx hb dX9_removeTask_5 rfl (lv_at hl 0 rfl) ?_
  refine va_get (D := D) (ci := 9) (v := .ref na) (C := RX9) (T := TX9) (N := 16) hx hb hts inX9 hown hK hP 0 rfl rfl 0 (by decide) f7 (fun _ h9 => h9) rfl dX9_removeTask_6 ?_
  refine lv_iconst (v := nI (0)) hx hb dX9_removeTask_9 (by decide) ?_
  refine xr_iald hx hb hK hP 1 0 rfl rfl (by omega) (Nat.le_of_ble_eq_true rfl) (v := iZ (sn 0)) rfl dX9_removeTask_10 ?_
  refine lv_if_ne (tgt := 20) hx hb dX9_removeTask_11 (by decide) (fun h11 => ?_) (fun h11 => ?_)
  · skip
    have h11 := (not_congr (cE (iZ_toInt (by omega) (by omega)) z0_toInt)).mp h11
    refine lv_aload_n hx hb dX9_removeTask_20 rfl (lv_at hl 0 rfl) ?_
    refine xk_v [] (fun u => [(mo, .inr (9, [.ref na, .ref nb, .ref nc, .ref nd, .int (bI (ms)), .int (nI u.1), .ref ne, .int (nI my), .int (nI 0), .int (nI mp), .ref nf, .ref ng, .ref nh, .ref ni, .ref nj, .ref nl])), (na, .inl (ca 0, 442, .inl (zF sn))), (nc, .inl (ca 0, 2210, .inl (zF u.2)))]) (xk_V (As := []) (rest := []) ⟨hx, hb, hml, hown, hts⟩ (mX9_keepsState l D ca H.size mo na nb nc nd ne nf ng nh ni nj nl ms mk my 0 mp sn pa (by omega)) (cwV 0 hts gX9_removeTask_X9_keepsState rfl rfl rfl (by decide +kernel) ⟨Nat.le_of_ble_eq_true rfl, Nat.le_of_ble_eq_true rfl⟩) hK hP hD (va_recv (q := (RX9, TX9, 16)) hK hP (ci := 9) (q0 := 0) rfl rfl) [0, 1, 2] rfl rfl rfl hl.1 rfl (Nat.le_of_ble_eq_true rfl) dX9_removeTask_21 ⟨Nat.le_of_ble_eq_true rfl, Nat.le_of_ble_eq_true rfl⟩) hP hD hS hA [0, 1, 2] [] [0, 1, 2] rfl rfl rfl rfl (fun _ => rfl) rfl (fun u21 H locs hw21 hP hD hS => ?_)
    obtain ⟨k121, pa121⟩ := u21
    have hw21 : k121 = (if mk = 5 then 5 else mk + 1) ∧ pa121 = cpF sn 0 (if mk = 5 then shF pa 1768 else pa) (442 * (if mk = 5 then 4 else mk)) 442 := hw21
    have hP : va_P D vwCl [(mo, .inr (9, [.ref na, .ref nb, .ref nc, .ref nd, .int (bI (ms)), .int (nI k121), .ref ne, .int (nI my), .int (nI 0), .int (nI mp), .ref nf, .ref ng, .ref nh, .ref ni, .ref nj, .ref nl])), (na, .inl (ca 0, 442, .inl (zF sn))), (nc, .inl (ca 0, 2210, .inl (zF pa121)))] H := hP
    have hD : va_D A [(mo, .inr (9, [.ref na, .ref nb, .ref nc, .ref nd, .int (bI (ms)), .int (nI k121), .ref ne, .int (nI my), .int (nI 0), .int (nI mp), .ref nf, .ref ng, .ref nh, .ref ni, .ref nj, .ref nl])), (na, .inl (ca 0, 442, .inl (zF sn))), (nc, .inl (ca 0, 2210, .inl (zF pa121)))] := hD
    refine lv_aload_n hx hb dX9_removeTask_24 rfl (lv_at hl 0 rfl) ?_
    refine va_get (D := D) (ci := 9) (v := .ref na) (C := RX9) (T := TX9) (N := 16) hx hb hts inX9 hown hK hP 0 rfl rfl 0 (by decide) f7 (fun _ h9 => h9) rfl dX9_removeTask_25 ?_
    refine lv_iconst (v := nI (0)) hx hb dX9_removeTask_28 (by decide) ?_
    refine lv_dup2_11 hx hb dX9_removeTask_29 rfl rfl ?_
    refine xr_iald hx hb hK hP 1 0 rfl rfl (by omega) (Nat.le_of_ble_eq_true rfl) (v := iZ (sn 0)) rfl dX9_removeTask_30 ?_
    refine lv_iconst (v := nI (1)) hx hb dX9_removeTask_31 (by decide) ?_
    refine xr_isub_zn hx hb dX9_removeTask_32 ?_
    refine xr_top (y := iZ (((T - 1 : Nat) : Int))) (congrArg iZ (by omega)) ?_
    refine xr_iast hx hb hK hP hD hS 1 0 rfl rfl (by omega) (Nat.le_of_ble_eq_true rfl) (zF (upZ sn 0 ((T - 1 : Nat) : Int))) (fun _ _ => zF_up _ _ _ _) dX9_removeTask_33 (fun H locs hP hD hS => ?_)
    have hP : va_P D vwCl [(mo, .inr (9, [.ref na, .ref nb, .ref nc, .ref nd, .int (bI (ms)), .int (nI k121), .ref ne, .int (nI my), .int (nI 0), .int (nI mp), .ref nf, .ref ng, .ref nh, .ref ni, .ref nj, .ref nl])), (na, .inl (ca 0, 442, .inl (zF (upZ sn 0 ((T - 1 : Nat) : Int))))), (nc, .inl (ca 0, 2210, .inl (zF pa121)))] H := hP
    have hD : va_D A [(mo, .inr (9, [.ref na, .ref nb, .ref nc, .ref nd, .int (bI (ms)), .int (nI k121), .ref ne, .int (nI my), .int (nI 0), .int (nI mp), .ref nf, .ref ng, .ref nh, .ref ni, .ref nj, .ref nl])), (na, .inl (ca 0, 442, .inl (zF (upZ sn 0 ((T - 1 : Nat) : Int))))), (nc, .inl (ca 0, 2210, .inl (zF pa121)))] := hD
    refine lv_aload_n hx hb dX9_removeTask_34 rfl (lv_at hl 0 rfl) ?_
    refine va_get (D := D) (ci := 9) (v := .ref na) (C := RX9) (T := TX9) (N := 16) hx hb hts inX9 hown hK hP 0 rfl rfl 0 (by decide) f7 (fun _ h9 => h9) rfl dX9_removeTask_35 ?_
    refine lv_iconst (v := nI (2)) hx hb dX9_removeTask_38 (by decide) ?_
    refine lv_aload_n hx hb dX9_removeTask_39 rfl (lv_at hl 0 rfl) ?_
    refine va_get (D := D) (ci := 9) (v := .ref na) (C := RX9) (T := TX9) (N := 16) hx hb hts inX9 hown hK hP 0 rfl rfl 0 (by decide) f7 (fun _ h9 => h9) rfl dX9_removeTask_40 ?_
    refine lv_iconst (v := nI (0)) hx hb dX9_removeTask_43 (by decide) ?_
    refine xr_iald hx hb hK hP 1 0 rfl rfl (by omega) (Nat.le_of_ble_eq_true rfl) (v := iZ ((upZ sn 0 ((T - 1 : Nat) : Int)) 0)) rfl dX9_removeTask_44 ?_
    refine xr_top (y := nI (T - 1)) (by rw [iZ_n, upZ_s]) ?_
    refine xr_iadd hx hb dX9_removeTask_45 ?_
    refine lv_iconst (v := nI (0)) hx hb dX9_removeTask_46 (by decide) ?_
    refine xr_iast hx hb hK hP hD hS 1 0 rfl rfl (by omega) (Nat.le_of_ble_eq_true rfl) (zF (upZ (upZ sn 0 ((T - 1 : Nat) : Int)) (2 + (T - 1)) ((0 : Nat) : Int))) (fun _ _ => zF_upn _ _ _ _) dX9_removeTask_47 (fun H locs hP hD hS => ?_)
    have hP : va_P D vwCl [(mo, .inr (9, [.ref na, .ref nb, .ref nc, .ref nd, .int (bI (ms)), .int (nI k121), .ref ne, .int (nI my), .int (nI 0), .int (nI mp), .ref nf, .ref ng, .ref nh, .ref ni, .ref nj, .ref nl])), (na, .inl (ca 0, 442, .inl (zF (upZ (upZ sn 0 ((T - 1 : Nat) : Int)) (2 + (T - 1)) ((0 : Nat) : Int))))), (nc, .inl (ca 0, 2210, .inl (zF pa121)))] H := hP
    have hD : va_D A [(mo, .inr (9, [.ref na, .ref nb, .ref nc, .ref nd, .int (bI (ms)), .int (nI k121), .ref ne, .int (nI my), .int (nI 0), .int (nI mp), .ref nf, .ref ng, .ref nh, .ref ni, .ref nj, .ref nl])), (na, .inl (ca 0, 442, .inl (zF (upZ (upZ sn 0 ((T - 1 : Nat) : Int)) (2 + (T - 1)) ((0 : Nat) : Int))))), (nc, .inl (ca 0, 2210, .inl (zF pa121)))] := hD
    refine lv_aload_n hx hb dX9_removeTask_48 rfl (lv_at hl 0 rfl) ?_
    refine va_get (D := D) (ci := 9) (v := .ref na) (C := RX9) (T := TX9) (N := 16) hx hb hts inX9 hown hK hP 0 rfl rfl 0 (by decide) f7 (fun _ h9 => h9) rfl dX9_removeTask_49 ?_
    refine lv_bipush (v := nI (22)) hx hb dX9_removeTask_52 (by decide) ?_
    refine lv_aload_n hx hb dX9_removeTask_54 rfl (lv_at hl 0 rfl) ?_
    refine va_get (D := D) (ci := 9) (v := .ref na) (C := RX9) (T := TX9) (N := 16) hx hb hts inX9 hown hK hP 0 rfl rfl 0 (by decide) f7 (fun _ h9 => h9) rfl dX9_removeTask_55 ?_
    refine lv_iconst (v := nI (0)) hx hb dX9_removeTask_58 (by decide) ?_
    refine xr_iald hx hb hK hP 1 0 rfl rfl (by omega) (Nat.le_of_ble_eq_true rfl) (v := iZ ((upZ (upZ sn 0 ((T - 1 : Nat) : Int)) (2 + (T - 1)) ((0 : Nat) : Int)) 0)) rfl dX9_removeTask_59 ?_
    refine xr_top (y := nI (T - 1)) (by rw [iZ_n, upZ_n (by omega), upZ_s]) ?_
    refine xr_iadd hx hb dX9_removeTask_60 ?_
    refine lv_iconst (v := nI (0)) hx hb dX9_removeTask_61 (by decide) ?_
    refine xr_iast hx hb hK hP hD hS 1 0 rfl rfl (by omega) (Nat.le_of_ble_eq_true rfl) (zF (upZ (upZ (upZ sn 0 ((T - 1 : Nat) : Int)) (2 + (T - 1)) ((0 : Nat) : Int)) (22 + (T - 1)) ((0 : Nat) : Int))) (fun _ _ => zF_upn _ _ _ _) dX9_removeTask_62 (fun H locs hP hD hS => ?_)
    have hP : va_P D vwCl [(mo, .inr (9, [.ref na, .ref nb, .ref nc, .ref nd, .int (bI (ms)), .int (nI k121), .ref ne, .int (nI my), .int (nI 0), .int (nI mp), .ref nf, .ref ng, .ref nh, .ref ni, .ref nj, .ref nl])), (na, .inl (ca 0, 442, .inl (zF (upZ (upZ (upZ sn 0 ((T - 1 : Nat) : Int)) (2 + (T - 1)) ((0 : Nat) : Int)) (22 + (T - 1)) ((0 : Nat) : Int))))), (nc, .inl (ca 0, 2210, .inl (zF pa121)))] H := hP
    have hD : va_D A [(mo, .inr (9, [.ref na, .ref nb, .ref nc, .ref nd, .int (bI (ms)), .int (nI k121), .ref ne, .int (nI my), .int (nI 0), .int (nI mp), .ref nf, .ref ng, .ref nh, .ref ni, .ref nj, .ref nl])), (na, .inl (ca 0, 442, .inl (zF (upZ (upZ (upZ sn 0 ((T - 1 : Nat) : Int)) (2 + (T - 1)) ((0 : Nat) : Int)) (22 + (T - 1)) ((0 : Nat) : Int))))), (nc, .inl (ca 0, 2210, .inl (zF pa121)))] := hD
    refine lv_iconst (v := nI (0)) hx hb dX9_removeTask_63 (by decide) ?_
    refine lv_istore_n (lv' := [(1, .int (nI 0)), (0, .ref mo)]) hx hb dX9_removeTask_64 rfl hl (by decide) rfl (fun ls hl => ?_)
    have L65 : ∀ (fu : Nat) (k : Nat) (sv2 : Nat → Int), (k ≤ 20) → (MS sv2 (T - 1) C L N (rlG G (T - 1) k)) → (20 - k) < fu → ∀ (H : Heap) (locs : List Loc), va_P D vwCl [(mo, .inr (9, [.ref na, .ref nb, .ref nc, .ref nd, .int (bI (ms)), .int (nI k121), .ref ne, .int (nI my), .int (nI 0), .int (nI mp), .ref nf, .ref ng, .ref nh, .ref ni, .ref nj, .ref nl])), (na, .inl (ca 0, 442, .inl (zF sv2))), (nc, .inl (ca 0, 2210, .inl (zF pa121)))] H → va_D A [(mo, .inr (9, [.ref na, .ref nb, .ref nc, .ref nd, .int (bI (ms)), .int (nI k121), .ref ne, .int (nI my), .int (nI 0), .int (nI mp), .ref nf, .ref ng, .ref nh, .ref ni, .ref nj, .ref nl])), (na, .inl (ca 0, 442, .inl (zF sv2))), (nc, .inl (ca 0, 2210, .inl (zF pa121)))] → va_S A s.heap H locs → ∀ ls : Array Slot, lv_has ls 2 [(1, .int (nI k)), (0, .ref mo)] → W pG l eV rX9_removeTask s mI args below meth cO H locs 0 0 Q (F0 mI 65 ls []) := by
      clear hP hD hS hl
      intro fu; induction fu with
      | zero => intro k sv2 hk hMS hmu; exact absurd hmu (Nat.not_lt_zero _)
      | succ n65 ih65 =>
        intro k sv2 hk hMS hmu65 H locs hP hD hS ls hl
        refine lv_iload_n hx hb dX9_removeTask_65 rfl (lv_at hl 0 rfl) ?_
        refine lv_bipush (v := nI (20)) hx hb dX9_removeTask_66 (by decide) ?_
        refine lv_icmp_ge (tgt := 117) hx hb dX9_removeTask_68 (by decide) (fun h68 => ?_) (fun h68 => ?_)
        · skip
          have h68 := (cL (nI_toInt (by omega)) (nI_toInt (by omega))).mp h68
          have e9 : k = 20 := by omega
          subst e9
          refine lv_aload_n hx hb dX9_removeTask_117 rfl (lv_at hl 1 rfl) ?_
          refine va_get (D := D) (ci := 9) (v := .ref na) (C := RX9) (T := TX9) (N := 16) hx hb hts inX9 hown hK hP 0 rfl rfl 0 (by decide) f7 (fun _ h9 => h9) rfl dX9_removeTask_118 ?_
          refine xk_pi (xk_S (As := [.ref na]) (rest := []) ⟨hx, hb, hml, hown, hts⟩ (mX9_links l D ca H.size na sv2 (T - 1) C L N (rlG G (T - 1) 20) hMS (rlG_ok hG)) (va_cwS 1 hts gX9_removeTask_X9_links rfl rfl rfl (by decide +kernel) ⟨Nat.le_of_ble_eq_true rfl, Nat.le_of_ble_eq_true rfl⟩) hK hP hD [1] rfl rfl rfl hl.1 rfl (Nat.le_of_ble_eq_true rfl) dX9_removeTask_121 ⟨Nat.le_of_ble_eq_true rfl, Nat.le_of_ble_eq_true rfl⟩) hP hD hS hA [1] rfl ⟨rfl, rfl⟩ (fun r121 H locs hw121 hP hS => ?_)
          have hw121 : r121 = iZ (lnk (rlG G (T - 1) 20)) := hw121
          subst hw121
          rw [← hE]
          exact xe_i (0, k121, sv2, pa121) hx hb hr hlocks hK hP hD hS (⟨(kRem_0 (T := T) (by omega)).symm, fun _ => ⟨by rw [lnk_rm (by omega) hac hGo, hEn], MS_gcong hMS (rl_all (by omega) hac hGo), hw21⟩, fun h9 => absurd (kRem_0 (T := T) (by omega)) h9⟩) dX9_removeTask_124
        · skip
          have h68 := (not_congr (cL (nI_toInt (by omega)) (nI_toInt (by omega)))).mp h68
          refine lv_aload_n hx hb dX9_removeTask_71 rfl (lv_at hl 1 rfl) ?_
          refine va_get (D := D) (ci := 9) (v := .ref na) (C := RX9) (T := TX9) (N := 16) hx hb hts inX9 hown hK hP 0 rfl rfl 0 (by decide) f7 (fun _ h9 => h9) rfl dX9_removeTask_72 ?_
          refine lv_bipush (v := nI (42)) hx hb dX9_removeTask_75 (by decide) ?_
          refine lv_bipush (v := nI (20)) hx hb dX9_removeTask_77 (by decide) ?_
          refine lv_iload_n hx hb dX9_removeTask_79 rfl (lv_at hl 0 rfl) ?_
          refine xr_imul hx hb dX9_removeTask_80 ?_
          refine xr_iadd hx hb dX9_removeTask_81 ?_
          refine lv_aload_n hx hb dX9_removeTask_82 rfl (lv_at hl 1 rfl) ?_
          refine va_get (D := D) (ci := 9) (v := .ref na) (C := RX9) (T := TX9) (N := 16) hx hb hts inX9 hown hK hP 0 rfl rfl 0 (by decide) f7 (fun _ h9 => h9) rfl dX9_removeTask_83 ?_
          refine lv_iconst (v := nI (0)) hx hb dX9_removeTask_86 (by decide) ?_
          refine xr_iald hx hb hK hP 1 0 rfl rfl (by omega) (Nat.le_of_ble_eq_true rfl) (v := iZ (sv2 0)) rfl dX9_removeTask_87 ?_
          refine xr_top (y := nI (T - 1)) (by rw [iZ_n]; exact congrArg iZ hMS.1) ?_
          refine xr_iadd hx hb dX9_removeTask_88 ?_
          refine lv_iconst (v := iZ (-1)) hx hb dX9_removeTask_89 (by decide) ?_
          refine xr_iast hx hb hK hP hD hS 1 0 rfl rfl (by omega) (Nat.le_of_ble_eq_true rfl) (zF (upZ sv2 ((42 + (20 * k)) + (T - 1)) (-1))) (fun _ _ => zF_up _ _ _ _) dX9_removeTask_90 (fun H locs hP hD hS => ?_)
          have hP : va_P D vwCl [(mo, .inr (9, [.ref na, .ref nb, .ref nc, .ref nd, .int (bI (ms)), .int (nI k121), .ref ne, .int (nI my), .int (nI 0), .int (nI mp), .ref nf, .ref ng, .ref nh, .ref ni, .ref nj, .ref nl])), (na, .inl (ca 0, 442, .inl (zF (upZ sv2 ((42 + (20 * k)) + (T - 1)) (-1))))), (nc, .inl (ca 0, 2210, .inl (zF pa121)))] H := hP
          have hD : va_D A [(mo, .inr (9, [.ref na, .ref nb, .ref nc, .ref nd, .int (bI (ms)), .int (nI k121), .ref ne, .int (nI my), .int (nI 0), .int (nI mp), .ref nf, .ref ng, .ref nh, .ref ni, .ref nj, .ref nl])), (na, .inl (ca 0, 442, .inl (zF (upZ sv2 ((42 + (20 * k)) + (T - 1)) (-1))))), (nc, .inl (ca 0, 2210, .inl (zF pa121)))] := hD
          refine lv_aload_n hx hb dX9_removeTask_91 rfl (lv_at hl 1 rfl) ?_
          refine va_get (D := D) (ci := 9) (v := .ref na) (C := RX9) (T := TX9) (N := 16) hx hb hts inX9 hown hK hP 0 rfl rfl 0 (by decide) f7 (fun _ h9 => h9) rfl dX9_removeTask_92 ?_
          refine lv_bipush (v := nI (42)) hx hb dX9_removeTask_95 (by decide) ?_
          refine lv_bipush (v := nI (20)) hx hb dX9_removeTask_97 (by decide) ?_
          refine lv_aload_n hx hb dX9_removeTask_99 rfl (lv_at hl 1 rfl) ?_
          refine va_get (D := D) (ci := 9) (v := .ref na) (C := RX9) (T := TX9) (N := 16) hx hb hts inX9 hown hK hP 0 rfl rfl 0 (by decide) f7 (fun _ h9 => h9) rfl dX9_removeTask_100 ?_
          refine lv_iconst (v := nI (0)) hx hb dX9_removeTask_103 (by decide) ?_
          refine xr_iald hx hb hK hP 1 0 rfl rfl (by omega) (Nat.le_of_ble_eq_true rfl) (v := iZ ((upZ sv2 ((42 + (20 * k)) + (T - 1)) (-1)) 0)) rfl dX9_removeTask_104 ?_
          refine xr_top (y := nI (T - 1)) (by rw [iZ_n, upZ_n (by omega)]; exact congrArg iZ hMS.1) ?_
          refine xr_imul hx hb dX9_removeTask_105 ?_
          refine xr_iadd hx hb dX9_removeTask_106 ?_
          refine lv_iload_n hx hb dX9_removeTask_107 rfl (lv_at hl 0 rfl) ?_
          refine xr_iadd hx hb dX9_removeTask_108 ?_
          refine lv_iconst (v := iZ (-1)) hx hb dX9_removeTask_109 (by decide) ?_
          refine xr_iast hx hb hK hP hD hS 1 0 rfl rfl (by omega) (Nat.le_of_ble_eq_true rfl) (zF (upZ (upZ sv2 ((42 + (20 * k)) + (T - 1)) (-1)) ((42 + (20 * (T - 1))) + k) (-1))) (fun _ _ => zF_up _ _ _ _) dX9_removeTask_110 (fun H locs hP hD hS => ?_)
          have hP : va_P D vwCl [(mo, .inr (9, [.ref na, .ref nb, .ref nc, .ref nd, .int (bI (ms)), .int (nI k121), .ref ne, .int (nI my), .int (nI 0), .int (nI mp), .ref nf, .ref ng, .ref nh, .ref ni, .ref nj, .ref nl])), (na, .inl (ca 0, 442, .inl (zF (upZ (upZ sv2 ((42 + (20 * k)) + (T - 1)) (-1)) ((42 + (20 * (T - 1))) + k) (-1))))), (nc, .inl (ca 0, 2210, .inl (zF pa121)))] H := hP
          have hD : va_D A [(mo, .inr (9, [.ref na, .ref nb, .ref nc, .ref nd, .int (bI (ms)), .int (nI k121), .ref ne, .int (nI my), .int (nI 0), .int (nI mp), .ref nf, .ref ng, .ref nh, .ref ni, .ref nj, .ref nl])), (na, .inl (ca 0, 442, .inl (zF (upZ (upZ sv2 ((42 + (20 * k)) + (T - 1)) (-1)) ((42 + (20 * (T - 1))) + k) (-1))))), (nc, .inl (ca 0, 2210, .inl (zF pa121)))] := hD
          refine lv_iinc (v := nI (k + 1)) (lv' := [(1, .int (nI (k + 1))), (0, .ref mo)]) hx hb dX9_removeTask_111 hl (k := 0) rfl (nI_add _ 1) (by decide) rfl (fun ls hl => ?_)
          refine lv_goto (tgt := 65) hx hb dX9_removeTask_114 (by decide) ?_
          exact ih65 (k + 1) (upZ (upZ sv2 ((42 + (20 * k)) + (T - 1)) (-1)) ((42 + (20 * (T - 1))) + k) (-1)) (by omega) (by have h9 := MS_upG (i := T - 1) (j := k) (x := -1) (MS_upG (i := k) (j := T - 1) (x := -1) hMS (by omega) (by omega) (by omega)) (by omega) (by omega) (by omega); rw [rl_s2] at h9; exact h9) (by omega) _ _ hP hD hS _ (lv_sub hl [0, 1] rfl)
    exact L65 _ 0 (upZ (upZ (upZ sn 0 ((T - 1 : Nat) : Int)) (2 + (T - 1)) ((0 : Nat) : Int)) (22 + (T - 1)) ((0 : Nat) : Int)) (by omega) (MS_rm hM (by omega)) (Nat.lt_succ_self _) _ _ hP hD hS _ (lv_sub hl [0, 1] rfl)
  · skip
    have h11 := (cE (iZ_toInt (by omega) (by omega)) z0_toInt).mp h11
    refine lv_aload_n hx hb dX9_removeTask_14 rfl (lv_at hl 0 rfl) ?_
    refine lv_iconst (v := nI (1)) hx hb dX9_removeTask_15 (by decide) ?_
    refine xk_i [(na, .inl (ca 0, 442, .inl (zF sn))), (nc, .inl (ca 0, 2210, .inl (zF pa)))] (fun u => [(mo, .inr (9, [.ref na, .ref nb, .ref nc, .ref nd, .int (bI (ms)), .int (nI mk), .ref ne, .int (nI my), .int (nI 1), .int (nI mp), .ref nf, .ref ng, .ref nh, .ref ni, .ref nj, .ref nl])), (na, .inl (ca 0, 442, .inl (zF sn))), (nc, .inl (ca 0, 2210, .inl (zF pa)))]) (xk_V (As := [.int (nI 1)]) (rest := []) ⟨hx, hb, hml, hown, hts⟩ (mX9_fails l D ca H.size mo na nb nc nd ne nf ng nh ni nj nl ms mk my 0 mp 1 ) (cwV 1 hts gX9_removeTask_X9_fails rfl rfl rfl (by decide +kernel) ⟨Nat.le_of_ble_eq_true rfl, Nat.le_of_ble_eq_true rfl⟩) hK hP hD (va_recv (q := (RX9, TX9, 16)) hK hP (ci := 9) (q0 := 0) rfl rfl) [0] rfl rfl rfl hl.1 rfl (Nat.le_of_ble_eq_true rfl) dX9_removeTask_16 ⟨Nat.le_of_ble_eq_true rfl, Nat.le_of_ble_eq_true rfl⟩) hP hD hS hA [0] [1, 2] [2, 0, 1] rfl rfl rfl rfl (fun _ => rfl) rfl (fun r16 u16 H locs hw16 hP hD hS => ?_)
    have hw16 : r16 = nI 0 := hw16
    have hP : va_P D vwCl [(mo, .inr (9, [.ref na, .ref nb, .ref nc, .ref nd, .int (bI (ms)), .int (nI mk), .ref ne, .int (nI my), .int (nI 1), .int (nI mp), .ref nf, .ref ng, .ref nh, .ref ni, .ref nj, .ref nl])), (na, .inl (ca 0, 442, .inl (zF sn))), (nc, .inl (ca 0, 2210, .inl (zF pa)))] H := hP
    have hD : va_D A [(mo, .inr (9, [.ref na, .ref nb, .ref nc, .ref nd, .int (bI (ms)), .int (nI mk), .ref ne, .int (nI my), .int (nI 1), .int (nI mp), .ref nf, .ref ng, .ref nh, .ref ni, .ref nj, .ref nl])), (na, .inl (ca 0, 442, .inl (zF sn))), (nc, .inl (ca 0, 2210, .inl (zF pa)))] := hD
    have hwr16 := hw16
    subst hwr16
    rw [← hE]
    exact xe_i (1, mk, sn, pa) hx hb hr hlocks hK hP hD hS (⟨(kRem_1 (by omega)).symm, fun h9 => absurd (h9.symm.trans (kRem_1 (by omega))) (by decide), fun _ => ⟨rfl, rfl, rfl⟩⟩) dX9_removeTask_19
def rX9_setLength : Room := { frames := 2, cells := 0, slots := 0, locals := 45 }
set_option maxHeartbeats 4000000 in
set_option maxRecDepth 100000 in
theorem mX9_setLength (l : Launch) (D : va_G) (ca : Nat → ClassId) (sz : Nat) (mo : Nat) (na : Nat) (nb : Nat) (nc : Nat) (nd : Nat) (ne : Nat) (nf : Nat) (ng : Nat) (nh : Nat) (ni : Nat) (nj : Nat) (nl : Nat) (ms : Bool) (mk : Nat) (my : Nat) (mt : Nat) (mp : Nat) (sn : Nat → Int) (T : Nat) (En : Int) (C : Int) (L : Nat → Int) (N : Nat → Int) (G : Nat → Nat → Int) (pa : Nat → Int) (e : Nat → Int) (t : Int32) (p : Int32) (hV : PSV T En C L N G) (hM : MS sn T C L N G) (hmk : mk ≤ 5) : MM l yX9_setLength wsX9_setLength rX9_setLength D ca [.ref mo, .int (t), .int (p)] sz [(mo, .inr (9, [.ref na, .ref nb, .ref nc, .ref nd, .int (bI (ms)), .int (nI mk), .ref ne, .int (nI my), .int (nI mt), .int (nI mp), .ref nf, .ref ng, .ref nh, .ref ni, .ref nj, .ref nl])), (na, .inl (ca 0, 442, .inl (zF sn))), (nc, .inl (ca 0, 2210, .inl (zF pa))), (nf, .inl (ca 0, 20, .inl (zF e)))] (QI D ca (fun (r : Int32) (u : Nat × Nat × (Nat → Int) × (Nat → Int) × (Nat → Int)) => u.1 = kLen T t p ∧ (kLen T t p = 0 → r = iZ (span G T (upZ L (tI t) p.toInt)) ∧ MS u.2.2.1 T C (upZ L (tI t) p.toInt) N G ∧ KS mk pa sn u.2.1 u.2.2.2.1) ∧ (¬ kLen T t p = 0 → u.2.2.1 = sn ∧ u.2.1 = mk ∧ u.2.2.2.1 = pa)) (fun u => [(mo, .inr (9, [.ref na, .ref nb, .ref nc, .ref nd, .int (bI (ms)), .int (nI u.2.1), .ref ne, .int (nI my), .int (nI u.1), .int (nI mp), .ref nf, .ref ng, .ref nh, .ref ni, .ref nj, .ref nl])), (na, .inl (ca 0, 442, .inl (zF u.2.2.1))), (nc, .inl (ca 0, 2210, .inl (zF u.2.2.2.1))), (nf, .inl (ca 0, 20, .inl (zF u.2.2.2.2)))])) := by
  refine MM_of (cc := cX9_setLength) (maxL := 3) (ret := (some .int)) (lv0 := [(0, .ref mo), (1, .int (t)), (2, .int (p))]) RX9 (by decide) rfl rfl (Nat.le_of_ble_eq_true rfl) rfl ?_
  intro pG eV s mI args below meth cO hx hb hr hml hts hown hlocks hnm A hA H locs hsz hP hK hD hS Q hE ls hl
  have f7 := hts (.fieldLink RX9 7 "SlackPlanModel" "now" "[I") (List.mem_of_getElem? (i := 1) rfl)
  have inX9 : ∀ w ∈ u_ws RX9 TX9 16, w ∈ wsX9_setLength := in_r _ [29, 30, 31, 32, 33, 34, 35, 36, 37, 38, 39, 40, 41, 42, 43, 44] rfl
  obtain ⟨hT, hC9, hL30, hNk, hG, hac, hGo, hEn, hE40⟩ := hV
  have hLk := L30_LOK hL30
  have hs0 := hM.1
  have hs1 := hM.2.1
  refine lv_aload_n hx hb dX9_setLength_0 rfl (lv_at hl 0 rfl) ?_
  refine lv_iload_n hx hb dX9_setLength_1 rfl (lv_at hl 1 rfl) ?_
  refine xk_i [(nc, .inl (ca 0, 2210, .inl (zF pa))), (nf, .inl (ca 0, 20, .inl (zF e)))] (fun u => [(mo, .inr (9, [.ref na, .ref nb, .ref nc, .ref nd, .int (bI (ms)), .int (nI mk), .ref ne, .int (nI my), .int (nI u), .int (nI mp), .ref nf, .ref ng, .ref nh, .ref ni, .ref nj, .ref nl])), (na, .inl (ca 0, 442, .inl (zF sn))), (nc, .inl (ca 0, 2210, .inl (zF pa))), (nf, .inl (ca 0, 20, .inl (zF e)))]) (xk_V (As := [.int (t)]) (rest := []) ⟨hx, hb, hml, hown, hts⟩ (mX9_isTask l D ca H.size mo na nb nc nd ne nf ng nh ni nj nl ms mk my mt mp sn T t (by omega) hs0) (cwV 1 hts gX9_setLength_X9_isTask rfl rfl rfl (by decide +kernel) ⟨Nat.le_of_ble_eq_true rfl, Nat.le_of_ble_eq_true rfl⟩) hK hP hD (va_recv (q := (RX9, TX9, 16)) hK hP (ci := 9) (q0 := 0) rfl rfl) [0, 1] rfl rfl rfl hl.1 rfl (Nat.le_of_ble_eq_true rfl) dX9_setLength_2 ⟨Nat.le_of_ble_eq_true rfl, Nat.le_of_ble_eq_true rfl⟩) hP hD hS hA [0, 1] [2, 3] [2, 3, 0, 1] rfl rfl rfl rfl (fun _ => rfl) rfl (fun r2 u2 H locs hw2 hP hD hS => ?_)
  obtain ⟨t12, hu2⟩ : ∃ z, z = u2 := ⟨_, rfl⟩
  subst hu2
  have hw2 : r2 = bI (hasB T t) ∧ t12 = kTa T t := hw2
  have hP : va_P D vwCl [(mo, .inr (9, [.ref na, .ref nb, .ref nc, .ref nd, .int (bI (ms)), .int (nI mk), .ref ne, .int (nI my), .int (nI t12), .int (nI mp), .ref nf, .ref ng, .ref nh, .ref ni, .ref nj, .ref nl])), (na, .inl (ca 0, 442, .inl (zF sn))), (nc, .inl (ca 0, 2210, .inl (zF pa))), (nf, .inl (ca 0, 20, .inl (zF e)))] H := hP
  have hD : va_D A [(mo, .inr (9, [.ref na, .ref nb, .ref nc, .ref nd, .int (bI (ms)), .int (nI mk), .ref ne, .int (nI my), .int (nI t12), .int (nI mp), .ref nf, .ref ng, .ref nh, .ref ni, .ref nj, .ref nl])), (na, .inl (ca 0, 442, .inl (zF sn))), (nc, .inl (ca 0, 2210, .inl (zF pa))), (nf, .inl (ca 0, 20, .inl (zF e)))] := hD
  obtain ⟨hwr2, hv2⟩ := hw2
  subst hwr2
  refine lv_if_ne (tgt := 10) hx hb dX9_setLength_5 (by decide) (fun h5 => ?_) (fun h5 => ?_)
  · skip
    have h5 := bI_n0.mp h5
    obtain ⟨ht1, he1⟩ := hasB_ex h5
    have e9 : (t) = nI (tI t) := he1
    have hl : lv_has ls 3 [(0, .ref mo), (1, .int (nI (tI t))), (2, .int (p))] := by rw [← e9]; exact hl
    refine lv_iload_n hx hb dX9_setLength_10 rfl (lv_at hl 2 rfl) ?_
    refine lv_iconst (v := nI (0)) hx hb dX9_setLength_11 (by decide) ?_
    refine lv_bipush (v := nI (30)) hx hb dX9_setLength_12 (by decide) ?_
    refine xk_pi (xk_S (As := [.int (p), .int (nI 0), .int (nI 30)]) (rest := []) ⟨hx, hb, hml, hown, hts⟩ (mX9_in l D ca H.size p (nI (0)) (nI (30)) ) (va_cwS 3 hts gX9_setLength_X9_in rfl rfl rfl (by decide +kernel) ⟨Nat.le_of_ble_eq_true rfl, Nat.le_of_ble_eq_true rfl⟩) hK hP hD [] rfl rfl rfl hl.1 rfl (Nat.le_of_ble_eq_true rfl) dX9_setLength_14 ⟨Nat.le_of_ble_eq_true rfl, Nat.le_of_ble_eq_true rfl⟩) hP hD hS hA [] rfl ⟨rfl, rfl⟩ (fun r14 H locs hw14 hP hS => ?_)
    have hw14 : r14 = bI (inB p (nI (0)) (nI (30))) := hw14
    subst hw14
    refine lv_if_ne (tgt := 26) hx hb dX9_setLength_17 (by decide) (fun h17 => ?_) (fun h17 => ?_)
    · skip
      have h17 := bI_n0.mp h17
      have h17 := (in_rng (a := 0) (b := 30) (by omega) (by omega)).mp h17
      refine lv_aload_n hx hb dX9_setLength_26 rfl (lv_at hl 0 rfl) ?_
      refine xk_v [(nf, .inl (ca 0, 20, .inl (zF e)))] (fun u => [(mo, .inr (9, [.ref na, .ref nb, .ref nc, .ref nd, .int (bI (ms)), .int (nI u.1), .ref ne, .int (nI my), .int (nI t12), .int (nI mp), .ref nf, .ref ng, .ref nh, .ref ni, .ref nj, .ref nl])), (na, .inl (ca 0, 442, .inl (zF sn))), (nc, .inl (ca 0, 2210, .inl (zF u.2))), (nf, .inl (ca 0, 20, .inl (zF e)))]) (xk_V (As := []) (rest := []) ⟨hx, hb, hml, hown, hts⟩ (mX9_keepsState l D ca H.size mo na nb nc nd ne nf ng nh ni nj nl ms mk my t12 mp sn pa (by omega)) (cwV 0 hts gX9_setLength_X9_keepsState rfl rfl rfl (by decide +kernel) ⟨Nat.le_of_ble_eq_true rfl, Nat.le_of_ble_eq_true rfl⟩) hK hP hD (va_recv (q := (RX9, TX9, 16)) hK hP (ci := 9) (q0 := 0) rfl rfl) [0, 1, 2] rfl rfl rfl hl.1 rfl (Nat.le_of_ble_eq_true rfl) dX9_setLength_27 ⟨Nat.le_of_ble_eq_true rfl, Nat.le_of_ble_eq_true rfl⟩) hP hD hS hA [0, 1, 2] [3] [1, 2, 3, 0] rfl rfl rfl rfl (fun _ => rfl) rfl (fun u27 H locs hw27 hP hD hS => ?_)
      obtain ⟨k127, pa127⟩ := u27
      have hw27 : k127 = (if mk = 5 then 5 else mk + 1) ∧ pa127 = cpF sn 0 (if mk = 5 then shF pa 1768 else pa) (442 * (if mk = 5 then 4 else mk)) 442 := hw27
      have hP : va_P D vwCl [(mo, .inr (9, [.ref na, .ref nb, .ref nc, .ref nd, .int (bI (ms)), .int (nI k127), .ref ne, .int (nI my), .int (nI t12), .int (nI mp), .ref nf, .ref ng, .ref nh, .ref ni, .ref nj, .ref nl])), (na, .inl (ca 0, 442, .inl (zF sn))), (nc, .inl (ca 0, 2210, .inl (zF pa127))), (nf, .inl (ca 0, 20, .inl (zF e)))] H := hP
      have hD : va_D A [(mo, .inr (9, [.ref na, .ref nb, .ref nc, .ref nd, .int (bI (ms)), .int (nI k127), .ref ne, .int (nI my), .int (nI t12), .int (nI mp), .ref nf, .ref ng, .ref nh, .ref ni, .ref nj, .ref nl])), (na, .inl (ca 0, 442, .inl (zF sn))), (nc, .inl (ca 0, 2210, .inl (zF pa127))), (nf, .inl (ca 0, 20, .inl (zF e)))] := hD
      refine lv_aload_n hx hb dX9_setLength_30 rfl (lv_at hl 0 rfl) ?_
      refine va_get (D := D) (ci := 9) (v := .ref na) (C := RX9) (T := TX9) (N := 16) hx hb hts inX9 hown hK hP 0 rfl rfl 0 (by decide) f7 (fun _ h9 => h9) rfl dX9_setLength_31 ?_
      refine lv_iconst (v := nI (2)) hx hb dX9_setLength_34 (by decide) ?_
      refine lv_iload_n hx hb dX9_setLength_35 rfl (lv_at hl 1 rfl) ?_
      refine xr_iadd hx hb dX9_setLength_36 ?_
      have e9 : (p) = iZ (p.toInt) := (iZ_toI p)
      have hl : lv_has ls 3 [(0, .ref mo), (1, .int (nI (tI t))), (2, .int (iZ p.toInt))] := by rw [← e9]; exact hl
      refine lv_iload_n hx hb dX9_setLength_37 rfl (lv_at hl 2 rfl) ?_
      refine xr_iast hx hb hK hP hD hS 1 0 rfl rfl (by omega) (Nat.le_of_ble_eq_true rfl) (zF (upZ sn (2 + (tI t)) p.toInt)) (fun _ _ => zF_up _ _ _ _) dX9_setLength_38 (fun H locs hP hD hS => ?_)
      have hP : va_P D vwCl [(mo, .inr (9, [.ref na, .ref nb, .ref nc, .ref nd, .int (bI (ms)), .int (nI k127), .ref ne, .int (nI my), .int (nI t12), .int (nI mp), .ref nf, .ref ng, .ref nh, .ref ni, .ref nj, .ref nl])), (na, .inl (ca 0, 442, .inl (zF (upZ sn (2 + (tI t)) p.toInt)))), (nc, .inl (ca 0, 2210, .inl (zF pa127))), (nf, .inl (ca 0, 20, .inl (zF e)))] H := hP
      have hD : va_D A [(mo, .inr (9, [.ref na, .ref nb, .ref nc, .ref nd, .int (bI (ms)), .int (nI k127), .ref ne, .int (nI my), .int (nI t12), .int (nI mp), .ref nf, .ref ng, .ref nh, .ref ni, .ref nj, .ref nl])), (na, .inl (ca 0, 442, .inl (zF (upZ sn (2 + (tI t)) p.toInt)))), (nc, .inl (ca 0, 2210, .inl (zF pa127))), (nf, .inl (ca 0, 20, .inl (zF e)))] := hD
      refine lv_aload_n hx hb dX9_setLength_39 rfl (lv_at hl 0 rfl) ?_
      refine lv_aload_n hx hb dX9_setLength_40 rfl (lv_at hl 0 rfl) ?_
      refine va_get (D := D) (ci := 9) (v := .ref na) (C := RX9) (T := TX9) (N := 16) hx hb hts inX9 hown hK hP 0 rfl rfl 0 (by decide) f7 (fun _ h9 => h9) rfl dX9_setLength_41 ?_
      refine xk_i [(nc, .inl (ca 0, 2210, .inl (zF pa127)))] (fun u => [(mo, .inr (9, [.ref na, .ref nb, .ref nc, .ref nd, .int (bI (ms)), .int (nI k127), .ref ne, .int (nI my), .int (nI t12), .int (nI mp), .ref nf, .ref ng, .ref nh, .ref ni, .ref nj, .ref nl])), (na, .inl (ca 0, 442, .inl (zF (upZ sn (2 + (tI t)) p.toInt)))), (nc, .inl (ca 0, 2210, .inl (zF pa127))), (nf, .inl (ca 0, 20, .inl (zF u)))]) (xk_V (As := [.ref na]) (rest := []) ⟨hx, hb, hml, hown, hts⟩ (mX9_starts l D ca H.size mo na nb nc nd ne nf ng nh ni nj nl ms k127 my t12 mp na (upZ sn (2 + (tI t)) p.toInt) e T C (upZ L (tI t) p.toInt) N G (by omega) hG hac hGo (MS_up2 hM hT ht1) (L30_LOK (L30_up hL30 (by omega)))) (cwV 1 hts gX9_setLength_X9_starts rfl rfl rfl (by decide +kernel) ⟨Nat.le_of_ble_eq_true rfl, Nat.le_of_ble_eq_true rfl⟩) hK hP hD (va_recv (q := (RX9, TX9, 16)) hK hP (ci := 9) (q0 := 0) rfl rfl) [0, 3, 1] rfl rfl rfl hl.1 rfl (Nat.le_of_ble_eq_true rfl) dX9_setLength_44 ⟨Nat.le_of_ble_eq_true rfl, Nat.le_of_ble_eq_true rfl⟩) hP hD hS hA [0, 3, 1] [2] [1, 3, 0, 2] rfl rfl rfl rfl (fun _ => rfl) rfl (fun r44 u44 H locs hw44 hP hD hS => ?_)
      obtain ⟨e144, hu44⟩ : ∃ z, z = u44 := ⟨_, rfl⟩
      subst hu44
      have hw44 : r44 = iZ (span G T (upZ L (tI t) p.toInt)) ∧ ∀ j, j < T → e144 j = es G T (upZ L (tI t) p.toInt) j := hw44
      have hP : va_P D vwCl [(mo, .inr (9, [.ref na, .ref nb, .ref nc, .ref nd, .int (bI (ms)), .int (nI k127), .ref ne, .int (nI my), .int (nI t12), .int (nI mp), .ref nf, .ref ng, .ref nh, .ref ni, .ref nj, .ref nl])), (na, .inl (ca 0, 442, .inl (zF (upZ sn (2 + (tI t)) p.toInt)))), (nc, .inl (ca 0, 2210, .inl (zF pa127))), (nf, .inl (ca 0, 20, .inl (zF e144)))] H := hP
      have hD : va_D A [(mo, .inr (9, [.ref na, .ref nb, .ref nc, .ref nd, .int (bI (ms)), .int (nI k127), .ref ne, .int (nI my), .int (nI t12), .int (nI mp), .ref nf, .ref ng, .ref nh, .ref ni, .ref nj, .ref nl])), (na, .inl (ca 0, 442, .inl (zF (upZ sn (2 + (tI t)) p.toInt)))), (nc, .inl (ca 0, 2210, .inl (zF pa127))), (nf, .inl (ca 0, 20, .inl (zF e144)))] := hD
      obtain ⟨hwr44, hv44⟩ := hw44
      subst hwr44
      rw [← hE]
      exact xe_i (t12, k127, (upZ sn (2 + (tI t)) p.toInt), pa127, e144) hx hb hr hlocks hK hP hD hS (⟨(hv2.trans (kTa_t h5)).trans (kLen_0 (p := p) h5 (by omega)).symm, fun _ => ⟨rfl, MS_up2 hM hT ht1, hw27⟩, fun h9 => absurd (kLen_0 (p := p) h5 (by omega)) h9⟩) dX9_setLength_47
    · skip
      have h17 := bI_0.mp h17
      have h17 := (in_rngf (a := 0) (b := 30) (by omega) (by omega)).mp h17
      refine lv_aload_n hx hb dX9_setLength_20 rfl (lv_at hl 0 rfl) ?_
      refine lv_iconst (v := nI (2)) hx hb dX9_setLength_21 (by decide) ?_
      refine xk_i [(na, .inl (ca 0, 442, .inl (zF sn))), (nc, .inl (ca 0, 2210, .inl (zF pa))), (nf, .inl (ca 0, 20, .inl (zF e)))] (fun u => [(mo, .inr (9, [.ref na, .ref nb, .ref nc, .ref nd, .int (bI (ms)), .int (nI mk), .ref ne, .int (nI my), .int (nI 2), .int (nI mp), .ref nf, .ref ng, .ref nh, .ref ni, .ref nj, .ref nl])), (na, .inl (ca 0, 442, .inl (zF sn))), (nc, .inl (ca 0, 2210, .inl (zF pa))), (nf, .inl (ca 0, 20, .inl (zF e)))]) (xk_V (As := [.int (nI 2)]) (rest := []) ⟨hx, hb, hml, hown, hts⟩ (mX9_fails l D ca H.size mo na nb nc nd ne nf ng nh ni nj nl ms mk my t12 mp 2 ) (cwV 1 hts gX9_setLength_X9_fails rfl rfl rfl (by decide +kernel) ⟨Nat.le_of_ble_eq_true rfl, Nat.le_of_ble_eq_true rfl⟩) hK hP hD (va_recv (q := (RX9, TX9, 16)) hK hP (ci := 9) (q0 := 0) rfl rfl) [0] rfl rfl rfl hl.1 rfl (Nat.le_of_ble_eq_true rfl) dX9_setLength_22 ⟨Nat.le_of_ble_eq_true rfl, Nat.le_of_ble_eq_true rfl⟩) hP hD hS hA [0] [1, 2, 3] [3, 0, 1, 2] rfl rfl rfl rfl (fun _ => rfl) rfl (fun r22 u22 H locs hw22 hP hD hS => ?_)
      have hw22 : r22 = nI 0 := hw22
      have hP : va_P D vwCl [(mo, .inr (9, [.ref na, .ref nb, .ref nc, .ref nd, .int (bI (ms)), .int (nI mk), .ref ne, .int (nI my), .int (nI 2), .int (nI mp), .ref nf, .ref ng, .ref nh, .ref ni, .ref nj, .ref nl])), (na, .inl (ca 0, 442, .inl (zF sn))), (nc, .inl (ca 0, 2210, .inl (zF pa))), (nf, .inl (ca 0, 20, .inl (zF e)))] H := hP
      have hD : va_D A [(mo, .inr (9, [.ref na, .ref nb, .ref nc, .ref nd, .int (bI (ms)), .int (nI mk), .ref ne, .int (nI my), .int (nI 2), .int (nI mp), .ref nf, .ref ng, .ref nh, .ref ni, .ref nj, .ref nl])), (na, .inl (ca 0, 442, .inl (zF sn))), (nc, .inl (ca 0, 2210, .inl (zF pa))), (nf, .inl (ca 0, 20, .inl (zF e)))] := hD
      have hwr22 := hw22
      subst hwr22
      rw [← hE]
      exact xe_i (2, mk, sn, pa, e) hx hb hr hlocks hK hP hD hS (⟨(kLen_2 h5 (by omega)).symm, fun h9 => absurd (h9.symm.trans (kLen_2 h5 (by omega))) (by decide), fun _ => ⟨rfl, rfl, rfl⟩⟩) dX9_setLength_25
  · skip
    have h5 := bI_0.mp h5
    refine lv_iconst (v := nI (0)) hx hb dX9_setLength_8 (by decide) ?_
    rw [← hE]
    exact xe_i (t12, mk, sn, pa, e) hx hb hr hlocks hK hP hD hS (⟨hv2.trans ((kTa_f h5).trans (kLen_1 (p := p) h5).symm), fun h9 => absurd (h9.symm.trans (kLen_1 h5)) (by decide), fun _ => ⟨rfl, rfl, rfl⟩⟩) dX9_setLength_9
def rX9_depend : Room := { frames := 2, cells := 0, slots := 0, locals := 45 }
set_option maxHeartbeats 4000000 in
set_option maxRecDepth 100000 in
theorem mX9_depend (l : Launch) (D : va_G) (ca : Nat → ClassId) (sz : Nat) (mo : Nat) (na : Nat) (nb : Nat) (nc : Nat) (nd : Nat) (ne : Nat) (nf : Nat) (ng : Nat) (nh : Nat) (ni : Nat) (nj : Nat) (nl : Nat) (ms : Bool) (mk : Nat) (my : Nat) (mt : Nat) (mp : Nat) (sn : Nat → Int) (T : Nat) (En : Int) (C : Int) (L : Nat → Int) (N : Nat → Int) (G : Nat → Nat → Int) (pa : Nat → Int) (e : Nat → Int) (t : Int32) (t2 : Int32) (p : Int32) (hV : PSV T En C L N G) (hM : MS sn T C L N G) (hmk : mk ≤ 5) : MM l yX9_depend wsX9_depend rX9_depend D ca [.ref mo, .int (t), .int (t2), .int (p)] sz [(mo, .inr (9, [.ref na, .ref nb, .ref nc, .ref nd, .int (bI (ms)), .int (nI mk), .ref ne, .int (nI my), .int (nI mt), .int (nI mp), .ref nf, .ref ng, .ref nh, .ref ni, .ref nj, .ref nl])), (na, .inl (ca 0, 442, .inl (zF sn))), (nc, .inl (ca 0, 2210, .inl (zF pa))), (nf, .inl (ca 0, 20, .inl (zF e)))] (QI D ca (fun (r : Int32) (u : Nat × Nat × (Nat → Int) × (Nat → Int) × (Nat → Int)) => u.1 = kDep T En G t t2 p ∧ (kDep T En G t t2 p = 0 → r = iZ (span (upG G (tI t) (tI t2) p.toInt) T L) ∧ MS u.2.2.1 T C L N (upG G (tI t) (tI t2) p.toInt) ∧ KS mk pa sn u.2.1 u.2.2.2.1) ∧ (¬ kDep T En G t t2 p = 0 → u.2.2.1 = sn ∧ u.2.1 = mk ∧ u.2.2.2.1 = pa)) (fun u => [(mo, .inr (9, [.ref na, .ref nb, .ref nc, .ref nd, .int (bI (ms)), .int (nI u.2.1), .ref ne, .int (nI my), .int (nI u.1), .int (nI mp), .ref nf, .ref ng, .ref nh, .ref ni, .ref nj, .ref nl])), (na, .inl (ca 0, 442, .inl (zF u.2.2.1))), (nc, .inl (ca 0, 2210, .inl (zF u.2.2.2.1))), (nf, .inl (ca 0, 20, .inl (zF u.2.2.2.2)))])) := by
  refine MM_of (cc := cX9_depend) (maxL := 4) (ret := (some .int)) (lv0 := [(0, .ref mo), (1, .int (t)), (2, .int (t2)), (3, .int (p))]) RX9 (by decide) rfl rfl (Nat.le_of_ble_eq_true rfl) rfl ?_
  intro pG eV s mI args below meth cO hx hb hr hml hts hown hlocks hnm A hA H locs hsz hP hK hD hS Q hE ls hl
  have f7 := hts (.fieldLink RX9 7 "SlackPlanModel" "now" "[I") (List.mem_of_getElem? (i := 1) rfl)
  have inX9 : ∀ w ∈ u_ws RX9 TX9 16, w ∈ wsX9_depend := in_r _ [38, 39, 40, 41, 42, 43, 44, 45, 46, 47, 48, 49, 50, 51, 52, 53] rfl
  obtain ⟨hT, hC9, hL30, hNk, hG, hac, hGo, hEn, hE40⟩ := hV
  have hLk := L30_LOK hL30
  have hs0 := hM.1
  have hs1 := hM.2.1
  refine lv_aload_n hx hb dX9_depend_0 rfl (lv_at hl 0 rfl) ?_
  refine lv_iload_n hx hb dX9_depend_1 rfl (lv_at hl 1 rfl) ?_
  refine lv_iload_n hx hb dX9_depend_2 rfl (lv_at hl 2 rfl) ?_
  refine xk_i [(nc, .inl (ca 0, 2210, .inl (zF pa))), (nf, .inl (ca 0, 20, .inl (zF e)))] (fun u => [(mo, .inr (9, [.ref na, .ref nb, .ref nc, .ref nd, .int (bI (ms)), .int (nI mk), .ref ne, .int (nI my), .int (nI u), .int (nI mp), .ref nf, .ref ng, .ref nh, .ref ni, .ref nj, .ref nl])), (na, .inl (ca 0, 442, .inl (zF sn))), (nc, .inl (ca 0, 2210, .inl (zF pa))), (nf, .inl (ca 0, 20, .inl (zF e)))]) (xk_V (As := [.int (t), .int (t2)]) (rest := []) ⟨hx, hb, hml, hown, hts⟩ (mX9_are l D ca H.size mo na nb nc nd ne nf ng nh ni nj nl ms mk my mt mp sn T t t2 (by omega) hs0) (cwV 2 hts gX9_depend_X9_are rfl rfl rfl (by decide +kernel) ⟨Nat.le_of_ble_eq_true rfl, Nat.le_of_ble_eq_true rfl⟩) hK hP hD (va_recv (q := (RX9, TX9, 16)) hK hP (ci := 9) (q0 := 0) rfl rfl) [0, 1] rfl rfl rfl hl.1 rfl (Nat.le_of_ble_eq_true rfl) dX9_depend_3 ⟨Nat.le_of_ble_eq_true rfl, Nat.le_of_ble_eq_true rfl⟩) hP hD hS hA [0, 1] [2, 3] [2, 3, 0, 1] rfl rfl rfl rfl (fun _ => rfl) rfl (fun r3 u3 H locs hw3 hP hD hS => ?_)
  obtain ⟨t13, hu3⟩ : ∃ z, z = u3 := ⟨_, rfl⟩
  subst hu3
  have hw3 : r3 = bI (decide (hasB T t = true ∧ hasB T t2 = true)) ∧ t13 = kTb T t t2 := hw3
  have hP : va_P D vwCl [(mo, .inr (9, [.ref na, .ref nb, .ref nc, .ref nd, .int (bI (ms)), .int (nI mk), .ref ne, .int (nI my), .int (nI t13), .int (nI mp), .ref nf, .ref ng, .ref nh, .ref ni, .ref nj, .ref nl])), (na, .inl (ca 0, 442, .inl (zF sn))), (nc, .inl (ca 0, 2210, .inl (zF pa))), (nf, .inl (ca 0, 20, .inl (zF e)))] H := hP
  have hD : va_D A [(mo, .inr (9, [.ref na, .ref nb, .ref nc, .ref nd, .int (bI (ms)), .int (nI mk), .ref ne, .int (nI my), .int (nI t13), .int (nI mp), .ref nf, .ref ng, .ref nh, .ref ni, .ref nj, .ref nl])), (na, .inl (ca 0, 442, .inl (zF sn))), (nc, .inl (ca 0, 2210, .inl (zF pa))), (nf, .inl (ca 0, 20, .inl (zF e)))] := hD
  obtain ⟨hwr3, hv3⟩ := hw3
  subst hwr3
  refine lv_if_ne (tgt := 11) hx hb dX9_depend_6 (by decide) (fun h6 => ?_) (fun h6 => ?_)
  · skip
    have h6 := bI_n0.mp h6
    have hbt := (decide_eq_true_iff).mp h6
    obtain ⟨ht1, he1⟩ := hasB_ex hbt.1
    obtain ⟨ht2, he2⟩ := hasB_ex hbt.2
    have e9 : (t) = nI (tI t) := he1
    have hl : lv_has ls 4 [(0, .ref mo), (1, .int (nI (tI t))), (2, .int (t2)), (3, .int (p))] := by rw [← e9]; exact hl
    have e9 : (t2) = nI (tI t2) := he2
    have hl : lv_has ls 4 [(0, .ref mo), (1, .int (nI (tI t))), (2, .int (nI (tI t2))), (3, .int (p))] := by rw [← e9]; exact hl
    refine lv_iload_n hx hb dX9_depend_11 rfl (lv_at hl 3 rfl) ?_
    refine lv_iconst (v := nI (0)) hx hb dX9_depend_12 (by decide) ?_
    refine lv_bipush (v := nI (9)) hx hb dX9_depend_13 (by decide) ?_
    refine xk_pi (xk_S (As := [.int (p), .int (nI 0), .int (nI 9)]) (rest := []) ⟨hx, hb, hml, hown, hts⟩ (mX9_in l D ca H.size p (nI (0)) (nI (9)) ) (va_cwS 3 hts gX9_depend_X9_in rfl rfl rfl (by decide +kernel) ⟨Nat.le_of_ble_eq_true rfl, Nat.le_of_ble_eq_true rfl⟩) hK hP hD [] rfl rfl rfl hl.1 rfl (Nat.le_of_ble_eq_true rfl) dX9_depend_15 ⟨Nat.le_of_ble_eq_true rfl, Nat.le_of_ble_eq_true rfl⟩) hP hD hS hA [] rfl ⟨rfl, rfl⟩ (fun r15 H locs hw15 hP hS => ?_)
    have hw15 : r15 = bI (inB p (nI (0)) (nI (9))) := hw15
    subst hw15
    refine lv_if_eq (tgt := 26) hx hb dX9_depend_18 (by decide) (fun h18 => ?_) (fun h18 => ?_)
    · skip
      have h18 := bI_0.mp h18
      have h18 := (in_rngf (a := 0) (b := 9) (by omega) (by omega)).mp h18
      refine lv_aload_n hx hb dX9_depend_26 rfl (lv_at hl 0 rfl) ?_
      refine lv_iconst (v := nI (2)) hx hb dX9_depend_27 (by decide) ?_
      refine xk_i [(na, .inl (ca 0, 442, .inl (zF sn))), (nc, .inl (ca 0, 2210, .inl (zF pa))), (nf, .inl (ca 0, 20, .inl (zF e)))] (fun u => [(mo, .inr (9, [.ref na, .ref nb, .ref nc, .ref nd, .int (bI (ms)), .int (nI mk), .ref ne, .int (nI my), .int (nI 2), .int (nI mp), .ref nf, .ref ng, .ref nh, .ref ni, .ref nj, .ref nl])), (na, .inl (ca 0, 442, .inl (zF sn))), (nc, .inl (ca 0, 2210, .inl (zF pa))), (nf, .inl (ca 0, 20, .inl (zF e)))]) (xk_V (As := [.int (nI 2)]) (rest := []) ⟨hx, hb, hml, hown, hts⟩ (mX9_fails l D ca H.size mo na nb nc nd ne nf ng nh ni nj nl ms mk my t13 mp 2 ) (cwV 1 hts gX9_depend_X9_fails rfl rfl rfl (by decide +kernel) ⟨Nat.le_of_ble_eq_true rfl, Nat.le_of_ble_eq_true rfl⟩) hK hP hD (va_recv (q := (RX9, TX9, 16)) hK hP (ci := 9) (q0 := 0) rfl rfl) [0] rfl rfl rfl hl.1 rfl (Nat.le_of_ble_eq_true rfl) dX9_depend_28 ⟨Nat.le_of_ble_eq_true rfl, Nat.le_of_ble_eq_true rfl⟩) hP hD hS hA [0] [1, 2, 3] [3, 0, 1, 2] rfl rfl rfl rfl (fun _ => rfl) rfl (fun r28 u28 H locs hw28 hP hD hS => ?_)
      have hw28 : r28 = nI 0 := hw28
      have hP : va_P D vwCl [(mo, .inr (9, [.ref na, .ref nb, .ref nc, .ref nd, .int (bI (ms)), .int (nI mk), .ref ne, .int (nI my), .int (nI 2), .int (nI mp), .ref nf, .ref ng, .ref nh, .ref ni, .ref nj, .ref nl])), (na, .inl (ca 0, 442, .inl (zF sn))), (nc, .inl (ca 0, 2210, .inl (zF pa))), (nf, .inl (ca 0, 20, .inl (zF e)))] H := hP
      have hD : va_D A [(mo, .inr (9, [.ref na, .ref nb, .ref nc, .ref nd, .int (bI (ms)), .int (nI mk), .ref ne, .int (nI my), .int (nI 2), .int (nI mp), .ref nf, .ref ng, .ref nh, .ref ni, .ref nj, .ref nl])), (na, .inl (ca 0, 442, .inl (zF sn))), (nc, .inl (ca 0, 2210, .inl (zF pa))), (nf, .inl (ca 0, 20, .inl (zF e)))] := hD
      have hwr28 := hw28
      subst hwr28
      rw [← hE]
      exact xe_i (2, mk, sn, pa, e) hx hb hr hlocks hK hP hD hS (⟨(kDep_2 hbt (Or.inl (by omega))).symm, fun h9 => absurd (h9.symm.trans (kDep_2 hbt (Or.inl (by omega)))) (by decide), fun _ => ⟨rfl, rfl, rfl⟩⟩) dX9_depend_31
    · skip
      have h18 := bI_n0.mp h18
      have h18 := (in_rng (a := 0) (b := 9) (by omega) (by omega)).mp h18
      refine lv_iload_n hx hb dX9_depend_21 rfl (lv_at hl 1 rfl) ?_
      refine lv_iload_n hx hb dX9_depend_22 rfl (lv_at hl 2 rfl) ?_
      refine lv_icmp_ne (tgt := 32) hx hb dX9_depend_23 (by decide) (fun h23 => ?_) (fun h23 => ?_)
      · skip
        have h23 := (not_congr (cE (nI_toInt (by omega)) (nI_toInt (by omega)))).mp h23
        refine lv_aload_n hx hb dX9_depend_32 rfl (lv_at hl 0 rfl) ?_
        refine va_get (D := D) (ci := 9) (v := .ref na) (C := RX9) (T := TX9) (N := 16) hx hb hts inX9 hown hK hP 0 rfl rfl 0 (by decide) f7 (fun _ h9 => h9) rfl dX9_depend_33 ?_
        refine xk_pi (xk_S (As := [.ref na]) (rest := []) ⟨hx, hb, hml, hown, hts⟩ (mX9_links l D ca H.size na sn T C L N G hM hG) (va_cwS 1 hts gX9_depend_X9_links rfl rfl rfl (by decide +kernel) ⟨Nat.le_of_ble_eq_true rfl, Nat.le_of_ble_eq_true rfl⟩) hK hP hD [1] rfl rfl rfl hl.1 rfl (Nat.le_of_ble_eq_true rfl) dX9_depend_36 ⟨Nat.le_of_ble_eq_true rfl, Nat.le_of_ble_eq_true rfl⟩) hP hD hS hA [1] rfl ⟨rfl, rfl⟩ (fun r36 H locs hw36 hP hS => ?_)
        have hw36 : r36 = iZ (lnk G) := hw36
        subst hw36
        have hb0 := lnk_nn G
        refine lv_bipush (v := nI (40)) hx hb dX9_depend_39 (by decide) ?_
        refine lv_icmp_ne (tgt := 56) hx hb dX9_depend_41 (by decide) (fun h41 => ?_) (fun h41 => ?_)
        · skip
          have h41 := (not_congr (cE (iZ_toInt (by omega) (by omega)) (nI_toInt (by omega)))).mp h41
          refine lv_aload_n hx hb dX9_depend_56 rfl (lv_at hl 0 rfl) ?_
          refine va_get (D := D) (ci := 9) (v := .ref na) (C := RX9) (T := TX9) (N := 16) hx hb hts inX9 hown hK hP 0 rfl rfl 0 (by decide) f7 (fun _ h9 => h9) rfl dX9_depend_57 ?_
          refine lv_iload_n hx hb dX9_depend_60 rfl (lv_at hl 2 rfl) ?_
          refine lv_iload_n hx hb dX9_depend_61 rfl (lv_at hl 1 rfl) ?_
          refine xk_pi (xk_S (As := [.ref na, .int (nI (tI t2)), .int (nI (tI t))]) (rest := []) ⟨hx, hb, hml, hown, hts⟩ (mX9_ahead l D ca H.size na sn T C L N G (tI t2) (tI t) (by omega) hG hac hGo hM (by omega)) (va_cwS 3 hts gX9_depend_X9_ahead rfl rfl rfl (by decide +kernel) ⟨Nat.le_of_ble_eq_true rfl, Nat.le_of_ble_eq_true rfl⟩) hK hP hD [1] rfl rfl rfl hl.1 rfl (Nat.le_of_ble_eq_true rfl) dX9_depend_62 ⟨Nat.le_of_ble_eq_true rfl, Nat.le_of_ble_eq_true rfl⟩) hP hD hS hA [1] rfl ⟨rfl, rfl⟩ (fun r62 H locs hw62 hP hS => ?_)
          have hw62 : r62 = bI (ahB G T (tI t2) (tI t)) := hw62
          subst hw62
          refine lv_if_eq (tgt := 74) hx hb dX9_depend_65 (by decide) (fun h65 => ?_) (fun h65 => ?_)
          · skip
            have h65 := bI_0.mp h65
            refine lv_aload_n hx hb dX9_depend_74 rfl (lv_at hl 0 rfl) ?_
            refine xk_v [(nf, .inl (ca 0, 20, .inl (zF e)))] (fun u => [(mo, .inr (9, [.ref na, .ref nb, .ref nc, .ref nd, .int (bI (ms)), .int (nI u.1), .ref ne, .int (nI my), .int (nI t13), .int (nI mp), .ref nf, .ref ng, .ref nh, .ref ni, .ref nj, .ref nl])), (na, .inl (ca 0, 442, .inl (zF sn))), (nc, .inl (ca 0, 2210, .inl (zF u.2))), (nf, .inl (ca 0, 20, .inl (zF e)))]) (xk_V (As := []) (rest := []) ⟨hx, hb, hml, hown, hts⟩ (mX9_keepsState l D ca H.size mo na nb nc nd ne nf ng nh ni nj nl ms mk my t13 mp sn pa (by omega)) (cwV 0 hts gX9_depend_X9_keepsState rfl rfl rfl (by decide +kernel) ⟨Nat.le_of_ble_eq_true rfl, Nat.le_of_ble_eq_true rfl⟩) hK hP hD (va_recv (q := (RX9, TX9, 16)) hK hP (ci := 9) (q0 := 0) rfl rfl) [0, 1, 2] rfl rfl rfl hl.1 rfl (Nat.le_of_ble_eq_true rfl) dX9_depend_75 ⟨Nat.le_of_ble_eq_true rfl, Nat.le_of_ble_eq_true rfl⟩) hP hD hS hA [0, 1, 2] [3] [1, 2, 3, 0] rfl rfl rfl rfl (fun _ => rfl) rfl (fun u75 H locs hw75 hP hD hS => ?_)
            obtain ⟨k175, pa175⟩ := u75
            have hw75 : k175 = (if mk = 5 then 5 else mk + 1) ∧ pa175 = cpF sn 0 (if mk = 5 then shF pa 1768 else pa) (442 * (if mk = 5 then 4 else mk)) 442 := hw75
            have hP : va_P D vwCl [(mo, .inr (9, [.ref na, .ref nb, .ref nc, .ref nd, .int (bI (ms)), .int (nI k175), .ref ne, .int (nI my), .int (nI t13), .int (nI mp), .ref nf, .ref ng, .ref nh, .ref ni, .ref nj, .ref nl])), (na, .inl (ca 0, 442, .inl (zF sn))), (nc, .inl (ca 0, 2210, .inl (zF pa175))), (nf, .inl (ca 0, 20, .inl (zF e)))] H := hP
            have hD : va_D A [(mo, .inr (9, [.ref na, .ref nb, .ref nc, .ref nd, .int (bI (ms)), .int (nI k175), .ref ne, .int (nI my), .int (nI t13), .int (nI mp), .ref nf, .ref ng, .ref nh, .ref ni, .ref nj, .ref nl])), (na, .inl (ca 0, 442, .inl (zF sn))), (nc, .inl (ca 0, 2210, .inl (zF pa175))), (nf, .inl (ca 0, 20, .inl (zF e)))] := hD
            refine lv_aload_n hx hb dX9_depend_78 rfl (lv_at hl 0 rfl) ?_
            refine va_get (D := D) (ci := 9) (v := .ref na) (C := RX9) (T := TX9) (N := 16) hx hb hts inX9 hown hK hP 0 rfl rfl 0 (by decide) f7 (fun _ h9 => h9) rfl dX9_depend_79 ?_
            refine lv_bipush (v := nI (42)) hx hb dX9_depend_82 (by decide) ?_
            refine lv_bipush (v := nI (20)) hx hb dX9_depend_84 (by decide) ?_
            refine lv_iload_n hx hb dX9_depend_86 rfl (lv_at hl 1 rfl) ?_
            refine xr_imul hx hb dX9_depend_87 ?_
            refine xr_iadd hx hb dX9_depend_88 ?_
            refine lv_iload_n hx hb dX9_depend_89 rfl (lv_at hl 2 rfl) ?_
            refine xr_iadd hx hb dX9_depend_90 ?_
            have e9 : (p) = iZ (p.toInt) := (iZ_toI p)
            have hl : lv_has ls 4 [(0, .ref mo), (1, .int (nI (tI t))), (2, .int (nI (tI t2))), (3, .int (iZ p.toInt))] := by rw [← e9]; exact hl
            refine lv_iload_n hx hb dX9_depend_91 rfl (lv_at hl 3 rfl) ?_
            refine xr_iast hx hb hK hP hD hS 1 0 rfl rfl (by omega) (Nat.le_of_ble_eq_true rfl) (zF (upZ sn ((42 + (20 * (tI t))) + (tI t2)) p.toInt)) (fun _ _ => zF_up _ _ _ _) dX9_depend_92 (fun H locs hP hD hS => ?_)
            have hP : va_P D vwCl [(mo, .inr (9, [.ref na, .ref nb, .ref nc, .ref nd, .int (bI (ms)), .int (nI k175), .ref ne, .int (nI my), .int (nI t13), .int (nI mp), .ref nf, .ref ng, .ref nh, .ref ni, .ref nj, .ref nl])), (na, .inl (ca 0, 442, .inl (zF (upZ sn ((42 + (20 * (tI t))) + (tI t2)) p.toInt)))), (nc, .inl (ca 0, 2210, .inl (zF pa175))), (nf, .inl (ca 0, 20, .inl (zF e)))] H := hP
            have hD : va_D A [(mo, .inr (9, [.ref na, .ref nb, .ref nc, .ref nd, .int (bI (ms)), .int (nI k175), .ref ne, .int (nI my), .int (nI t13), .int (nI mp), .ref nf, .ref ng, .ref nh, .ref ni, .ref nj, .ref nl])), (na, .inl (ca 0, 442, .inl (zF (upZ sn ((42 + (20 * (tI t))) + (tI t2)) p.toInt)))), (nc, .inl (ca 0, 2210, .inl (zF pa175))), (nf, .inl (ca 0, 20, .inl (zF e)))] := hD
            have hac1 := ACY_put hac ht1 ht2 (x := p.toInt) (show tI t ≠ tI t2 by omega) h65
            have hG1 := upG_ok2 (i := tI t) (j := tI t2) hG (show -1 ≤ p.toInt ∧ p.toInt ≤ 9 by omega)
            refine lv_aload_n hx hb dX9_depend_93 rfl (lv_at hl 0 rfl) ?_
            refine lv_aload_n hx hb dX9_depend_94 rfl (lv_at hl 0 rfl) ?_
            refine va_get (D := D) (ci := 9) (v := .ref na) (C := RX9) (T := TX9) (N := 16) hx hb hts inX9 hown hK hP 0 rfl rfl 0 (by decide) f7 (fun _ h9 => h9) rfl dX9_depend_95 ?_
            refine xk_i [(nc, .inl (ca 0, 2210, .inl (zF pa175)))] (fun u => [(mo, .inr (9, [.ref na, .ref nb, .ref nc, .ref nd, .int (bI (ms)), .int (nI k175), .ref ne, .int (nI my), .int (nI t13), .int (nI mp), .ref nf, .ref ng, .ref nh, .ref ni, .ref nj, .ref nl])), (na, .inl (ca 0, 442, .inl (zF (upZ sn ((42 + (20 * (tI t))) + (tI t2)) p.toInt)))), (nc, .inl (ca 0, 2210, .inl (zF pa175))), (nf, .inl (ca 0, 20, .inl (zF u)))]) (xk_V (As := [.ref na]) (rest := []) ⟨hx, hb, hml, hown, hts⟩ (mX9_starts l D ca H.size mo na nb nc nd ne nf ng nh ni nj nl ms k175 my t13 mp na (upZ sn ((42 + (20 * (tI t))) + (tI t2)) p.toInt) e T C L N (upG G (tI t) (tI t2) p.toInt) (by omega) hG1 hac1 (GO_up hGo ht1 ht2) (MS_upG hM hT (by omega) (by omega)) hLk) (cwV 1 hts gX9_depend_X9_starts rfl rfl rfl (by decide +kernel) ⟨Nat.le_of_ble_eq_true rfl, Nat.le_of_ble_eq_true rfl⟩) hK hP hD (va_recv (q := (RX9, TX9, 16)) hK hP (ci := 9) (q0 := 0) rfl rfl) [0, 3, 1] rfl rfl rfl hl.1 rfl (Nat.le_of_ble_eq_true rfl) dX9_depend_98 ⟨Nat.le_of_ble_eq_true rfl, Nat.le_of_ble_eq_true rfl⟩) hP hD hS hA [0, 3, 1] [2] [1, 3, 0, 2] rfl rfl rfl rfl (fun _ => rfl) rfl (fun r98 u98 H locs hw98 hP hD hS => ?_)
            obtain ⟨e198, hu98⟩ : ∃ z, z = u98 := ⟨_, rfl⟩
            subst hu98
            have hw98 : r98 = iZ (span (upG G (tI t) (tI t2) p.toInt) T L) ∧ ∀ j, j < T → e198 j = es (upG G (tI t) (tI t2) p.toInt) T L j := hw98
            have hP : va_P D vwCl [(mo, .inr (9, [.ref na, .ref nb, .ref nc, .ref nd, .int (bI (ms)), .int (nI k175), .ref ne, .int (nI my), .int (nI t13), .int (nI mp), .ref nf, .ref ng, .ref nh, .ref ni, .ref nj, .ref nl])), (na, .inl (ca 0, 442, .inl (zF (upZ sn ((42 + (20 * (tI t))) + (tI t2)) p.toInt)))), (nc, .inl (ca 0, 2210, .inl (zF pa175))), (nf, .inl (ca 0, 20, .inl (zF e198)))] H := hP
            have hD : va_D A [(mo, .inr (9, [.ref na, .ref nb, .ref nc, .ref nd, .int (bI (ms)), .int (nI k175), .ref ne, .int (nI my), .int (nI t13), .int (nI mp), .ref nf, .ref ng, .ref nh, .ref ni, .ref nj, .ref nl])), (na, .inl (ca 0, 442, .inl (zF (upZ sn ((42 + (20 * (tI t))) + (tI t2)) p.toInt)))), (nc, .inl (ca 0, 2210, .inl (zF pa175))), (nf, .inl (ca 0, 20, .inl (zF e198)))] := hD
            obtain ⟨hwr98, hv98⟩ := hw98
            subst hwr98
            rw [← hE]
            exact xe_i (t13, k175, (upZ sn ((42 + (20 * (tI t))) + (tI t2)) p.toInt), pa175, e198) hx hb hr hlocks hK hP hD hS (⟨(hv3.trans (kTb_t h6)).trans (kDep_0 (En := En) (G := G) (p := p) hbt (by rintro (h9 | h9); (exact h9 (by omega)); exact h23 (by omega)) (by rintro (h9 | h9); (omega); (rw [h65] at h9; cases h9))).symm, fun _ => ⟨rfl, MS_upG hM hT (by omega) (by omega), hw75⟩, fun h9 => absurd (kDep_0 (En := En) (G := G) (p := p) hbt (by rintro (h9 | h9); (exact h9 (by omega)); exact h23 (by omega)) (by rintro (h9 | h9); (omega); (rw [h65] at h9; cases h9))) h9⟩) dX9_depend_101
          · skip
            have h65 := bI_n0.mp h65
            refine lv_aload_n hx hb dX9_depend_68 rfl (lv_at hl 0 rfl) ?_
            refine lv_iconst (v := nI (3)) hx hb dX9_depend_69 (by decide) ?_
            refine xk_i [(na, .inl (ca 0, 442, .inl (zF sn))), (nc, .inl (ca 0, 2210, .inl (zF pa))), (nf, .inl (ca 0, 20, .inl (zF e)))] (fun u => [(mo, .inr (9, [.ref na, .ref nb, .ref nc, .ref nd, .int (bI (ms)), .int (nI mk), .ref ne, .int (nI my), .int (nI 3), .int (nI mp), .ref nf, .ref ng, .ref nh, .ref ni, .ref nj, .ref nl])), (na, .inl (ca 0, 442, .inl (zF sn))), (nc, .inl (ca 0, 2210, .inl (zF pa))), (nf, .inl (ca 0, 20, .inl (zF e)))]) (xk_V (As := [.int (nI 3)]) (rest := []) ⟨hx, hb, hml, hown, hts⟩ (mX9_fails l D ca H.size mo na nb nc nd ne nf ng nh ni nj nl ms mk my t13 mp 3 ) (cwV 1 hts gX9_depend_X9_fails rfl rfl rfl (by decide +kernel) ⟨Nat.le_of_ble_eq_true rfl, Nat.le_of_ble_eq_true rfl⟩) hK hP hD (va_recv (q := (RX9, TX9, 16)) hK hP (ci := 9) (q0 := 0) rfl rfl) [0] rfl rfl rfl hl.1 rfl (Nat.le_of_ble_eq_true rfl) dX9_depend_70 ⟨Nat.le_of_ble_eq_true rfl, Nat.le_of_ble_eq_true rfl⟩) hP hD hS hA [0] [1, 2, 3] [3, 0, 1, 2] rfl rfl rfl rfl (fun _ => rfl) rfl (fun r70 u70 H locs hw70 hP hD hS => ?_)
            have hw70 : r70 = nI 0 := hw70
            have hP : va_P D vwCl [(mo, .inr (9, [.ref na, .ref nb, .ref nc, .ref nd, .int (bI (ms)), .int (nI mk), .ref ne, .int (nI my), .int (nI 3), .int (nI mp), .ref nf, .ref ng, .ref nh, .ref ni, .ref nj, .ref nl])), (na, .inl (ca 0, 442, .inl (zF sn))), (nc, .inl (ca 0, 2210, .inl (zF pa))), (nf, .inl (ca 0, 20, .inl (zF e)))] H := hP
            have hD : va_D A [(mo, .inr (9, [.ref na, .ref nb, .ref nc, .ref nd, .int (bI (ms)), .int (nI mk), .ref ne, .int (nI my), .int (nI 3), .int (nI mp), .ref nf, .ref ng, .ref nh, .ref ni, .ref nj, .ref nl])), (na, .inl (ca 0, 442, .inl (zF sn))), (nc, .inl (ca 0, 2210, .inl (zF pa))), (nf, .inl (ca 0, 20, .inl (zF e)))] := hD
            have hwr70 := hw70
            subst hwr70
            rw [← hE]
            exact xe_i (3, mk, sn, pa, e) hx hb hr hlocks hK hP hD hS (⟨(kDep_3 hbt (by rintro (h9 | h9); (exact h9 (by omega)); exact h23 (by omega)) (Or.inr h65)).symm, fun h9 => absurd (h9.symm.trans (kDep_3 hbt (by rintro (h9 | h9); (exact h9 (by omega)); exact h23 (by omega)) (Or.inr h65))) (by decide), fun _ => ⟨rfl, rfl, rfl⟩⟩) dX9_depend_73
        · skip
          have h41 := (cE (iZ_toInt (by omega) (by omega)) (nI_toInt (by omega))).mp h41
          refine lv_aload_n hx hb dX9_depend_44 rfl (lv_at hl 0 rfl) ?_
          refine va_get (D := D) (ci := 9) (v := .ref na) (C := RX9) (T := TX9) (N := 16) hx hb hts inX9 hown hK hP 0 rfl rfl 0 (by decide) f7 (fun _ h9 => h9) rfl dX9_depend_45 ?_
          refine lv_iload_n hx hb dX9_depend_48 rfl (lv_at hl 1 rfl) ?_
          refine lv_iload_n hx hb dX9_depend_49 rfl (lv_at hl 2 rfl) ?_
          refine xk_pi (xk_S (As := [.ref na, .int (nI (tI t)), .int (nI (tI t2))]) (rest := []) ⟨hx, hb, hml, hown, hts⟩ (mX9_lag l D ca H.size na sn T C L N G (tI t) (tI t2) hM (by omega)) (va_cwS 3 hts gX9_depend_X9_lag rfl rfl rfl (by decide +kernel) ⟨Nat.le_of_ble_eq_true rfl, Nat.le_of_ble_eq_true rfl⟩) hK hP hD [1] rfl rfl rfl hl.1 rfl (Nat.le_of_ble_eq_true rfl) dX9_depend_50 ⟨Nat.le_of_ble_eq_true rfl, Nat.le_of_ble_eq_true rfl⟩) hP hD hS hA [1] rfl ⟨rfl, rfl⟩ (fun r50 H locs hw50 hP hS => ?_)
          have hw50 : r50 = iZ (G (tI t) (tI t2)) := hw50
          subst hw50
          have hb1 := hG (tI t) (tI t2) (by omega) (by omega)
          refine lv_if_lt (tgt := 68) hx hb dX9_depend_53 (by decide) (fun h53 => ?_) (fun h53 => ?_)
          · skip
            have h53 := (cT (iZ_toInt (by omega) (by omega)) z0_toInt).mp h53
            refine lv_aload_n hx hb dX9_depend_68 rfl (lv_at hl 0 rfl) ?_
            refine lv_iconst (v := nI (3)) hx hb dX9_depend_69 (by decide) ?_
            refine xk_i [(na, .inl (ca 0, 442, .inl (zF sn))), (nc, .inl (ca 0, 2210, .inl (zF pa))), (nf, .inl (ca 0, 20, .inl (zF e)))] (fun u => [(mo, .inr (9, [.ref na, .ref nb, .ref nc, .ref nd, .int (bI (ms)), .int (nI mk), .ref ne, .int (nI my), .int (nI 3), .int (nI mp), .ref nf, .ref ng, .ref nh, .ref ni, .ref nj, .ref nl])), (na, .inl (ca 0, 442, .inl (zF sn))), (nc, .inl (ca 0, 2210, .inl (zF pa))), (nf, .inl (ca 0, 20, .inl (zF e)))]) (xk_V (As := [.int (nI 3)]) (rest := []) ⟨hx, hb, hml, hown, hts⟩ (mX9_fails l D ca H.size mo na nb nc nd ne nf ng nh ni nj nl ms mk my t13 mp 3 ) (cwV 1 hts gX9_depend_X9_fails rfl rfl rfl (by decide +kernel) ⟨Nat.le_of_ble_eq_true rfl, Nat.le_of_ble_eq_true rfl⟩) hK hP hD (va_recv (q := (RX9, TX9, 16)) hK hP (ci := 9) (q0 := 0) rfl rfl) [0] rfl rfl rfl hl.1 rfl (Nat.le_of_ble_eq_true rfl) dX9_depend_70 ⟨Nat.le_of_ble_eq_true rfl, Nat.le_of_ble_eq_true rfl⟩) hP hD hS hA [0] [1, 2, 3] [3, 0, 1, 2] rfl rfl rfl rfl (fun _ => rfl) rfl (fun r70 u70 H locs hw70 hP hD hS => ?_)
            have hw70 : r70 = nI 0 := hw70
            have hP : va_P D vwCl [(mo, .inr (9, [.ref na, .ref nb, .ref nc, .ref nd, .int (bI (ms)), .int (nI mk), .ref ne, .int (nI my), .int (nI 3), .int (nI mp), .ref nf, .ref ng, .ref nh, .ref ni, .ref nj, .ref nl])), (na, .inl (ca 0, 442, .inl (zF sn))), (nc, .inl (ca 0, 2210, .inl (zF pa))), (nf, .inl (ca 0, 20, .inl (zF e)))] H := hP
            have hD : va_D A [(mo, .inr (9, [.ref na, .ref nb, .ref nc, .ref nd, .int (bI (ms)), .int (nI mk), .ref ne, .int (nI my), .int (nI 3), .int (nI mp), .ref nf, .ref ng, .ref nh, .ref ni, .ref nj, .ref nl])), (na, .inl (ca 0, 442, .inl (zF sn))), (nc, .inl (ca 0, 2210, .inl (zF pa))), (nf, .inl (ca 0, 20, .inl (zF e)))] := hD
            have hwr70 := hw70
            subst hwr70
            rw [← hE]
            exact xe_i (3, mk, sn, pa, e) hx hb hr hlocks hK hP hD hS (⟨(kDep_3 hbt (by rintro (h9 | h9); (exact h9 (by omega)); exact h23 (by omega)) (Or.inl ⟨by omega, by omega⟩)).symm, fun h9 => absurd (h9.symm.trans (kDep_3 hbt (by rintro (h9 | h9); (exact h9 (by omega)); exact h23 (by omega)) (Or.inl ⟨by omega, by omega⟩))) (by decide), fun _ => ⟨rfl, rfl, rfl⟩⟩) dX9_depend_73
          · skip
            have h53 := (not_congr (cT (iZ_toInt (by omega) (by omega)) z0_toInt)).mp h53
            refine lv_aload_n hx hb dX9_depend_56 rfl (lv_at hl 0 rfl) ?_
            refine va_get (D := D) (ci := 9) (v := .ref na) (C := RX9) (T := TX9) (N := 16) hx hb hts inX9 hown hK hP 0 rfl rfl 0 (by decide) f7 (fun _ h9 => h9) rfl dX9_depend_57 ?_
            refine lv_iload_n hx hb dX9_depend_60 rfl (lv_at hl 2 rfl) ?_
            refine lv_iload_n hx hb dX9_depend_61 rfl (lv_at hl 1 rfl) ?_
            refine xk_pi (xk_S (As := [.ref na, .int (nI (tI t2)), .int (nI (tI t))]) (rest := []) ⟨hx, hb, hml, hown, hts⟩ (mX9_ahead l D ca H.size na sn T C L N G (tI t2) (tI t) (by omega) hG hac hGo hM (by omega)) (va_cwS 3 hts gX9_depend_X9_ahead rfl rfl rfl (by decide +kernel) ⟨Nat.le_of_ble_eq_true rfl, Nat.le_of_ble_eq_true rfl⟩) hK hP hD [1] rfl rfl rfl hl.1 rfl (Nat.le_of_ble_eq_true rfl) dX9_depend_62 ⟨Nat.le_of_ble_eq_true rfl, Nat.le_of_ble_eq_true rfl⟩) hP hD hS hA [1] rfl ⟨rfl, rfl⟩ (fun r62 H locs hw62 hP hS => ?_)
            have hw62 : r62 = bI (ahB G T (tI t2) (tI t)) := hw62
            subst hw62
            refine lv_if_eq (tgt := 74) hx hb dX9_depend_65 (by decide) (fun h65 => ?_) (fun h65 => ?_)
            · skip
              have h65 := bI_0.mp h65
              refine lv_aload_n hx hb dX9_depend_74 rfl (lv_at hl 0 rfl) ?_
              refine xk_v [(nf, .inl (ca 0, 20, .inl (zF e)))] (fun u => [(mo, .inr (9, [.ref na, .ref nb, .ref nc, .ref nd, .int (bI (ms)), .int (nI u.1), .ref ne, .int (nI my), .int (nI t13), .int (nI mp), .ref nf, .ref ng, .ref nh, .ref ni, .ref nj, .ref nl])), (na, .inl (ca 0, 442, .inl (zF sn))), (nc, .inl (ca 0, 2210, .inl (zF u.2))), (nf, .inl (ca 0, 20, .inl (zF e)))]) (xk_V (As := []) (rest := []) ⟨hx, hb, hml, hown, hts⟩ (mX9_keepsState l D ca H.size mo na nb nc nd ne nf ng nh ni nj nl ms mk my t13 mp sn pa (by omega)) (cwV 0 hts gX9_depend_X9_keepsState rfl rfl rfl (by decide +kernel) ⟨Nat.le_of_ble_eq_true rfl, Nat.le_of_ble_eq_true rfl⟩) hK hP hD (va_recv (q := (RX9, TX9, 16)) hK hP (ci := 9) (q0 := 0) rfl rfl) [0, 1, 2] rfl rfl rfl hl.1 rfl (Nat.le_of_ble_eq_true rfl) dX9_depend_75 ⟨Nat.le_of_ble_eq_true rfl, Nat.le_of_ble_eq_true rfl⟩) hP hD hS hA [0, 1, 2] [3] [1, 2, 3, 0] rfl rfl rfl rfl (fun _ => rfl) rfl (fun u75 H locs hw75 hP hD hS => ?_)
              obtain ⟨k175, pa175⟩ := u75
              have hw75 : k175 = (if mk = 5 then 5 else mk + 1) ∧ pa175 = cpF sn 0 (if mk = 5 then shF pa 1768 else pa) (442 * (if mk = 5 then 4 else mk)) 442 := hw75
              have hP : va_P D vwCl [(mo, .inr (9, [.ref na, .ref nb, .ref nc, .ref nd, .int (bI (ms)), .int (nI k175), .ref ne, .int (nI my), .int (nI t13), .int (nI mp), .ref nf, .ref ng, .ref nh, .ref ni, .ref nj, .ref nl])), (na, .inl (ca 0, 442, .inl (zF sn))), (nc, .inl (ca 0, 2210, .inl (zF pa175))), (nf, .inl (ca 0, 20, .inl (zF e)))] H := hP
              have hD : va_D A [(mo, .inr (9, [.ref na, .ref nb, .ref nc, .ref nd, .int (bI (ms)), .int (nI k175), .ref ne, .int (nI my), .int (nI t13), .int (nI mp), .ref nf, .ref ng, .ref nh, .ref ni, .ref nj, .ref nl])), (na, .inl (ca 0, 442, .inl (zF sn))), (nc, .inl (ca 0, 2210, .inl (zF pa175))), (nf, .inl (ca 0, 20, .inl (zF e)))] := hD
              refine lv_aload_n hx hb dX9_depend_78 rfl (lv_at hl 0 rfl) ?_
              refine va_get (D := D) (ci := 9) (v := .ref na) (C := RX9) (T := TX9) (N := 16) hx hb hts inX9 hown hK hP 0 rfl rfl 0 (by decide) f7 (fun _ h9 => h9) rfl dX9_depend_79 ?_
              refine lv_bipush (v := nI (42)) hx hb dX9_depend_82 (by decide) ?_
              refine lv_bipush (v := nI (20)) hx hb dX9_depend_84 (by decide) ?_
              refine lv_iload_n hx hb dX9_depend_86 rfl (lv_at hl 1 rfl) ?_
              refine xr_imul hx hb dX9_depend_87 ?_
              refine xr_iadd hx hb dX9_depend_88 ?_
              refine lv_iload_n hx hb dX9_depend_89 rfl (lv_at hl 2 rfl) ?_
              refine xr_iadd hx hb dX9_depend_90 ?_
              have e9 : (p) = iZ (p.toInt) := (iZ_toI p)
              have hl : lv_has ls 4 [(0, .ref mo), (1, .int (nI (tI t))), (2, .int (nI (tI t2))), (3, .int (iZ p.toInt))] := by rw [← e9]; exact hl
              refine lv_iload_n hx hb dX9_depend_91 rfl (lv_at hl 3 rfl) ?_
              refine xr_iast hx hb hK hP hD hS 1 0 rfl rfl (by omega) (Nat.le_of_ble_eq_true rfl) (zF (upZ sn ((42 + (20 * (tI t))) + (tI t2)) p.toInt)) (fun _ _ => zF_up _ _ _ _) dX9_depend_92 (fun H locs hP hD hS => ?_)
              have hP : va_P D vwCl [(mo, .inr (9, [.ref na, .ref nb, .ref nc, .ref nd, .int (bI (ms)), .int (nI k175), .ref ne, .int (nI my), .int (nI t13), .int (nI mp), .ref nf, .ref ng, .ref nh, .ref ni, .ref nj, .ref nl])), (na, .inl (ca 0, 442, .inl (zF (upZ sn ((42 + (20 * (tI t))) + (tI t2)) p.toInt)))), (nc, .inl (ca 0, 2210, .inl (zF pa175))), (nf, .inl (ca 0, 20, .inl (zF e)))] H := hP
              have hD : va_D A [(mo, .inr (9, [.ref na, .ref nb, .ref nc, .ref nd, .int (bI (ms)), .int (nI k175), .ref ne, .int (nI my), .int (nI t13), .int (nI mp), .ref nf, .ref ng, .ref nh, .ref ni, .ref nj, .ref nl])), (na, .inl (ca 0, 442, .inl (zF (upZ sn ((42 + (20 * (tI t))) + (tI t2)) p.toInt)))), (nc, .inl (ca 0, 2210, .inl (zF pa175))), (nf, .inl (ca 0, 20, .inl (zF e)))] := hD
              have hac1 := ACY_put hac ht1 ht2 (x := p.toInt) (show tI t ≠ tI t2 by omega) h65
              have hG1 := upG_ok2 (i := tI t) (j := tI t2) hG (show -1 ≤ p.toInt ∧ p.toInt ≤ 9 by omega)
              refine lv_aload_n hx hb dX9_depend_93 rfl (lv_at hl 0 rfl) ?_
              refine lv_aload_n hx hb dX9_depend_94 rfl (lv_at hl 0 rfl) ?_
              refine va_get (D := D) (ci := 9) (v := .ref na) (C := RX9) (T := TX9) (N := 16) hx hb hts inX9 hown hK hP 0 rfl rfl 0 (by decide) f7 (fun _ h9 => h9) rfl dX9_depend_95 ?_
              refine xk_i [(nc, .inl (ca 0, 2210, .inl (zF pa175)))] (fun u => [(mo, .inr (9, [.ref na, .ref nb, .ref nc, .ref nd, .int (bI (ms)), .int (nI k175), .ref ne, .int (nI my), .int (nI t13), .int (nI mp), .ref nf, .ref ng, .ref nh, .ref ni, .ref nj, .ref nl])), (na, .inl (ca 0, 442, .inl (zF (upZ sn ((42 + (20 * (tI t))) + (tI t2)) p.toInt)))), (nc, .inl (ca 0, 2210, .inl (zF pa175))), (nf, .inl (ca 0, 20, .inl (zF u)))]) (xk_V (As := [.ref na]) (rest := []) ⟨hx, hb, hml, hown, hts⟩ (mX9_starts l D ca H.size mo na nb nc nd ne nf ng nh ni nj nl ms k175 my t13 mp na (upZ sn ((42 + (20 * (tI t))) + (tI t2)) p.toInt) e T C L N (upG G (tI t) (tI t2) p.toInt) (by omega) hG1 hac1 (GO_up hGo ht1 ht2) (MS_upG hM hT (by omega) (by omega)) hLk) (cwV 1 hts gX9_depend_X9_starts rfl rfl rfl (by decide +kernel) ⟨Nat.le_of_ble_eq_true rfl, Nat.le_of_ble_eq_true rfl⟩) hK hP hD (va_recv (q := (RX9, TX9, 16)) hK hP (ci := 9) (q0 := 0) rfl rfl) [0, 3, 1] rfl rfl rfl hl.1 rfl (Nat.le_of_ble_eq_true rfl) dX9_depend_98 ⟨Nat.le_of_ble_eq_true rfl, Nat.le_of_ble_eq_true rfl⟩) hP hD hS hA [0, 3, 1] [2] [1, 3, 0, 2] rfl rfl rfl rfl (fun _ => rfl) rfl (fun r98 u98 H locs hw98 hP hD hS => ?_)
              obtain ⟨e198, hu98⟩ : ∃ z, z = u98 := ⟨_, rfl⟩
              subst hu98
              have hw98 : r98 = iZ (span (upG G (tI t) (tI t2) p.toInt) T L) ∧ ∀ j, j < T → e198 j = es (upG G (tI t) (tI t2) p.toInt) T L j := hw98
              have hP : va_P D vwCl [(mo, .inr (9, [.ref na, .ref nb, .ref nc, .ref nd, .int (bI (ms)), .int (nI k175), .ref ne, .int (nI my), .int (nI t13), .int (nI mp), .ref nf, .ref ng, .ref nh, .ref ni, .ref nj, .ref nl])), (na, .inl (ca 0, 442, .inl (zF (upZ sn ((42 + (20 * (tI t))) + (tI t2)) p.toInt)))), (nc, .inl (ca 0, 2210, .inl (zF pa175))), (nf, .inl (ca 0, 20, .inl (zF e198)))] H := hP
              have hD : va_D A [(mo, .inr (9, [.ref na, .ref nb, .ref nc, .ref nd, .int (bI (ms)), .int (nI k175), .ref ne, .int (nI my), .int (nI t13), .int (nI mp), .ref nf, .ref ng, .ref nh, .ref ni, .ref nj, .ref nl])), (na, .inl (ca 0, 442, .inl (zF (upZ sn ((42 + (20 * (tI t))) + (tI t2)) p.toInt)))), (nc, .inl (ca 0, 2210, .inl (zF pa175))), (nf, .inl (ca 0, 20, .inl (zF e198)))] := hD
              obtain ⟨hwr98, hv98⟩ := hw98
              subst hwr98
              rw [← hE]
              exact xe_i (t13, k175, (upZ sn ((42 + (20 * (tI t))) + (tI t2)) p.toInt), pa175, e198) hx hb hr hlocks hK hP hD hS (⟨(hv3.trans (kTb_t h6)).trans (kDep_0 (En := En) (G := G) (p := p) hbt (by rintro (h9 | h9); (exact h9 (by omega)); exact h23 (by omega)) (by rintro (h9 | h9); (omega); (rw [h65] at h9; cases h9))).symm, fun _ => ⟨rfl, MS_upG hM hT (by omega) (by omega), hw75⟩, fun h9 => absurd (kDep_0 (En := En) (G := G) (p := p) hbt (by rintro (h9 | h9); (exact h9 (by omega)); exact h23 (by omega)) (by rintro (h9 | h9); (omega); (rw [h65] at h9; cases h9))) h9⟩) dX9_depend_101
            · skip
              have h65 := bI_n0.mp h65
              refine lv_aload_n hx hb dX9_depend_68 rfl (lv_at hl 0 rfl) ?_
              refine lv_iconst (v := nI (3)) hx hb dX9_depend_69 (by decide) ?_
              refine xk_i [(na, .inl (ca 0, 442, .inl (zF sn))), (nc, .inl (ca 0, 2210, .inl (zF pa))), (nf, .inl (ca 0, 20, .inl (zF e)))] (fun u => [(mo, .inr (9, [.ref na, .ref nb, .ref nc, .ref nd, .int (bI (ms)), .int (nI mk), .ref ne, .int (nI my), .int (nI 3), .int (nI mp), .ref nf, .ref ng, .ref nh, .ref ni, .ref nj, .ref nl])), (na, .inl (ca 0, 442, .inl (zF sn))), (nc, .inl (ca 0, 2210, .inl (zF pa))), (nf, .inl (ca 0, 20, .inl (zF e)))]) (xk_V (As := [.int (nI 3)]) (rest := []) ⟨hx, hb, hml, hown, hts⟩ (mX9_fails l D ca H.size mo na nb nc nd ne nf ng nh ni nj nl ms mk my t13 mp 3 ) (cwV 1 hts gX9_depend_X9_fails rfl rfl rfl (by decide +kernel) ⟨Nat.le_of_ble_eq_true rfl, Nat.le_of_ble_eq_true rfl⟩) hK hP hD (va_recv (q := (RX9, TX9, 16)) hK hP (ci := 9) (q0 := 0) rfl rfl) [0] rfl rfl rfl hl.1 rfl (Nat.le_of_ble_eq_true rfl) dX9_depend_70 ⟨Nat.le_of_ble_eq_true rfl, Nat.le_of_ble_eq_true rfl⟩) hP hD hS hA [0] [1, 2, 3] [3, 0, 1, 2] rfl rfl rfl rfl (fun _ => rfl) rfl (fun r70 u70 H locs hw70 hP hD hS => ?_)
              have hw70 : r70 = nI 0 := hw70
              have hP : va_P D vwCl [(mo, .inr (9, [.ref na, .ref nb, .ref nc, .ref nd, .int (bI (ms)), .int (nI mk), .ref ne, .int (nI my), .int (nI 3), .int (nI mp), .ref nf, .ref ng, .ref nh, .ref ni, .ref nj, .ref nl])), (na, .inl (ca 0, 442, .inl (zF sn))), (nc, .inl (ca 0, 2210, .inl (zF pa))), (nf, .inl (ca 0, 20, .inl (zF e)))] H := hP
              have hD : va_D A [(mo, .inr (9, [.ref na, .ref nb, .ref nc, .ref nd, .int (bI (ms)), .int (nI mk), .ref ne, .int (nI my), .int (nI 3), .int (nI mp), .ref nf, .ref ng, .ref nh, .ref ni, .ref nj, .ref nl])), (na, .inl (ca 0, 442, .inl (zF sn))), (nc, .inl (ca 0, 2210, .inl (zF pa))), (nf, .inl (ca 0, 20, .inl (zF e)))] := hD
              have hwr70 := hw70
              subst hwr70
              rw [← hE]
              exact xe_i (3, mk, sn, pa, e) hx hb hr hlocks hK hP hD hS (⟨(kDep_3 hbt (by rintro (h9 | h9); (exact h9 (by omega)); exact h23 (by omega)) (Or.inr h65)).symm, fun h9 => absurd (h9.symm.trans (kDep_3 hbt (by rintro (h9 | h9); (exact h9 (by omega)); exact h23 (by omega)) (Or.inr h65))) (by decide), fun _ => ⟨rfl, rfl, rfl⟩⟩) dX9_depend_73
      · skip
        have h23 := (cE (nI_toInt (by omega)) (nI_toInt (by omega))).mp h23
        refine lv_aload_n hx hb dX9_depend_26 rfl (lv_at hl 0 rfl) ?_
        refine lv_iconst (v := nI (2)) hx hb dX9_depend_27 (by decide) ?_
        refine xk_i [(na, .inl (ca 0, 442, .inl (zF sn))), (nc, .inl (ca 0, 2210, .inl (zF pa))), (nf, .inl (ca 0, 20, .inl (zF e)))] (fun u => [(mo, .inr (9, [.ref na, .ref nb, .ref nc, .ref nd, .int (bI (ms)), .int (nI mk), .ref ne, .int (nI my), .int (nI 2), .int (nI mp), .ref nf, .ref ng, .ref nh, .ref ni, .ref nj, .ref nl])), (na, .inl (ca 0, 442, .inl (zF sn))), (nc, .inl (ca 0, 2210, .inl (zF pa))), (nf, .inl (ca 0, 20, .inl (zF e)))]) (xk_V (As := [.int (nI 2)]) (rest := []) ⟨hx, hb, hml, hown, hts⟩ (mX9_fails l D ca H.size mo na nb nc nd ne nf ng nh ni nj nl ms mk my t13 mp 2 ) (cwV 1 hts gX9_depend_X9_fails rfl rfl rfl (by decide +kernel) ⟨Nat.le_of_ble_eq_true rfl, Nat.le_of_ble_eq_true rfl⟩) hK hP hD (va_recv (q := (RX9, TX9, 16)) hK hP (ci := 9) (q0 := 0) rfl rfl) [0] rfl rfl rfl hl.1 rfl (Nat.le_of_ble_eq_true rfl) dX9_depend_28 ⟨Nat.le_of_ble_eq_true rfl, Nat.le_of_ble_eq_true rfl⟩) hP hD hS hA [0] [1, 2, 3] [3, 0, 1, 2] rfl rfl rfl rfl (fun _ => rfl) rfl (fun r28 u28 H locs hw28 hP hD hS => ?_)
        have hw28 : r28 = nI 0 := hw28
        have hP : va_P D vwCl [(mo, .inr (9, [.ref na, .ref nb, .ref nc, .ref nd, .int (bI (ms)), .int (nI mk), .ref ne, .int (nI my), .int (nI 2), .int (nI mp), .ref nf, .ref ng, .ref nh, .ref ni, .ref nj, .ref nl])), (na, .inl (ca 0, 442, .inl (zF sn))), (nc, .inl (ca 0, 2210, .inl (zF pa))), (nf, .inl (ca 0, 20, .inl (zF e)))] H := hP
        have hD : va_D A [(mo, .inr (9, [.ref na, .ref nb, .ref nc, .ref nd, .int (bI (ms)), .int (nI mk), .ref ne, .int (nI my), .int (nI 2), .int (nI mp), .ref nf, .ref ng, .ref nh, .ref ni, .ref nj, .ref nl])), (na, .inl (ca 0, 442, .inl (zF sn))), (nc, .inl (ca 0, 2210, .inl (zF pa))), (nf, .inl (ca 0, 20, .inl (zF e)))] := hD
        have hwr28 := hw28
        subst hwr28
        rw [← hE]
        exact xe_i (2, mk, sn, pa, e) hx hb hr hlocks hK hP hD hS (⟨(kDep_2 hbt (Or.inr (by omega))).symm, fun h9 => absurd (h9.symm.trans (kDep_2 hbt (Or.inr (by omega)))) (by decide), fun _ => ⟨rfl, rfl, rfl⟩⟩) dX9_depend_31
  · skip
    have h6 := bI_0.mp h6
    refine lv_iconst (v := nI (0)) hx hb dX9_depend_9 (by decide) ?_
    rw [← hE]
    exact xe_i (t13, mk, sn, pa, e) hx hb hr hlocks hK hP hD hS (⟨hv3.trans ((kTb_f h6).trans (kDep_1 (En := En) (G := G) (p := p) (hb2_f h6)).symm), fun h9 => absurd (h9.symm.trans (kDep_1 (hb2_f h6))) (by decide), fun _ => ⟨rfl, rfl, rfl⟩⟩) dX9_depend_10
def rX9_release : Room := { frames := 2, cells := 0, slots := 0, locals := 45 }
set_option maxHeartbeats 4000000 in
set_option maxRecDepth 100000 in
theorem mX9_release (l : Launch) (D : va_G) (ca : Nat → ClassId) (sz : Nat) (mo : Nat) (na : Nat) (nb : Nat) (nc : Nat) (nd : Nat) (ne : Nat) (nf : Nat) (ng : Nat) (nh : Nat) (ni : Nat) (nj : Nat) (nl : Nat) (ms : Bool) (mk : Nat) (my : Nat) (mt : Nat) (mp : Nat) (sn : Nat → Int) (T : Nat) (En : Int) (C : Int) (L : Nat → Int) (N : Nat → Int) (G : Nat → Nat → Int) (pa : Nat → Int) (t : Int32) (t2 : Int32) (hV : PSV T En C L N G) (hM : MS sn T C L N G) (hmk : mk ≤ 5) : MM l yX9_release wsX9_release rX9_release D ca [.ref mo, .int (t), .int (t2)] sz [(mo, .inr (9, [.ref na, .ref nb, .ref nc, .ref nd, .int (bI (ms)), .int (nI mk), .ref ne, .int (nI my), .int (nI mt), .int (nI mp), .ref nf, .ref ng, .ref nh, .ref ni, .ref nj, .ref nl])), (na, .inl (ca 0, 442, .inl (zF sn))), (nc, .inl (ca 0, 2210, .inl (zF pa)))] (QI D ca (fun (r : Int32) (u : Nat × Nat × (Nat → Int) × (Nat → Int)) => u.1 = kLag T G t t2 ∧ (kLag T G t t2 = 0 → r = iZ (G (tI t) (tI t2)) ∧ MS u.2.2.1 T C L N (upG G (tI t) (tI t2) (-1)) ∧ KS mk pa sn u.2.1 u.2.2.2) ∧ (¬ kLag T G t t2 = 0 → u.2.2.1 = sn ∧ u.2.1 = mk ∧ u.2.2.2 = pa)) (fun u => [(mo, .inr (9, [.ref na, .ref nb, .ref nc, .ref nd, .int (bI (ms)), .int (nI u.2.1), .ref ne, .int (nI my), .int (nI u.1), .int (nI mp), .ref nf, .ref ng, .ref nh, .ref ni, .ref nj, .ref nl])), (na, .inl (ca 0, 442, .inl (zF u.2.2.1))), (nc, .inl (ca 0, 2210, .inl (zF u.2.2.2)))])) := by
  refine MM_of (cc := cX9_release) (maxL := 4) (ret := (some .int)) (lv0 := [(0, .ref mo), (1, .int (t)), (2, .int (t2))]) RX9 (by decide) rfl rfl (Nat.le_of_ble_eq_true rfl) rfl ?_
  intro pG eV s mI args below meth cO hx hb hr hml hts hown hlocks hnm A hA H locs hsz hP hK hD hS Q hE ls hl
  have f7 := hts (.fieldLink RX9 7 "SlackPlanModel" "now" "[I") (List.mem_of_getElem? (i := 1) rfl)
  have inX9 : ∀ w ∈ u_ws RX9 TX9 16, w ∈ wsX9_release := in_r _ [27, 28, 29, 30, 31, 32, 33, 34, 35, 36, 37, 38, 39, 40, 41, 42] rfl
  obtain ⟨hT, hC9, hL30, hNk, hG, hac, hGo, hEn, hE40⟩ := hV
  have hLk := L30_LOK hL30
  have hs0 := hM.1
  have hs1 := hM.2.1
  refine lv_aload_n hx hb dX9_release_0 rfl (lv_at hl 0 rfl) ?_
  refine lv_iload_n hx hb dX9_release_1 rfl (lv_at hl 1 rfl) ?_
  refine lv_iload_n hx hb dX9_release_2 rfl (lv_at hl 2 rfl) ?_
  refine xk_i [(nc, .inl (ca 0, 2210, .inl (zF pa)))] (fun u => [(mo, .inr (9, [.ref na, .ref nb, .ref nc, .ref nd, .int (bI (ms)), .int (nI mk), .ref ne, .int (nI my), .int (nI u), .int (nI mp), .ref nf, .ref ng, .ref nh, .ref ni, .ref nj, .ref nl])), (na, .inl (ca 0, 442, .inl (zF sn))), (nc, .inl (ca 0, 2210, .inl (zF pa)))]) (xk_V (As := [.int (t), .int (t2)]) (rest := []) ⟨hx, hb, hml, hown, hts⟩ (mX9_are l D ca H.size mo na nb nc nd ne nf ng nh ni nj nl ms mk my mt mp sn T t t2 (by omega) hs0) (cwV 2 hts gX9_release_X9_are rfl rfl rfl (by decide +kernel) ⟨Nat.le_of_ble_eq_true rfl, Nat.le_of_ble_eq_true rfl⟩) hK hP hD (va_recv (q := (RX9, TX9, 16)) hK hP (ci := 9) (q0 := 0) rfl rfl) [0, 1] rfl rfl rfl hl.1 rfl (Nat.le_of_ble_eq_true rfl) dX9_release_3 ⟨Nat.le_of_ble_eq_true rfl, Nat.le_of_ble_eq_true rfl⟩) hP hD hS hA [0, 1] [2] [1, 2, 0] rfl rfl rfl rfl (fun _ => rfl) rfl (fun r3 u3 H locs hw3 hP hD hS => ?_)
  obtain ⟨t13, hu3⟩ : ∃ z, z = u3 := ⟨_, rfl⟩
  subst hu3
  have hw3 : r3 = bI (decide (hasB T t = true ∧ hasB T t2 = true)) ∧ t13 = kTb T t t2 := hw3
  have hP : va_P D vwCl [(mo, .inr (9, [.ref na, .ref nb, .ref nc, .ref nd, .int (bI (ms)), .int (nI mk), .ref ne, .int (nI my), .int (nI t13), .int (nI mp), .ref nf, .ref ng, .ref nh, .ref ni, .ref nj, .ref nl])), (na, .inl (ca 0, 442, .inl (zF sn))), (nc, .inl (ca 0, 2210, .inl (zF pa)))] H := hP
  have hD : va_D A [(mo, .inr (9, [.ref na, .ref nb, .ref nc, .ref nd, .int (bI (ms)), .int (nI mk), .ref ne, .int (nI my), .int (nI t13), .int (nI mp), .ref nf, .ref ng, .ref nh, .ref ni, .ref nj, .ref nl])), (na, .inl (ca 0, 442, .inl (zF sn))), (nc, .inl (ca 0, 2210, .inl (zF pa)))] := hD
  obtain ⟨hwr3, hv3⟩ := hw3
  subst hwr3
  refine lv_if_ne (tgt := 11) hx hb dX9_release_6 (by decide) (fun h6 => ?_) (fun h6 => ?_)
  · skip
    have h6 := bI_n0.mp h6
    have hbt := (decide_eq_true_iff).mp h6
    obtain ⟨ht1, he1⟩ := hasB_ex hbt.1
    obtain ⟨ht2, he2⟩ := hasB_ex hbt.2
    have e9 : (t) = nI (tI t) := he1
    have hl : lv_has ls 4 [(0, .ref mo), (1, .int (nI (tI t))), (2, .int (t2))] := by rw [← e9]; exact hl
    have e9 : (t2) = nI (tI t2) := he2
    have hl : lv_has ls 4 [(0, .ref mo), (1, .int (nI (tI t))), (2, .int (nI (tI t2)))] := by rw [← e9]; exact hl
    refine lv_aload_n hx hb dX9_release_11 rfl (lv_at hl 0 rfl) ?_
    refine va_get (D := D) (ci := 9) (v := .ref na) (C := RX9) (T := TX9) (N := 16) hx hb hts inX9 hown hK hP 0 rfl rfl 0 (by decide) f7 (fun _ h9 => h9) rfl dX9_release_12 ?_
    refine lv_iload_n hx hb dX9_release_15 rfl (lv_at hl 1 rfl) ?_
    refine lv_iload_n hx hb dX9_release_16 rfl (lv_at hl 2 rfl) ?_
    refine xk_pi (xk_S (As := [.ref na, .int (nI (tI t)), .int (nI (tI t2))]) (rest := []) ⟨hx, hb, hml, hown, hts⟩ (mX9_lag l D ca H.size na sn T C L N G (tI t) (tI t2) hM (by omega)) (va_cwS 3 hts gX9_release_X9_lag rfl rfl rfl (by decide +kernel) ⟨Nat.le_of_ble_eq_true rfl, Nat.le_of_ble_eq_true rfl⟩) hK hP hD [1] rfl rfl rfl hl.1 rfl (Nat.le_of_ble_eq_true rfl) dX9_release_17 ⟨Nat.le_of_ble_eq_true rfl, Nat.le_of_ble_eq_true rfl⟩) hP hD hS hA [1] rfl ⟨rfl, rfl⟩ (fun r17 H locs hw17 hP hS => ?_)
    have hw17 : r17 = iZ (G (tI t) (tI t2)) := hw17
    subst hw17
    have hb1 := hG (tI t) (tI t2) (by omega) (by omega)
    refine lv_if_ge (tgt := 29) hx hb dX9_release_20 (by decide) (fun h20 => ?_) (fun h20 => ?_)
    · skip
      have h20 := (cL z0_toInt (iZ_toInt (by omega) (by omega))).mp h20
      refine lv_aload_n hx hb dX9_release_29 rfl (lv_at hl 0 rfl) ?_
      refine xk_v [] (fun u => [(mo, .inr (9, [.ref na, .ref nb, .ref nc, .ref nd, .int (bI (ms)), .int (nI u.1), .ref ne, .int (nI my), .int (nI t13), .int (nI mp), .ref nf, .ref ng, .ref nh, .ref ni, .ref nj, .ref nl])), (na, .inl (ca 0, 442, .inl (zF sn))), (nc, .inl (ca 0, 2210, .inl (zF u.2)))]) (xk_V (As := []) (rest := []) ⟨hx, hb, hml, hown, hts⟩ (mX9_keepsState l D ca H.size mo na nb nc nd ne nf ng nh ni nj nl ms mk my t13 mp sn pa (by omega)) (cwV 0 hts gX9_release_X9_keepsState rfl rfl rfl (by decide +kernel) ⟨Nat.le_of_ble_eq_true rfl, Nat.le_of_ble_eq_true rfl⟩) hK hP hD (va_recv (q := (RX9, TX9, 16)) hK hP (ci := 9) (q0 := 0) rfl rfl) [0, 1, 2] rfl rfl rfl hl.1 rfl (Nat.le_of_ble_eq_true rfl) dX9_release_30 ⟨Nat.le_of_ble_eq_true rfl, Nat.le_of_ble_eq_true rfl⟩) hP hD hS hA [0, 1, 2] [] [0, 1, 2] rfl rfl rfl rfl (fun _ => rfl) rfl (fun u30 H locs hw30 hP hD hS => ?_)
      obtain ⟨k130, pa130⟩ := u30
      have hw30 : k130 = (if mk = 5 then 5 else mk + 1) ∧ pa130 = cpF sn 0 (if mk = 5 then shF pa 1768 else pa) (442 * (if mk = 5 then 4 else mk)) 442 := hw30
      have hP : va_P D vwCl [(mo, .inr (9, [.ref na, .ref nb, .ref nc, .ref nd, .int (bI (ms)), .int (nI k130), .ref ne, .int (nI my), .int (nI t13), .int (nI mp), .ref nf, .ref ng, .ref nh, .ref ni, .ref nj, .ref nl])), (na, .inl (ca 0, 442, .inl (zF sn))), (nc, .inl (ca 0, 2210, .inl (zF pa130)))] H := hP
      have hD : va_D A [(mo, .inr (9, [.ref na, .ref nb, .ref nc, .ref nd, .int (bI (ms)), .int (nI k130), .ref ne, .int (nI my), .int (nI t13), .int (nI mp), .ref nf, .ref ng, .ref nh, .ref ni, .ref nj, .ref nl])), (na, .inl (ca 0, 442, .inl (zF sn))), (nc, .inl (ca 0, 2210, .inl (zF pa130)))] := hD
      refine lv_aload_n hx hb dX9_release_33 rfl (lv_at hl 0 rfl) ?_
      refine va_get (D := D) (ci := 9) (v := .ref na) (C := RX9) (T := TX9) (N := 16) hx hb hts inX9 hown hK hP 0 rfl rfl 0 (by decide) f7 (fun _ h9 => h9) rfl dX9_release_34 ?_
      refine lv_iload_n hx hb dX9_release_37 rfl (lv_at hl 1 rfl) ?_
      refine lv_iload_n hx hb dX9_release_38 rfl (lv_at hl 2 rfl) ?_
      refine xk_pi (xk_S (As := [.ref na, .int (nI (tI t)), .int (nI (tI t2))]) (rest := []) ⟨hx, hb, hml, hown, hts⟩ (mX9_lag l D ca H.size na sn T C L N G (tI t) (tI t2) hM (by omega)) (va_cwS 3 hts gX9_release_X9_lag rfl rfl rfl (by decide +kernel) ⟨Nat.le_of_ble_eq_true rfl, Nat.le_of_ble_eq_true rfl⟩) hK hP hD [1] rfl rfl rfl hl.1 rfl (Nat.le_of_ble_eq_true rfl) dX9_release_39 ⟨Nat.le_of_ble_eq_true rfl, Nat.le_of_ble_eq_true rfl⟩) hP hD hS hA [1] rfl ⟨rfl, rfl⟩ (fun r39 H locs hw39 hP hS => ?_)
      have hw39 : r39 = iZ (G (tI t) (tI t2)) := hw39
      subst hw39
      refine lv_istore_n (lv' := [(3, .int (iZ (G (tI t) (tI t2)))), (0, .ref mo), (1, .int (nI (tI t))), (2, .int (nI (tI t2)))]) hx hb dX9_release_42 rfl hl (by decide) rfl (fun ls hl => ?_)
      refine lv_aload_n hx hb dX9_release_43 rfl (lv_at hl 1 rfl) ?_
      refine va_get (D := D) (ci := 9) (v := .ref na) (C := RX9) (T := TX9) (N := 16) hx hb hts inX9 hown hK hP 0 rfl rfl 0 (by decide) f7 (fun _ h9 => h9) rfl dX9_release_44 ?_
      refine lv_bipush (v := nI (42)) hx hb dX9_release_47 (by decide) ?_
      refine lv_bipush (v := nI (20)) hx hb dX9_release_49 (by decide) ?_
      refine lv_iload_n hx hb dX9_release_51 rfl (lv_at hl 2 rfl) ?_
      refine xr_imul hx hb dX9_release_52 ?_
      refine xr_iadd hx hb dX9_release_53 ?_
      refine lv_iload_n hx hb dX9_release_54 rfl (lv_at hl 3 rfl) ?_
      refine xr_iadd hx hb dX9_release_55 ?_
      refine lv_iconst (v := iZ (-1)) hx hb dX9_release_56 (by decide) ?_
      refine xr_iast hx hb hK hP hD hS 1 0 rfl rfl (by omega) (Nat.le_of_ble_eq_true rfl) (zF (upZ sn ((42 + (20 * (tI t))) + (tI t2)) (-1))) (fun _ _ => zF_up _ _ _ _) dX9_release_57 (fun H locs hP hD hS => ?_)
      have hP : va_P D vwCl [(mo, .inr (9, [.ref na, .ref nb, .ref nc, .ref nd, .int (bI (ms)), .int (nI k130), .ref ne, .int (nI my), .int (nI t13), .int (nI mp), .ref nf, .ref ng, .ref nh, .ref ni, .ref nj, .ref nl])), (na, .inl (ca 0, 442, .inl (zF (upZ sn ((42 + (20 * (tI t))) + (tI t2)) (-1))))), (nc, .inl (ca 0, 2210, .inl (zF pa130)))] H := hP
      have hD : va_D A [(mo, .inr (9, [.ref na, .ref nb, .ref nc, .ref nd, .int (bI (ms)), .int (nI k130), .ref ne, .int (nI my), .int (nI t13), .int (nI mp), .ref nf, .ref ng, .ref nh, .ref ni, .ref nj, .ref nl])), (na, .inl (ca 0, 442, .inl (zF (upZ sn ((42 + (20 * (tI t))) + (tI t2)) (-1))))), (nc, .inl (ca 0, 2210, .inl (zF pa130)))] := hD
      refine lv_iload_n hx hb dX9_release_58 rfl (lv_at hl 0 rfl) ?_
      rw [← hE]
      exact xe_i (t13, k130, upZ sn ((42 + (20 * (tI t))) + (tI t2)) (-1), pa130) hx hb hr hlocks hK hP hD hS (⟨(hv3.trans (kTb_t h6)).trans (kLag_0 (G := G) hbt (by omega)).symm, fun _ => ⟨rfl, MS_upG hM hT (by omega) (by omega), hw30⟩, fun h9 => absurd (kLag_0 (G := G) hbt (by omega)) h9⟩) dX9_release_59
    · skip
      have h20 := (not_congr (cL z0_toInt (iZ_toInt (by omega) (by omega)))).mp h20
      refine lv_aload_n hx hb dX9_release_23 rfl (lv_at hl 0 rfl) ?_
      refine lv_iconst (v := nI (2)) hx hb dX9_release_24 (by decide) ?_
      refine xk_i [(na, .inl (ca 0, 442, .inl (zF sn))), (nc, .inl (ca 0, 2210, .inl (zF pa)))] (fun u => [(mo, .inr (9, [.ref na, .ref nb, .ref nc, .ref nd, .int (bI (ms)), .int (nI mk), .ref ne, .int (nI my), .int (nI 2), .int (nI mp), .ref nf, .ref ng, .ref nh, .ref ni, .ref nj, .ref nl])), (na, .inl (ca 0, 442, .inl (zF sn))), (nc, .inl (ca 0, 2210, .inl (zF pa)))]) (xk_V (As := [.int (nI 2)]) (rest := []) ⟨hx, hb, hml, hown, hts⟩ (mX9_fails l D ca H.size mo na nb nc nd ne nf ng nh ni nj nl ms mk my t13 mp 2 ) (cwV 1 hts gX9_release_X9_fails rfl rfl rfl (by decide +kernel) ⟨Nat.le_of_ble_eq_true rfl, Nat.le_of_ble_eq_true rfl⟩) hK hP hD (va_recv (q := (RX9, TX9, 16)) hK hP (ci := 9) (q0 := 0) rfl rfl) [0] rfl rfl rfl hl.1 rfl (Nat.le_of_ble_eq_true rfl) dX9_release_25 ⟨Nat.le_of_ble_eq_true rfl, Nat.le_of_ble_eq_true rfl⟩) hP hD hS hA [0] [1, 2] [2, 0, 1] rfl rfl rfl rfl (fun _ => rfl) rfl (fun r25 u25 H locs hw25 hP hD hS => ?_)
      have hw25 : r25 = nI 0 := hw25
      have hP : va_P D vwCl [(mo, .inr (9, [.ref na, .ref nb, .ref nc, .ref nd, .int (bI (ms)), .int (nI mk), .ref ne, .int (nI my), .int (nI 2), .int (nI mp), .ref nf, .ref ng, .ref nh, .ref ni, .ref nj, .ref nl])), (na, .inl (ca 0, 442, .inl (zF sn))), (nc, .inl (ca 0, 2210, .inl (zF pa)))] H := hP
      have hD : va_D A [(mo, .inr (9, [.ref na, .ref nb, .ref nc, .ref nd, .int (bI (ms)), .int (nI mk), .ref ne, .int (nI my), .int (nI 2), .int (nI mp), .ref nf, .ref ng, .ref nh, .ref ni, .ref nj, .ref nl])), (na, .inl (ca 0, 442, .inl (zF sn))), (nc, .inl (ca 0, 2210, .inl (zF pa)))] := hD
      have hwr25 := hw25
      subst hwr25
      rw [← hE]
      exact xe_i (2, mk, sn, pa) hx hb hr hlocks hK hP hD hS (⟨(kLag_2 hbt (by omega)).symm, fun h9 => absurd (h9.symm.trans (kLag_2 hbt (by omega))) (by decide), fun _ => ⟨rfl, rfl, rfl⟩⟩) dX9_release_28
  · skip
    have h6 := bI_0.mp h6
    refine lv_iconst (v := nI (0)) hx hb dX9_release_9 (by decide) ?_
    rw [← hE]
    exact xe_i (t13, mk, sn, pa) hx hb hr hlocks hK hP hD hS (⟨hv3.trans ((kTb_f h6).trans (kLag_1 (G := G) (hb2_f h6)).symm), fun h9 => absurd (h9.symm.trans (kLag_1 (hb2_f h6))) (by decide), fun _ => ⟨rfl, rfl, rfl⟩⟩) dX9_release_10
def rX9_setCrews : Room := { frames := 2, cells := 0, slots := 0, locals := 45 }
set_option maxHeartbeats 4000000 in
set_option maxRecDepth 100000 in
theorem mX9_setCrews (l : Launch) (D : va_G) (ca : Nat → ClassId) (sz : Nat) (mo : Nat) (na : Nat) (nb : Nat) (nc : Nat) (nd : Nat) (ne : Nat) (nf : Nat) (ng : Nat) (nh : Nat) (ni : Nat) (nj : Nat) (nl : Nat) (ms : Bool) (mk : Nat) (my : Nat) (mt : Nat) (mp : Nat) (sn : Nat → Int) (T : Nat) (En : Int) (C : Int) (L : Nat → Int) (N : Nat → Int) (G : Nat → Nat → Int) (pa : Nat → Int) (p : Int32) (hV : PSV T En C L N G) (hM : MS sn T C L N G) (hmk : mk ≤ 5) : MM l yX9_setCrews wsX9_setCrews rX9_setCrews D ca [.ref mo, .int (p)] sz [(mo, .inr (9, [.ref na, .ref nb, .ref nc, .ref nd, .int (bI (ms)), .int (nI mk), .ref ne, .int (nI my), .int (nI mt), .int (nI mp), .ref nf, .ref ng, .ref nh, .ref ni, .ref nj, .ref nl])), (na, .inl (ca 0, 442, .inl (zF sn))), (nc, .inl (ca 0, 2210, .inl (zF pa)))] (QI D ca (fun (r : Int32) (u : Nat × Nat × (Nat → Int) × (Nat → Int)) => u.1 = kCrw p ∧ (kCrw p = 0 → r = iZ C ∧ MS u.2.2.1 T p.toInt L N G ∧ KS mk pa sn u.2.1 u.2.2.2) ∧ (¬ kCrw p = 0 → u.2.2.1 = sn ∧ u.2.1 = mk ∧ u.2.2.2 = pa)) (fun u => [(mo, .inr (9, [.ref na, .ref nb, .ref nc, .ref nd, .int (bI (ms)), .int (nI u.2.1), .ref ne, .int (nI my), .int (nI u.1), .int (nI mp), .ref nf, .ref ng, .ref nh, .ref ni, .ref nj, .ref nl])), (na, .inl (ca 0, 442, .inl (zF u.2.2.1))), (nc, .inl (ca 0, 2210, .inl (zF u.2.2.2)))])) := by
  refine MM_of (cc := cX9_setCrews) (maxL := 3) (ret := (some .int)) (lv0 := [(0, .ref mo), (1, .int (p))]) RX9 (by decide) rfl rfl (Nat.le_of_ble_eq_true rfl) rfl ?_
  intro pG eV s mI args below meth cO hx hb hr hml hts hown hlocks hnm A hA H locs hsz hP hK hD hS Q hE ls hl
  have f44 := hts (.fieldLink RX9 44 "SlackPlanModel" "thrown" "I") (List.mem_of_getElem? (i := 1) rfl)
  have inX9 : ∀ w ∈ u_ws RX9 TX9 16, w ∈ wsX9_setCrews := in_r _ [20, 21, 22, 23, 24, 25, 26, 27, 28, 29, 30, 31, 32, 33, 34, 35] rfl
  have f7 := hts (.fieldLink RX9 7 "SlackPlanModel" "now" "[I") (List.mem_of_getElem? (i := 2) rfl)
  obtain ⟨hT, hC9, hL30, hNk, hG, hac, hGo, hEn, hE40⟩ := hV
  have hLk := L30_LOK hL30
  have hs0 := hM.1
  have hs1 := hM.2.1
  refine lv_aload_n hx hb dX9_setCrews_0 rfl (lv_at hl 0 rfl) ?_
  refine lv_iconst (v := nI (0)) hx hb dX9_setCrews_1 (by decide) ?_
  refine va_put (D := D) (ci := 9) (v := .int (nI 0)) (ty := .int) (C := RX9) (T := TX9) (N := 16) hx hb hts inX9 tyX9 tyX9_ok nmX9 hown hK hP hD hS 0 rfl rfl 8 (by decide) f44 (fun _ h9 => h9) rfl (by decide +kernel) rfl rfl (Nat.le_of_ble_eq_true rfl) dX9_setCrews_2 (fun H locs hP hD hS => ?_)
  have hP : va_P D vwCl [(mo, .inr (9, [.ref na, .ref nb, .ref nc, .ref nd, .int (bI (ms)), .int (nI mk), .ref ne, .int (nI my), .int (nI 0), .int (nI mp), .ref nf, .ref ng, .ref nh, .ref ni, .ref nj, .ref nl])), (na, .inl (ca 0, 442, .inl (zF sn))), (nc, .inl (ca 0, 2210, .inl (zF pa)))] H := hP
  have hD : va_D A [(mo, .inr (9, [.ref na, .ref nb, .ref nc, .ref nd, .int (bI (ms)), .int (nI mk), .ref ne, .int (nI my), .int (nI 0), .int (nI mp), .ref nf, .ref ng, .ref nh, .ref ni, .ref nj, .ref nl])), (na, .inl (ca 0, 442, .inl (zF sn))), (nc, .inl (ca 0, 2210, .inl (zF pa)))] := hD
  refine lv_iload_n hx hb dX9_setCrews_5 rfl (lv_at hl 1 rfl) ?_
  refine lv_iconst (v := nI (1)) hx hb dX9_setCrews_6 (by decide) ?_
  refine lv_bipush (v := nI (9)) hx hb dX9_setCrews_7 (by decide) ?_
  refine xk_pi (xk_S (As := [.int (p), .int (nI 1), .int (nI 9)]) (rest := []) ⟨hx, hb, hml, hown, hts⟩ (mX9_in l D ca H.size p (nI (1)) (nI (9)) ) (va_cwS 3 hts gX9_setCrews_X9_in rfl rfl rfl (by decide +kernel) ⟨Nat.le_of_ble_eq_true rfl, Nat.le_of_ble_eq_true rfl⟩) hK hP hD [] rfl rfl rfl hl.1 rfl (Nat.le_of_ble_eq_true rfl) dX9_setCrews_9 ⟨Nat.le_of_ble_eq_true rfl, Nat.le_of_ble_eq_true rfl⟩) hP hD hS hA [] rfl ⟨rfl, rfl⟩ (fun r9 H locs hw9 hP hS => ?_)
  have hw9 : r9 = bI (inB p (nI (1)) (nI (9))) := hw9
  subst hw9
  refine lv_if_ne (tgt := 21) hx hb dX9_setCrews_12 (by decide) (fun h12 => ?_) (fun h12 => ?_)
  · skip
    have h12 := bI_n0.mp h12
    have h12 := (in_rng (a := 1) (b := 9) (by omega) (by omega)).mp h12
    refine lv_aload_n hx hb dX9_setCrews_21 rfl (lv_at hl 0 rfl) ?_
    refine xk_v [] (fun u => [(mo, .inr (9, [.ref na, .ref nb, .ref nc, .ref nd, .int (bI (ms)), .int (nI u.1), .ref ne, .int (nI my), .int (nI 0), .int (nI mp), .ref nf, .ref ng, .ref nh, .ref ni, .ref nj, .ref nl])), (na, .inl (ca 0, 442, .inl (zF sn))), (nc, .inl (ca 0, 2210, .inl (zF u.2)))]) (xk_V (As := []) (rest := []) ⟨hx, hb, hml, hown, hts⟩ (mX9_keepsState l D ca H.size mo na nb nc nd ne nf ng nh ni nj nl ms mk my 0 mp sn pa (by omega)) (cwV 0 hts gX9_setCrews_X9_keepsState rfl rfl rfl (by decide +kernel) ⟨Nat.le_of_ble_eq_true rfl, Nat.le_of_ble_eq_true rfl⟩) hK hP hD (va_recv (q := (RX9, TX9, 16)) hK hP (ci := 9) (q0 := 0) rfl rfl) [0, 1, 2] rfl rfl rfl hl.1 rfl (Nat.le_of_ble_eq_true rfl) dX9_setCrews_22 ⟨Nat.le_of_ble_eq_true rfl, Nat.le_of_ble_eq_true rfl⟩) hP hD hS hA [0, 1, 2] [] [0, 1, 2] rfl rfl rfl rfl (fun _ => rfl) rfl (fun u22 H locs hw22 hP hD hS => ?_)
    obtain ⟨k122, pa122⟩ := u22
    have hw22 : k122 = (if mk = 5 then 5 else mk + 1) ∧ pa122 = cpF sn 0 (if mk = 5 then shF pa 1768 else pa) (442 * (if mk = 5 then 4 else mk)) 442 := hw22
    have hP : va_P D vwCl [(mo, .inr (9, [.ref na, .ref nb, .ref nc, .ref nd, .int (bI (ms)), .int (nI k122), .ref ne, .int (nI my), .int (nI 0), .int (nI mp), .ref nf, .ref ng, .ref nh, .ref ni, .ref nj, .ref nl])), (na, .inl (ca 0, 442, .inl (zF sn))), (nc, .inl (ca 0, 2210, .inl (zF pa122)))] H := hP
    have hD : va_D A [(mo, .inr (9, [.ref na, .ref nb, .ref nc, .ref nd, .int (bI (ms)), .int (nI k122), .ref ne, .int (nI my), .int (nI 0), .int (nI mp), .ref nf, .ref ng, .ref nh, .ref ni, .ref nj, .ref nl])), (na, .inl (ca 0, 442, .inl (zF sn))), (nc, .inl (ca 0, 2210, .inl (zF pa122)))] := hD
    refine lv_aload_n hx hb dX9_setCrews_25 rfl (lv_at hl 0 rfl) ?_
    refine va_get (D := D) (ci := 9) (v := .ref na) (C := RX9) (T := TX9) (N := 16) hx hb hts inX9 hown hK hP 0 rfl rfl 0 (by decide) f7 (fun _ h9 => h9) rfl dX9_setCrews_26 ?_
    refine lv_iconst (v := nI (1)) hx hb dX9_setCrews_29 (by decide) ?_
    refine xr_iald hx hb hK hP 1 0 rfl rfl (by omega) (Nat.le_of_ble_eq_true rfl) (v := iZ (sn 1)) rfl dX9_setCrews_30 ?_
    refine xr_top (y := iZ (C)) (congrArg iZ hs1) ?_
    refine lv_istore_n (lv' := [(2, .int (iZ C)), (0, .ref mo), (1, .int (p))]) hx hb dX9_setCrews_31 rfl hl (by decide) rfl (fun ls hl => ?_)
    refine lv_aload_n hx hb dX9_setCrews_32 rfl (lv_at hl 1 rfl) ?_
    refine va_get (D := D) (ci := 9) (v := .ref na) (C := RX9) (T := TX9) (N := 16) hx hb hts inX9 hown hK hP 0 rfl rfl 0 (by decide) f7 (fun _ h9 => h9) rfl dX9_setCrews_33 ?_
    have e9 : (p) = iZ (p.toInt) := (iZ_toI p)
    have hl : lv_has ls 3 [(2, .int (iZ C)), (0, .ref mo), (1, .int (iZ p.toInt))] := by rw [← e9]; exact hl
    refine lv_iconst (v := nI (1)) hx hb dX9_setCrews_36 (by decide) ?_
    refine lv_iload_n hx hb dX9_setCrews_37 rfl (lv_at hl 2 rfl) ?_
    refine xr_iast hx hb hK hP hD hS 1 0 rfl rfl (by omega) (Nat.le_of_ble_eq_true rfl) (zF (upZ sn 1 p.toInt)) (fun _ _ => zF_up _ _ _ _) dX9_setCrews_38 (fun H locs hP hD hS => ?_)
    have hP : va_P D vwCl [(mo, .inr (9, [.ref na, .ref nb, .ref nc, .ref nd, .int (bI (ms)), .int (nI k122), .ref ne, .int (nI my), .int (nI 0), .int (nI mp), .ref nf, .ref ng, .ref nh, .ref ni, .ref nj, .ref nl])), (na, .inl (ca 0, 442, .inl (zF (upZ sn 1 p.toInt)))), (nc, .inl (ca 0, 2210, .inl (zF pa122)))] H := hP
    have hD : va_D A [(mo, .inr (9, [.ref na, .ref nb, .ref nc, .ref nd, .int (bI (ms)), .int (nI k122), .ref ne, .int (nI my), .int (nI 0), .int (nI mp), .ref nf, .ref ng, .ref nh, .ref ni, .ref nj, .ref nl])), (na, .inl (ca 0, 442, .inl (zF (upZ sn 1 p.toInt)))), (nc, .inl (ca 0, 2210, .inl (zF pa122)))] := hD
    refine lv_iload_n hx hb dX9_setCrews_39 rfl (lv_at hl 0 rfl) ?_
    rw [← hE]
    exact xe_i (0, k122, upZ sn 1 p.toInt, pa122) hx hb hr hlocks hK hP hD hS (⟨(kCrw_0 (p := p) (by omega)).symm, fun _ => ⟨rfl, MS_up1 hM, hw22⟩, fun h9 => absurd (kCrw_0 (p := p) (by omega)) h9⟩) dX9_setCrews_40
  · skip
    have h12 := bI_0.mp h12
    have h12 := (in_rngf (a := 1) (b := 9) (by omega) (by omega)).mp h12
    refine lv_aload_n hx hb dX9_setCrews_15 rfl (lv_at hl 0 rfl) ?_
    refine lv_iconst (v := nI (1)) hx hb dX9_setCrews_16 (by decide) ?_
    refine xk_i [(na, .inl (ca 0, 442, .inl (zF sn))), (nc, .inl (ca 0, 2210, .inl (zF pa)))] (fun u => [(mo, .inr (9, [.ref na, .ref nb, .ref nc, .ref nd, .int (bI (ms)), .int (nI mk), .ref ne, .int (nI my), .int (nI 1), .int (nI mp), .ref nf, .ref ng, .ref nh, .ref ni, .ref nj, .ref nl])), (na, .inl (ca 0, 442, .inl (zF sn))), (nc, .inl (ca 0, 2210, .inl (zF pa)))]) (xk_V (As := [.int (nI 1)]) (rest := []) ⟨hx, hb, hml, hown, hts⟩ (mX9_fails l D ca H.size mo na nb nc nd ne nf ng nh ni nj nl ms mk my 0 mp 1 ) (cwV 1 hts gX9_setCrews_X9_fails rfl rfl rfl (by decide +kernel) ⟨Nat.le_of_ble_eq_true rfl, Nat.le_of_ble_eq_true rfl⟩) hK hP hD (va_recv (q := (RX9, TX9, 16)) hK hP (ci := 9) (q0 := 0) rfl rfl) [0] rfl rfl rfl hl.1 rfl (Nat.le_of_ble_eq_true rfl) dX9_setCrews_17 ⟨Nat.le_of_ble_eq_true rfl, Nat.le_of_ble_eq_true rfl⟩) hP hD hS hA [0] [1, 2] [2, 0, 1] rfl rfl rfl rfl (fun _ => rfl) rfl (fun r17 u17 H locs hw17 hP hD hS => ?_)
    have hw17 : r17 = nI 0 := hw17
    have hP : va_P D vwCl [(mo, .inr (9, [.ref na, .ref nb, .ref nc, .ref nd, .int (bI (ms)), .int (nI mk), .ref ne, .int (nI my), .int (nI 1), .int (nI mp), .ref nf, .ref ng, .ref nh, .ref ni, .ref nj, .ref nl])), (na, .inl (ca 0, 442, .inl (zF sn))), (nc, .inl (ca 0, 2210, .inl (zF pa)))] H := hP
    have hD : va_D A [(mo, .inr (9, [.ref na, .ref nb, .ref nc, .ref nd, .int (bI (ms)), .int (nI mk), .ref ne, .int (nI my), .int (nI 1), .int (nI mp), .ref nf, .ref ng, .ref nh, .ref ni, .ref nj, .ref nl])), (na, .inl (ca 0, 442, .inl (zF sn))), (nc, .inl (ca 0, 2210, .inl (zF pa)))] := hD
    have hwr17 := hw17
    subst hwr17
    rw [← hE]
    exact xe_i (1, mk, sn, pa) hx hb hr hlocks hK hP hD hS (⟨(kCrw_1 (by omega)).symm, fun h9 => absurd (h9.symm.trans (kCrw_1 (by omega))) (by decide), fun _ => ⟨rfl, rfl, rfl⟩⟩) dX9_setCrews_20
def rX9_readPlan : Room := { frames := 5, cells := 0, slots := 0, locals := 114 }
set_option maxHeartbeats 4000000 in
set_option maxRecDepth 100000 in
theorem mX9_readPlan (l : Launch) (D : va_G) (ca : Nat → ClassId) (sz : Nat) (mo : Nat) (na : Nat) (nb : Nat) (nc : Nat) (nd : Nat) (ne : Nat) (nf : Nat) (ng : Nat) (nh : Nat) (ni : Nat) (nj : Nat) (nl : Nat) (ms : Bool) (mk : Nat) (my : Nat) (mt : Nat) (mp : Nat) (sn : Nat → Int) (T : Nat) (En : Int) (C : Int) (L : Nat → Int) (N : Nat → Int) (G : Nat → Nat → Int) (pa : Nat → Int) (sv : Nat → Int) (sg : Nat → Int) (hV : PSV T En C L N G) (hM : MS sn T C L N G) (hmk : mk ≤ 5) (hmy : my ≤ 60) (hsg : ∀ j, j < 60 → 0 ≤ sg j ∧ sg j ≤ 65535) : MM l yX9_readPlan wsX9_readPlan rX9_readPlan D ca [.ref mo] sz [(mo, .inr (9, [.ref na, .ref nb, .ref nc, .ref nd, .int (bI (ms)), .int (nI mk), .ref ne, .int (nI my), .int (nI mt), .int (nI mp), .ref nf, .ref ng, .ref nh, .ref ni, .ref nj, .ref nl])), (na, .inl (ca 0, 442, .inl (zF sn))), (nc, .inl (ca 0, 2210, .inl (zF pa))), (nb, .inl (ca 0, 442, .inl (zF sv))), (ne, .inl (ca 0, 60, .inl (zF sg)))] (QI D ca (fun (r : Int32) (u : Nat × Nat × (Nat → Int) × (Nat → Int) × Nat × (Nat → Int)) => u.1 = k0 (prs sg my).1 ∧ (k0 (prs sg my).1 = 0 → r = nI (prs sg my).2.2.1 ∧ MS u.2.2.1 (prs sg my).2.2.1 C (prs sg my).2.2.2.1 (prs sg my).2.2.2.2.1 (prs sg my).2.2.2.2.2 ∧ KS mk pa sn u.2.1 u.2.2.2.1) ∧ (¬ k0 (prs sg my).1 = 0 → u.2.2.1 = sn ∧ u.2.1 = mk ∧ u.2.2.2.1 = pa)) (fun u => [(mo, .inr (9, [.ref na, .ref nb, .ref nc, .ref nd, .int (bI (ms)), .int (nI u.2.1), .ref ne, .int (nI my), .int (nI u.1), .int (nI u.2.2.2.2.1), .ref nf, .ref ng, .ref nh, .ref ni, .ref nj, .ref nl])), (na, .inl (ca 0, 442, .inl (zF u.2.2.1))), (nc, .inl (ca 0, 2210, .inl (zF u.2.2.2.1))), (nb, .inl (ca 0, 442, .inl (zF u.2.2.2.2.2))), (ne, .inl (ca 0, 60, .inl (zF sg)))])) := by
  refine MM_of (cc := cX9_readPlan) (maxL := 1) (ret := (some .int)) (lv0 := [(0, .ref mo)]) RX9 (by decide) rfl rfl (Nat.le_of_ble_eq_true rfl) rfl ?_
  intro pG eV s mI args below meth cO hx hb hr hml hts hown hlocks hnm A hA H locs hsz hP hK hD hS Q hE ls hl
  have f44 := hts (.fieldLink RX9 44 "SlackPlanModel" "thrown" "I") (List.mem_of_getElem? (i := 1) rfl)
  have inX9 : ∀ w ∈ u_ws RX9 TX9 16, w ∈ wsX9_readPlan := in_r _ [47, 48, 49, 50, 51, 52, 53, 54, 55, 56, 57, 58, 59, 60, 61, 62] rfl
  have f13 := hts (.fieldLink RX9 13 "SlackPlanModel" "then" "[I") (List.mem_of_getElem? (i := 2) rfl)
  have f7 := hts (.fieldLink RX9 7 "SlackPlanModel" "now" "[I") (List.mem_of_getElem? (i := 3) rfl)
  obtain ⟨hT, hC9, hL30, hNk, hG, hac, hGo, hEn, hE40⟩ := hV
  have hLk := L30_LOK hL30
  have hs0 := hM.1
  have hs1 := hM.2.1
  refine lv_aload_n hx hb dX9_readPlan_0 rfl (lv_at hl 0 rfl) ?_
  refine lv_iconst (v := nI (0)) hx hb dX9_readPlan_1 (by decide) ?_
  refine va_put (D := D) (ci := 9) (v := .int (nI 0)) (ty := .int) (C := RX9) (T := TX9) (N := 16) hx hb hts inX9 tyX9 tyX9_ok nmX9 hown hK hP hD hS 0 rfl rfl 8 (by decide) f44 (fun _ h9 => h9) rfl (by decide +kernel) rfl rfl (Nat.le_of_ble_eq_true rfl) dX9_readPlan_2 (fun H locs hP hD hS => ?_)
  have hP : va_P D vwCl [(mo, .inr (9, [.ref na, .ref nb, .ref nc, .ref nd, .int (bI (ms)), .int (nI mk), .ref ne, .int (nI my), .int (nI 0), .int (nI mp), .ref nf, .ref ng, .ref nh, .ref ni, .ref nj, .ref nl])), (na, .inl (ca 0, 442, .inl (zF sn))), (nc, .inl (ca 0, 2210, .inl (zF pa))), (nb, .inl (ca 0, 442, .inl (zF sv))), (ne, .inl (ca 0, 60, .inl (zF sg)))] H := hP
  have hD : va_D A [(mo, .inr (9, [.ref na, .ref nb, .ref nc, .ref nd, .int (bI (ms)), .int (nI mk), .ref ne, .int (nI my), .int (nI 0), .int (nI mp), .ref nf, .ref ng, .ref nh, .ref ni, .ref nj, .ref nl])), (na, .inl (ca 0, 442, .inl (zF sn))), (nc, .inl (ca 0, 2210, .inl (zF pa))), (nb, .inl (ca 0, 442, .inl (zF sv))), (ne, .inl (ca 0, 60, .inl (zF sg)))] := hD
  refine lv_aload_n hx hb dX9_readPlan_5 rfl (lv_at hl 0 rfl) ?_
  refine xk_i [(nc, .inl (ca 0, 2210, .inl (zF pa)))] (fun u => [(mo, .inr (9, [.ref na, .ref nb, .ref nc, .ref nd, .int (bI (ms)), .int (nI mk), .ref ne, .int (nI my), .int (nI 0), .int (nI u.1), .ref nf, .ref ng, .ref nh, .ref ni, .ref nj, .ref nl])), (na, .inl (ca 0, 442, .inl (zF sn))), (nc, .inl (ca 0, 2210, .inl (zF pa))), (nb, .inl (ca 0, 442, .inl (zF u.2))), (ne, .inl (ca 0, 60, .inl (zF sg)))]) (xk_V (As := []) (rest := []) ⟨hx, hb, hml, hown, hts⟩ (mX9_reads l D ca H.size mo na nb nc nd ne nf ng nh ni nj nl ms mk my 0 mp sn sv sg C (by omega) hsg (by omega)) (cwV 0 hts gX9_readPlan_X9_reads rfl rfl rfl (by decide +kernel) ⟨Nat.le_of_ble_eq_true rfl, Nat.le_of_ble_eq_true rfl⟩) hK hP hD (va_recv (q := (RX9, TX9, 16)) hK hP (ci := 9) (q0 := 0) rfl rfl) [0, 1, 3, 4] rfl rfl rfl hl.1 rfl (Nat.le_of_ble_eq_true rfl) dX9_readPlan_6 ⟨Nat.le_of_ble_eq_true rfl, Nat.le_of_ble_eq_true rfl⟩) hP hD hS hA [0, 1, 3, 4] [2] [1, 2, 0, 3, 4] rfl rfl rfl rfl (fun _ => rfl) rfl (fun r6 u6 H locs hw6 hP hD hS => ?_)
  obtain ⟨p16, sv16⟩ := u6
  have hw6 : r6 = bI (prs sg my).1 ∧ p16 = (prs sg my).2.1 ∧ ((prs sg my).1 = true → MS sv16 (prs sg my).2.2.1 C (prs sg my).2.2.2.1 (prs sg my).2.2.2.2.1 (prs sg my).2.2.2.2.2) := hw6
  have hP : va_P D vwCl [(mo, .inr (9, [.ref na, .ref nb, .ref nc, .ref nd, .int (bI (ms)), .int (nI mk), .ref ne, .int (nI my), .int (nI 0), .int (nI p16), .ref nf, .ref ng, .ref nh, .ref ni, .ref nj, .ref nl])), (na, .inl (ca 0, 442, .inl (zF sn))), (nc, .inl (ca 0, 2210, .inl (zF pa))), (nb, .inl (ca 0, 442, .inl (zF sv16))), (ne, .inl (ca 0, 60, .inl (zF sg)))] H := hP
  have hD : va_D A [(mo, .inr (9, [.ref na, .ref nb, .ref nc, .ref nd, .int (bI (ms)), .int (nI mk), .ref ne, .int (nI my), .int (nI 0), .int (nI p16), .ref nf, .ref ng, .ref nh, .ref ni, .ref nj, .ref nl])), (na, .inl (ca 0, 442, .inl (zF sn))), (nc, .inl (ca 0, 2210, .inl (zF pa))), (nb, .inl (ca 0, 442, .inl (zF sv16))), (ne, .inl (ca 0, 60, .inl (zF sg)))] := hD
  obtain ⟨hwr6, hv6⟩ := hw6
  subst hwr6
  refine lv_if_ne (tgt := 18) hx hb dX9_readPlan_9 (by decide) (fun h9 => ?_) (fun h9 => ?_)
  · skip
    have h9 := bI_n0.mp h9
    refine lv_aload_n hx hb dX9_readPlan_18 rfl (lv_at hl 0 rfl) ?_
    refine xk_v [(nb, .inl (ca 0, 442, .inl (zF sv16))), (ne, .inl (ca 0, 60, .inl (zF sg)))] (fun u => [(mo, .inr (9, [.ref na, .ref nb, .ref nc, .ref nd, .int (bI (ms)), .int (nI u.1), .ref ne, .int (nI my), .int (nI 0), .int (nI p16), .ref nf, .ref ng, .ref nh, .ref ni, .ref nj, .ref nl])), (na, .inl (ca 0, 442, .inl (zF sn))), (nc, .inl (ca 0, 2210, .inl (zF u.2))), (nb, .inl (ca 0, 442, .inl (zF sv16))), (ne, .inl (ca 0, 60, .inl (zF sg)))]) (xk_V (As := []) (rest := []) ⟨hx, hb, hml, hown, hts⟩ (mX9_keepsState l D ca H.size mo na nb nc nd ne nf ng nh ni nj nl ms mk my 0 p16 sn pa (by omega)) (cwV 0 hts gX9_readPlan_X9_keepsState rfl rfl rfl (by decide +kernel) ⟨Nat.le_of_ble_eq_true rfl, Nat.le_of_ble_eq_true rfl⟩) hK hP hD (va_recv (q := (RX9, TX9, 16)) hK hP (ci := 9) (q0 := 0) rfl rfl) [0, 1, 2] rfl rfl rfl hl.1 rfl (Nat.le_of_ble_eq_true rfl) dX9_readPlan_19 ⟨Nat.le_of_ble_eq_true rfl, Nat.le_of_ble_eq_true rfl⟩) hP hD hS hA [0, 1, 2] [3, 4] [2, 3, 4, 0, 1] rfl rfl rfl rfl (fun _ => rfl) rfl (fun u19 H locs hw19 hP hD hS => ?_)
    obtain ⟨k119, pa119⟩ := u19
    have hw19 : k119 = (if mk = 5 then 5 else mk + 1) ∧ pa119 = cpF sn 0 (if mk = 5 then shF pa 1768 else pa) (442 * (if mk = 5 then 4 else mk)) 442 := hw19
    have hP : va_P D vwCl [(mo, .inr (9, [.ref na, .ref nb, .ref nc, .ref nd, .int (bI (ms)), .int (nI k119), .ref ne, .int (nI my), .int (nI 0), .int (nI p16), .ref nf, .ref ng, .ref nh, .ref ni, .ref nj, .ref nl])), (na, .inl (ca 0, 442, .inl (zF sn))), (nc, .inl (ca 0, 2210, .inl (zF pa119))), (nb, .inl (ca 0, 442, .inl (zF sv16))), (ne, .inl (ca 0, 60, .inl (zF sg)))] H := hP
    have hD : va_D A [(mo, .inr (9, [.ref na, .ref nb, .ref nc, .ref nd, .int (bI (ms)), .int (nI k119), .ref ne, .int (nI my), .int (nI 0), .int (nI p16), .ref nf, .ref ng, .ref nh, .ref ni, .ref nj, .ref nl])), (na, .inl (ca 0, 442, .inl (zF sn))), (nc, .inl (ca 0, 2210, .inl (zF pa119))), (nb, .inl (ca 0, 442, .inl (zF sv16))), (ne, .inl (ca 0, 60, .inl (zF sg)))] := hD
    refine lv_aload_n hx hb dX9_readPlan_22 rfl (lv_at hl 0 rfl) ?_
    refine va_get (D := D) (ci := 9) (v := .ref nb) (C := RX9) (T := TX9) (N := 16) hx hb hts inX9 hown hK hP 0 rfl rfl 1 (by decide) f13 (fun _ h9 => h9) rfl dX9_readPlan_23 ?_
    refine lv_iconst (v := nI (0)) hx hb dX9_readPlan_26 (by decide) ?_
    refine lv_aload_n hx hb dX9_readPlan_27 rfl (lv_at hl 0 rfl) ?_
    refine va_get (D := D) (ci := 9) (v := .ref na) (C := RX9) (T := TX9) (N := 16) hx hb hts inX9 hown hK hP 0 rfl rfl 0 (by decide) f7 (fun _ h9 => h9) rfl dX9_readPlan_28 ?_
    refine lv_iconst (v := nI (0)) hx hb dX9_readPlan_31 (by decide) ?_
    refine xk_v [(mo, .inr (9, [.ref na, .ref nb, .ref nc, .ref nd, .int (bI (ms)), .int (nI k119), .ref ne, .int (nI my), .int (nI 0), .int (nI p16), .ref nf, .ref ng, .ref nh, .ref ni, .ref nj, .ref nl])), (nc, .inl (ca 0, 2210, .inl (zF pa119))), (ne, .inl (ca 0, 60, .inl (zF sg)))] (fun u => [(mo, .inr (9, [.ref na, .ref nb, .ref nc, .ref nd, .int (bI (ms)), .int (nI k119), .ref ne, .int (nI my), .int (nI 0), .int (nI p16), .ref nf, .ref ng, .ref nh, .ref ni, .ref nj, .ref nl])), (na, .inl (ca 0, 442, .inl (zF (cpF sv16 0 sn 0 442)))), (nc, .inl (ca 0, 2210, .inl (zF pa119))), (nb, .inl (ca 0, 442, .inl (zF sv16))), (ne, .inl (ca 0, 60, .inl (zF sg)))]) (xk_S (As := [.ref nb, .int (nI 0), .ref na, .int (nI 0)]) (rest := []) ⟨hx, hb, hml, hown, hts⟩ (mX9_copies l D ca H.size nb na 442 442 sv16 sn 0 0 (by omega) (by omega)) (va_cwS 4 hts gX9_readPlan_X9_copies rfl rfl rfl (by decide +kernel) ⟨Nat.le_of_ble_eq_true rfl, Nat.le_of_ble_eq_true rfl⟩) hK hP hD [3, 1] rfl rfl rfl hl.1 rfl (Nat.le_of_ble_eq_true rfl) dX9_readPlan_32 ⟨Nat.le_of_ble_eq_true rfl, Nat.le_of_ble_eq_true rfl⟩) hP hD hS hA [3, 1] [0, 2, 4] [0, 4, 1, 3, 2] rfl rfl rfl rfl (fun _ => rfl) rfl (fun u32 H locs hw32 hP hD hS => ?_)
    have hw32 : True := hw32
    have hP : va_P D vwCl [(mo, .inr (9, [.ref na, .ref nb, .ref nc, .ref nd, .int (bI (ms)), .int (nI k119), .ref ne, .int (nI my), .int (nI 0), .int (nI p16), .ref nf, .ref ng, .ref nh, .ref ni, .ref nj, .ref nl])), (na, .inl (ca 0, 442, .inl (zF (cpF sv16 0 sn 0 442)))), (nc, .inl (ca 0, 2210, .inl (zF pa119))), (nb, .inl (ca 0, 442, .inl (zF sv16))), (ne, .inl (ca 0, 60, .inl (zF sg)))] H := hP
    have hD : va_D A [(mo, .inr (9, [.ref na, .ref nb, .ref nc, .ref nd, .int (bI (ms)), .int (nI k119), .ref ne, .int (nI my), .int (nI 0), .int (nI p16), .ref nf, .ref ng, .ref nh, .ref ni, .ref nj, .ref nl])), (na, .inl (ca 0, 442, .inl (zF (cpF sv16 0 sn 0 442)))), (nc, .inl (ca 0, 2210, .inl (zF pa119))), (nb, .inl (ca 0, 442, .inl (zF sv16))), (ne, .inl (ca 0, 60, .inl (zF sg)))] := hD
    refine lv_aload_n hx hb dX9_readPlan_35 rfl (lv_at hl 0 rfl) ?_
    refine va_get (D := D) (ci := 9) (v := .ref na) (C := RX9) (T := TX9) (N := 16) hx hb hts inX9 hown hK hP 0 rfl rfl 0 (by decide) f7 (fun _ h9 => h9) rfl dX9_readPlan_36 ?_
    refine lv_iconst (v := nI (0)) hx hb dX9_readPlan_39 (by decide) ?_
    refine xr_iald hx hb hK hP 1 0 rfl rfl (by omega) (Nat.le_of_ble_eq_true rfl) (v := iZ ((cpF sv16 0 sn 0 442) 0)) rfl dX9_readPlan_40 ?_
    refine xr_top (y := nI ((prs sg my).2.2.1)) (by rw [iZ_n, cp_at0 0 (by omega)]; exact congrArg iZ (hv6.2 h9).1) ?_
    have hh9 := h9
    rw [← hE]
    exact xe_i (0, k119, cpF sv16 0 sn 0 442, pa119, p16, sv16) hx hb hr hlocks hK hP hD hS (⟨(k0_t hh9).symm, fun _ => ⟨rfl, MS_cp (hv6.2 hh9) (prs_ok hh9).2.1, hw19⟩, fun h9 => absurd (k0_t hh9) h9⟩) dX9_readPlan_41
  · skip
    have h9 := bI_0.mp h9
    refine lv_aload_n hx hb dX9_readPlan_12 rfl (lv_at hl 0 rfl) ?_
    refine lv_iconst (v := nI (1)) hx hb dX9_readPlan_13 (by decide) ?_
    refine xk_i [(na, .inl (ca 0, 442, .inl (zF sn))), (nc, .inl (ca 0, 2210, .inl (zF pa))), (nb, .inl (ca 0, 442, .inl (zF sv16))), (ne, .inl (ca 0, 60, .inl (zF sg)))] (fun u => [(mo, .inr (9, [.ref na, .ref nb, .ref nc, .ref nd, .int (bI (ms)), .int (nI mk), .ref ne, .int (nI my), .int (nI 1), .int (nI p16), .ref nf, .ref ng, .ref nh, .ref ni, .ref nj, .ref nl])), (na, .inl (ca 0, 442, .inl (zF sn))), (nc, .inl (ca 0, 2210, .inl (zF pa))), (nb, .inl (ca 0, 442, .inl (zF sv16))), (ne, .inl (ca 0, 60, .inl (zF sg)))]) (xk_V (As := [.int (nI 1)]) (rest := []) ⟨hx, hb, hml, hown, hts⟩ (mX9_fails l D ca H.size mo na nb nc nd ne nf ng nh ni nj nl ms mk my 0 p16 1 ) (cwV 1 hts gX9_readPlan_X9_fails rfl rfl rfl (by decide +kernel) ⟨Nat.le_of_ble_eq_true rfl, Nat.le_of_ble_eq_true rfl⟩) hK hP hD (va_recv (q := (RX9, TX9, 16)) hK hP (ci := 9) (q0 := 0) rfl rfl) [0] rfl rfl rfl hl.1 rfl (Nat.le_of_ble_eq_true rfl) dX9_readPlan_14 ⟨Nat.le_of_ble_eq_true rfl, Nat.le_of_ble_eq_true rfl⟩) hP hD hS hA [0] [1, 2, 3, 4] [4, 0, 1, 2, 3] rfl rfl rfl rfl (fun _ => rfl) rfl (fun r14 u14 H locs hw14 hP hD hS => ?_)
    have hw14 : r14 = nI 0 := hw14
    have hP : va_P D vwCl [(mo, .inr (9, [.ref na, .ref nb, .ref nc, .ref nd, .int (bI (ms)), .int (nI mk), .ref ne, .int (nI my), .int (nI 1), .int (nI p16), .ref nf, .ref ng, .ref nh, .ref ni, .ref nj, .ref nl])), (na, .inl (ca 0, 442, .inl (zF sn))), (nc, .inl (ca 0, 2210, .inl (zF pa))), (nb, .inl (ca 0, 442, .inl (zF sv16))), (ne, .inl (ca 0, 60, .inl (zF sg)))] H := hP
    have hD : va_D A [(mo, .inr (9, [.ref na, .ref nb, .ref nc, .ref nd, .int (bI (ms)), .int (nI mk), .ref ne, .int (nI my), .int (nI 1), .int (nI p16), .ref nf, .ref ng, .ref nh, .ref ni, .ref nj, .ref nl])), (na, .inl (ca 0, 442, .inl (zF sn))), (nc, .inl (ca 0, 2210, .inl (zF pa))), (nb, .inl (ca 0, 442, .inl (zF sv16))), (ne, .inl (ca 0, 60, .inl (zF sg)))] := hD
    have hwr14 := hw14
    subst hwr14
    have hh9 := h9
    rw [← hE]
    exact xe_i (1, mk, sn, pa, p16, sv16) hx hb hr hlocks hK hP hD hS (⟨(k0_f hh9).symm, fun h9 => absurd (h9.symm.trans (k0_f hh9)) (by decide), fun _ => ⟨rfl, rfl, rfl⟩⟩) dX9_readPlan_17
def rX9_append : Room := { frames := 1, cells := 0, slots := 0, locals := 21 }
set_option maxHeartbeats 4000000 in
set_option maxRecDepth 100000 in
theorem mX9_append (l : Launch) (D : va_G) (ca : Nat → ClassId) (sz : Nat) (mo : Nat) (na : Nat) (nb : Nat) (nc : Nat) (nd : Nat) (ne : Nat) (nf : Nat) (ng : Nat) (nh : Nat) (ni : Nat) (nj : Nat) (nl : Nat) (ms : Bool) (mk : Nat) (my : Nat) (mt : Nat) (mp : Nat) (sg : Nat → Int) (ch : Nat) (hmy : my ≤ 60) (hsg : ∀ j, j < 60 → 0 ≤ sg j ∧ sg j ≤ 65535) : MM l yX9_append wsX9_append rX9_append D ca [.ref mo, .int (nI ch)] sz [(mo, .inr (9, [.ref na, .ref nb, .ref nc, .ref nd, .int (bI (ms)), .int (nI mk), .ref ne, .int (nI my), .int (nI mt), .int (nI mp), .ref nf, .ref ng, .ref nh, .ref ni, .ref nj, .ref nl])), (ne, .inl (ca 0, 60, .inl (zF sg)))] (QI D ca (fun (r : Int32) (u : Nat × Nat × (Nat → Int)) => u.1 = k60 my ∧ (k60 my = 0 → r = nI (my + 1) ∧ u.2.1 = my + 1 ∧ u.2.2 = upZ sg my (ch : Int)) ∧ (¬ k60 my = 0 → u.2.1 = my ∧ u.2.2 = sg)) (fun u => [(mo, .inr (9, [.ref na, .ref nb, .ref nc, .ref nd, .int (bI (ms)), .int (nI mk), .ref ne, .int (nI u.2.1), .int (nI u.1), .int (nI mp), .ref nf, .ref ng, .ref nh, .ref ni, .ref nj, .ref nl])), (ne, .inl (ca 0, 60, .inl (zF u.2.2)))])) := by
  refine MM_of (cc := cX9_append) (maxL := 2) (ret := (some .int)) (lv0 := [(0, .ref mo), (1, .int (nI ch))]) RX9 (by decide) rfl rfl (Nat.le_of_ble_eq_true rfl) rfl ?_
  intro pG eV s mI args below meth cO hx hb hr hml hts hown hlocks hnm A hA H locs hsz hP hK hD hS Q hE ls hl
  have f44 := hts (.fieldLink RX9 44 "SlackPlanModel" "thrown" "I") (List.mem_of_getElem? (i := 1) rfl)
  have inX9 : ∀ w ∈ u_ws RX9 TX9 16, w ∈ wsX9_append := in_r _ [9, 10, 11, 12, 13, 14, 15, 16, 17, 18, 19, 20, 21, 22, 23, 24] rfl
  have f108 := hts (.fieldLink RX9 108 "SlackPlanModel" "typed" "I") (List.mem_of_getElem? (i := 2) rfl)
  have f22 := hts (.fieldLink RX9 22 "SlackPlanModel" "text" "[I") (List.mem_of_getElem? (i := 3) rfl)
  refine lv_aload_n hx hb dX9_append_0 rfl (lv_at hl 0 rfl) ?_
  refine lv_iconst (v := nI (0)) hx hb dX9_append_1 (by decide) ?_
  refine va_put (D := D) (ci := 9) (v := .int (nI 0)) (ty := .int) (C := RX9) (T := TX9) (N := 16) hx hb hts inX9 tyX9 tyX9_ok nmX9 hown hK hP hD hS 0 rfl rfl 8 (by decide) f44 (fun _ h9 => h9) rfl (by decide +kernel) rfl rfl (Nat.le_of_ble_eq_true rfl) dX9_append_2 (fun H locs hP hD hS => ?_)
  have hP : va_P D vwCl [(mo, .inr (9, [.ref na, .ref nb, .ref nc, .ref nd, .int (bI (ms)), .int (nI mk), .ref ne, .int (nI my), .int (nI 0), .int (nI mp), .ref nf, .ref ng, .ref nh, .ref ni, .ref nj, .ref nl])), (ne, .inl (ca 0, 60, .inl (zF sg)))] H := hP
  have hD : va_D A [(mo, .inr (9, [.ref na, .ref nb, .ref nc, .ref nd, .int (bI (ms)), .int (nI mk), .ref ne, .int (nI my), .int (nI 0), .int (nI mp), .ref nf, .ref ng, .ref nh, .ref ni, .ref nj, .ref nl])), (ne, .inl (ca 0, 60, .inl (zF sg)))] := hD
  refine lv_aload_n hx hb dX9_append_5 rfl (lv_at hl 0 rfl) ?_
  refine va_get (D := D) (ci := 9) (v := .int (nI my)) (C := RX9) (T := TX9) (N := 16) hx hb hts inX9 hown hK hP 0 rfl rfl 7 (by decide) f108 (fun _ h9 => h9) rfl dX9_append_6 ?_
  refine lv_bipush (v := nI (60)) hx hb dX9_append_9 (by decide) ?_
  refine lv_icmp_ne (tgt := 20) hx hb dX9_append_11 (by decide) (fun h11 => ?_) (fun h11 => ?_)
  · skip
    have h11 := (not_congr (cE (nI_toInt (by omega)) (nI_toInt (by omega)))).mp h11
    refine lv_aload_n hx hb dX9_append_20 rfl (lv_at hl 0 rfl) ?_
    refine va_get (D := D) (ci := 9) (v := .ref ne) (C := RX9) (T := TX9) (N := 16) hx hb hts inX9 hown hK hP 0 rfl rfl 6 (by decide) f22 (fun _ h9 => h9) rfl dX9_append_21 ?_
    refine lv_aload_n hx hb dX9_append_24 rfl (lv_at hl 0 rfl) ?_
    refine va_get (D := D) (ci := 9) (v := .int (nI my)) (C := RX9) (T := TX9) (N := 16) hx hb hts inX9 hown hK hP 0 rfl rfl 7 (by decide) f108 (fun _ h9 => h9) rfl dX9_append_25 ?_
    refine lv_iload_n hx hb dX9_append_28 rfl (lv_at hl 1 rfl) ?_
    refine xr_iast hx hb hK hP hD hS 1 0 rfl rfl (by omega) (Nat.le_of_ble_eq_true rfl) (zF (upZ sg my ((ch : Nat) : Int))) (fun _ _ => zF_upn _ _ _ _) dX9_append_29 (fun H locs hP hD hS => ?_)
    have hP : va_P D vwCl [(mo, .inr (9, [.ref na, .ref nb, .ref nc, .ref nd, .int (bI (ms)), .int (nI mk), .ref ne, .int (nI my), .int (nI 0), .int (nI mp), .ref nf, .ref ng, .ref nh, .ref ni, .ref nj, .ref nl])), (ne, .inl (ca 0, 60, .inl (zF (upZ sg my ((ch : Nat) : Int)))))] H := hP
    have hD : va_D A [(mo, .inr (9, [.ref na, .ref nb, .ref nc, .ref nd, .int (bI (ms)), .int (nI mk), .ref ne, .int (nI my), .int (nI 0), .int (nI mp), .ref nf, .ref ng, .ref nh, .ref ni, .ref nj, .ref nl])), (ne, .inl (ca 0, 60, .inl (zF (upZ sg my ((ch : Nat) : Int)))))] := hD
    refine lv_aload_n hx hb dX9_append_30 rfl (lv_at hl 0 rfl) ?_
    refine lv_dup hx hb dX9_append_31 rfl ?_
    refine va_get (D := D) (ci := 9) (v := .int (nI my)) (C := RX9) (T := TX9) (N := 16) hx hb hts inX9 hown hK hP 0 rfl rfl 7 (by decide) f108 (fun _ h9 => h9) rfl dX9_append_32 ?_
    refine lv_iconst (v := nI (1)) hx hb dX9_append_35 (by decide) ?_
    refine xr_iadd hx hb dX9_append_36 ?_
    refine va_put (D := D) (ci := 9) (v := .int (nI (my + 1))) (ty := .int) (C := RX9) (T := TX9) (N := 16) hx hb hts inX9 tyX9 tyX9_ok nmX9 hown hK hP hD hS 0 rfl rfl 7 (by decide) f108 (fun _ h9 => h9) rfl (by decide +kernel) rfl rfl (Nat.le_of_ble_eq_true rfl) dX9_append_37 (fun H locs hP hD hS => ?_)
    have hP : va_P D vwCl [(mo, .inr (9, [.ref na, .ref nb, .ref nc, .ref nd, .int (bI (ms)), .int (nI mk), .ref ne, .int (nI (my + 1)), .int (nI 0), .int (nI mp), .ref nf, .ref ng, .ref nh, .ref ni, .ref nj, .ref nl])), (ne, .inl (ca 0, 60, .inl (zF (upZ sg my ((ch : Nat) : Int)))))] H := hP
    have hD : va_D A [(mo, .inr (9, [.ref na, .ref nb, .ref nc, .ref nd, .int (bI (ms)), .int (nI mk), .ref ne, .int (nI (my + 1)), .int (nI 0), .int (nI mp), .ref nf, .ref ng, .ref nh, .ref ni, .ref nj, .ref nl])), (ne, .inl (ca 0, 60, .inl (zF (upZ sg my ((ch : Nat) : Int)))))] := hD
    refine lv_aload_n hx hb dX9_append_40 rfl (lv_at hl 0 rfl) ?_
    refine va_get (D := D) (ci := 9) (v := .int (nI (my + 1))) (C := RX9) (T := TX9) (N := 16) hx hb hts inX9 hown hK hP 0 rfl rfl 7 (by decide) f108 (fun _ h9 => h9) rfl dX9_append_41 ?_
    rw [← hE]
    exact xe_i (0, (my + 1), upZ sg my ((ch : Nat) : Int)) hx hb hr hlocks hK hP hD hS (⟨(k60_0 (z := my) (by omega)).symm, fun _ => ⟨rfl, rfl, rfl⟩, fun h9 => absurd (k60_0 (z := my) (by omega)) h9⟩) dX9_append_44
  · skip
    have h11 := (cE (nI_toInt (by omega)) (nI_toInt (by omega))).mp h11
    refine lv_aload_n hx hb dX9_append_14 rfl (lv_at hl 0 rfl) ?_
    refine lv_iconst (v := nI (1)) hx hb dX9_append_15 (by decide) ?_
    refine xk_i [(ne, .inl (ca 0, 60, .inl (zF sg)))] (fun u => [(mo, .inr (9, [.ref na, .ref nb, .ref nc, .ref nd, .int (bI (ms)), .int (nI mk), .ref ne, .int (nI my), .int (nI 1), .int (nI mp), .ref nf, .ref ng, .ref nh, .ref ni, .ref nj, .ref nl])), (ne, .inl (ca 0, 60, .inl (zF sg)))]) (xk_V (As := [.int (nI 1)]) (rest := []) ⟨hx, hb, hml, hown, hts⟩ (mX9_fails l D ca H.size mo na nb nc nd ne nf ng nh ni nj nl ms mk my 0 mp 1 ) (cwV 1 hts gX9_append_X9_fails rfl rfl rfl (by decide +kernel) ⟨Nat.le_of_ble_eq_true rfl, Nat.le_of_ble_eq_true rfl⟩) hK hP hD (va_recv (q := (RX9, TX9, 16)) hK hP (ci := 9) (q0 := 0) rfl rfl) [0] rfl rfl rfl hl.1 rfl (Nat.le_of_ble_eq_true rfl) dX9_append_16 ⟨Nat.le_of_ble_eq_true rfl, Nat.le_of_ble_eq_true rfl⟩) hP hD hS hA [0] [1] [1, 0] rfl rfl rfl rfl (fun _ => rfl) rfl (fun r16 u16 H locs hw16 hP hD hS => ?_)
    have hw16 : r16 = nI 0 := hw16
    have hP : va_P D vwCl [(mo, .inr (9, [.ref na, .ref nb, .ref nc, .ref nd, .int (bI (ms)), .int (nI mk), .ref ne, .int (nI my), .int (nI 1), .int (nI mp), .ref nf, .ref ng, .ref nh, .ref ni, .ref nj, .ref nl])), (ne, .inl (ca 0, 60, .inl (zF sg)))] H := hP
    have hD : va_D A [(mo, .inr (9, [.ref na, .ref nb, .ref nc, .ref nd, .int (bI (ms)), .int (nI mk), .ref ne, .int (nI my), .int (nI 1), .int (nI mp), .ref nf, .ref ng, .ref nh, .ref ni, .ref nj, .ref nl])), (ne, .inl (ca 0, 60, .inl (zF sg)))] := hD
    have hwr16 := hw16
    subst hwr16
    rw [← hE]
    exact xe_i (1, my, sg) hx hb hr hlocks hK hP hD hS (⟨(k60_1 (by omega)).symm, fun h9 => absurd (h9.symm.trans (k60_1 (by omega))) (by decide), fun _ => ⟨rfl, rfl⟩⟩) dX9_append_19
def rX9_isValid : Room := { frames := 5, cells := 0, slots := 0, locals := 114 }
set_option maxHeartbeats 4000000 in
set_option maxRecDepth 100000 in
theorem mX9_isValid (l : Launch) (D : va_G) (ca : Nat → ClassId) (sz : Nat) (mo : Nat) (na : Nat) (nb : Nat) (nc : Nat) (nd : Nat) (ne : Nat) (nf : Nat) (ng : Nat) (nh : Nat) (ni : Nat) (nj : Nat) (nl : Nat) (ms : Bool) (mk : Nat) (my : Nat) (mt : Nat) (mp : Nat) (sn : Nat → Int) (sv : Nat → Int) (sg : Nat → Int) (C : Int) (hmy : my ≤ 60) (hsg : ∀ j, j < 60 → 0 ≤ sg j ∧ sg j ≤ 65535) (hs1 : sn 1 = C) : MM l yX9_isValid wsX9_isValid rX9_isValid D ca [.ref mo] sz [(mo, .inr (9, [.ref na, .ref nb, .ref nc, .ref nd, .int (bI (ms)), .int (nI mk), .ref ne, .int (nI my), .int (nI mt), .int (nI mp), .ref nf, .ref ng, .ref nh, .ref ni, .ref nj, .ref nl])), (na, .inl (ca 0, 442, .inl (zF sn))), (nb, .inl (ca 0, 442, .inl (zF sv))), (ne, .inl (ca 0, 60, .inl (zF sg)))] (QI D ca (fun (r : Int32) (u : Nat × (Nat → Int)) => r = bI (prs sg my).1) (fun u => [(mo, .inr (9, [.ref na, .ref nb, .ref nc, .ref nd, .int (bI (ms)), .int (nI mk), .ref ne, .int (nI my), .int (nI 0), .int (nI u.1), .ref nf, .ref ng, .ref nh, .ref ni, .ref nj, .ref nl])), (na, .inl (ca 0, 442, .inl (zF sn))), (nb, .inl (ca 0, 442, .inl (zF u.2))), (ne, .inl (ca 0, 60, .inl (zF sg)))])) := by
  refine MM_of (cc := cX9_isValid) (maxL := 1) (ret := (some .boolean)) (lv0 := [(0, .ref mo)]) RX9 (by decide) rfl rfl (Nat.le_of_ble_eq_true rfl) rfl ?_
  intro pG eV s mI args below meth cO hx hb hr hml hts hown hlocks hnm A hA H locs hsz hP hK hD hS Q hE ls hl
  have f44 := hts (.fieldLink RX9 44 "SlackPlanModel" "thrown" "I") (List.mem_of_getElem? (i := 1) rfl)
  have inX9 : ∀ w ∈ u_ws RX9 TX9 16, w ∈ wsX9_isValid := in_r _ [34, 35, 36, 37, 38, 39, 40, 41, 42, 43, 44, 45, 46, 47, 48, 49] rfl
  refine lv_aload_n hx hb dX9_isValid_0 rfl (lv_at hl 0 rfl) ?_
  refine lv_iconst (v := nI (0)) hx hb dX9_isValid_1 (by decide) ?_
  refine va_put (D := D) (ci := 9) (v := .int (nI 0)) (ty := .int) (C := RX9) (T := TX9) (N := 16) hx hb hts inX9 tyX9 tyX9_ok nmX9 hown hK hP hD hS 0 rfl rfl 8 (by decide) f44 (fun _ h9 => h9) rfl (by decide +kernel) rfl rfl (Nat.le_of_ble_eq_true rfl) dX9_isValid_2 (fun H locs hP hD hS => ?_)
  have hP : va_P D vwCl [(mo, .inr (9, [.ref na, .ref nb, .ref nc, .ref nd, .int (bI (ms)), .int (nI mk), .ref ne, .int (nI my), .int (nI 0), .int (nI mp), .ref nf, .ref ng, .ref nh, .ref ni, .ref nj, .ref nl])), (na, .inl (ca 0, 442, .inl (zF sn))), (nb, .inl (ca 0, 442, .inl (zF sv))), (ne, .inl (ca 0, 60, .inl (zF sg)))] H := hP
  have hD : va_D A [(mo, .inr (9, [.ref na, .ref nb, .ref nc, .ref nd, .int (bI (ms)), .int (nI mk), .ref ne, .int (nI my), .int (nI 0), .int (nI mp), .ref nf, .ref ng, .ref nh, .ref ni, .ref nj, .ref nl])), (na, .inl (ca 0, 442, .inl (zF sn))), (nb, .inl (ca 0, 442, .inl (zF sv))), (ne, .inl (ca 0, 60, .inl (zF sg)))] := hD
  refine lv_aload_n hx hb dX9_isValid_5 rfl (lv_at hl 0 rfl) ?_
  refine xk_i [] (fun u => [(mo, .inr (9, [.ref na, .ref nb, .ref nc, .ref nd, .int (bI (ms)), .int (nI mk), .ref ne, .int (nI my), .int (nI 0), .int (nI u.1), .ref nf, .ref ng, .ref nh, .ref ni, .ref nj, .ref nl])), (na, .inl (ca 0, 442, .inl (zF sn))), (nb, .inl (ca 0, 442, .inl (zF u.2))), (ne, .inl (ca 0, 60, .inl (zF sg)))]) (xk_V (As := []) (rest := []) ⟨hx, hb, hml, hown, hts⟩ (mX9_reads l D ca H.size mo na nb nc nd ne nf ng nh ni nj nl ms mk my 0 mp sn sv sg C (by omega) hsg (by omega)) (cwV 0 hts gX9_isValid_X9_reads rfl rfl rfl (by decide +kernel) ⟨Nat.le_of_ble_eq_true rfl, Nat.le_of_ble_eq_true rfl⟩) hK hP hD (va_recv (q := (RX9, TX9, 16)) hK hP (ci := 9) (q0 := 0) rfl rfl) [0, 1, 2, 3] rfl rfl rfl hl.1 rfl (Nat.le_of_ble_eq_true rfl) dX9_isValid_6 ⟨Nat.le_of_ble_eq_true rfl, Nat.le_of_ble_eq_true rfl⟩) hP hD hS hA [0, 1, 2, 3] [] [0, 1, 2, 3] rfl rfl rfl rfl (fun _ => rfl) rfl (fun r6 u6 H locs hw6 hP hD hS => ?_)
  obtain ⟨p16, sv16⟩ := u6
  have hw6 : r6 = bI (prs sg my).1 ∧ p16 = (prs sg my).2.1 ∧ ((prs sg my).1 = true → MS sv16 (prs sg my).2.2.1 C (prs sg my).2.2.2.1 (prs sg my).2.2.2.2.1 (prs sg my).2.2.2.2.2) := hw6
  have hP : va_P D vwCl [(mo, .inr (9, [.ref na, .ref nb, .ref nc, .ref nd, .int (bI (ms)), .int (nI mk), .ref ne, .int (nI my), .int (nI 0), .int (nI p16), .ref nf, .ref ng, .ref nh, .ref ni, .ref nj, .ref nl])), (na, .inl (ca 0, 442, .inl (zF sn))), (nb, .inl (ca 0, 442, .inl (zF sv16))), (ne, .inl (ca 0, 60, .inl (zF sg)))] H := hP
  have hD : va_D A [(mo, .inr (9, [.ref na, .ref nb, .ref nc, .ref nd, .int (bI (ms)), .int (nI mk), .ref ne, .int (nI my), .int (nI 0), .int (nI p16), .ref nf, .ref ng, .ref nh, .ref ni, .ref nj, .ref nl])), (na, .inl (ca 0, 442, .inl (zF sn))), (nb, .inl (ca 0, 442, .inl (zF sv16))), (ne, .inl (ca 0, 60, .inl (zF sg)))] := hD
  obtain ⟨hwr6, hv6⟩ := hw6
  subst hwr6
  rw [← hE]
  exact xe_z (p16, sv16) hx hb hr hlocks hK hP hD hS (bI_nar _) rfl dX9_isValid_9
def rX9_firstError : Room := { frames := 5, cells := 0, slots := 0, locals := 114 }
set_option maxHeartbeats 4000000 in
set_option maxRecDepth 100000 in
theorem mX9_firstError (l : Launch) (D : va_G) (ca : Nat → ClassId) (sz : Nat) (mo : Nat) (na : Nat) (nb : Nat) (nc : Nat) (nd : Nat) (ne : Nat) (nf : Nat) (ng : Nat) (nh : Nat) (ni : Nat) (nj : Nat) (nl : Nat) (ms : Bool) (mk : Nat) (my : Nat) (mt : Nat) (mp : Nat) (sn : Nat → Int) (sv : Nat → Int) (sg : Nat → Int) (C : Int) (hmy : my ≤ 60) (hsg : ∀ j, j < 60 → 0 ≤ sg j ∧ sg j ≤ 65535) (hs1 : sn 1 = C) : MM l yX9_firstError wsX9_firstError rX9_firstError D ca [.ref mo] sz [(mo, .inr (9, [.ref na, .ref nb, .ref nc, .ref nd, .int (bI (ms)), .int (nI mk), .ref ne, .int (nI my), .int (nI mt), .int (nI mp), .ref nf, .ref ng, .ref nh, .ref ni, .ref nj, .ref nl])), (na, .inl (ca 0, 442, .inl (zF sn))), (nb, .inl (ca 0, 442, .inl (zF sv))), (ne, .inl (ca 0, 60, .inl (zF sg)))] (QI D ca (fun (r : Int32) (u : Nat × Nat × (Nat → Int)) => u.1 = k0 (decide ((prs sg my).1 = false)) ∧ (k0 (decide ((prs sg my).1 = false)) = 0 → r = nI (prs sg my).2.1)) (fun u => [(mo, .inr (9, [.ref na, .ref nb, .ref nc, .ref nd, .int (bI (ms)), .int (nI mk), .ref ne, .int (nI my), .int (nI u.1), .int (nI u.2.1), .ref nf, .ref ng, .ref nh, .ref ni, .ref nj, .ref nl])), (na, .inl (ca 0, 442, .inl (zF sn))), (nb, .inl (ca 0, 442, .inl (zF u.2.2))), (ne, .inl (ca 0, 60, .inl (zF sg)))])) := by
  refine MM_of (cc := cX9_firstError) (maxL := 1) (ret := (some .int)) (lv0 := [(0, .ref mo)]) RX9 (by decide) rfl rfl (Nat.le_of_ble_eq_true rfl) rfl ?_
  intro pG eV s mI args below meth cO hx hb hr hml hts hown hlocks hnm A hA H locs hsz hP hK hD hS Q hE ls hl
  have f44 := hts (.fieldLink RX9 44 "SlackPlanModel" "thrown" "I") (List.mem_of_getElem? (i := 1) rfl)
  have inX9 : ∀ w ∈ u_ws RX9 TX9 16, w ∈ wsX9_firstError := in_r _ [38, 39, 40, 41, 42, 43, 44, 45, 46, 47, 48, 49, 50, 51, 52, 53] rfl
  have f105 := hts (.fieldLink RX9 105 "SlackPlanModel" "at" "I") (List.mem_of_getElem? (i := 2) rfl)
  refine lv_aload_n hx hb dX9_firstError_0 rfl (lv_at hl 0 rfl) ?_
  refine lv_iconst (v := nI (0)) hx hb dX9_firstError_1 (by decide) ?_
  refine va_put (D := D) (ci := 9) (v := .int (nI 0)) (ty := .int) (C := RX9) (T := TX9) (N := 16) hx hb hts inX9 tyX9 tyX9_ok nmX9 hown hK hP hD hS 0 rfl rfl 8 (by decide) f44 (fun _ h9 => h9) rfl (by decide +kernel) rfl rfl (Nat.le_of_ble_eq_true rfl) dX9_firstError_2 (fun H locs hP hD hS => ?_)
  have hP : va_P D vwCl [(mo, .inr (9, [.ref na, .ref nb, .ref nc, .ref nd, .int (bI (ms)), .int (nI mk), .ref ne, .int (nI my), .int (nI 0), .int (nI mp), .ref nf, .ref ng, .ref nh, .ref ni, .ref nj, .ref nl])), (na, .inl (ca 0, 442, .inl (zF sn))), (nb, .inl (ca 0, 442, .inl (zF sv))), (ne, .inl (ca 0, 60, .inl (zF sg)))] H := hP
  have hD : va_D A [(mo, .inr (9, [.ref na, .ref nb, .ref nc, .ref nd, .int (bI (ms)), .int (nI mk), .ref ne, .int (nI my), .int (nI 0), .int (nI mp), .ref nf, .ref ng, .ref nh, .ref ni, .ref nj, .ref nl])), (na, .inl (ca 0, 442, .inl (zF sn))), (nb, .inl (ca 0, 442, .inl (zF sv))), (ne, .inl (ca 0, 60, .inl (zF sg)))] := hD
  refine lv_aload_n hx hb dX9_firstError_5 rfl (lv_at hl 0 rfl) ?_
  refine xk_i [] (fun u => [(mo, .inr (9, [.ref na, .ref nb, .ref nc, .ref nd, .int (bI (ms)), .int (nI mk), .ref ne, .int (nI my), .int (nI 0), .int (nI u.1), .ref nf, .ref ng, .ref nh, .ref ni, .ref nj, .ref nl])), (na, .inl (ca 0, 442, .inl (zF sn))), (nb, .inl (ca 0, 442, .inl (zF u.2))), (ne, .inl (ca 0, 60, .inl (zF sg)))]) (xk_V (As := []) (rest := []) ⟨hx, hb, hml, hown, hts⟩ (mX9_reads l D ca H.size mo na nb nc nd ne nf ng nh ni nj nl ms mk my 0 mp sn sv sg C (by omega) hsg (by omega)) (cwV 0 hts gX9_firstError_X9_reads rfl rfl rfl (by decide +kernel) ⟨Nat.le_of_ble_eq_true rfl, Nat.le_of_ble_eq_true rfl⟩) hK hP hD (va_recv (q := (RX9, TX9, 16)) hK hP (ci := 9) (q0 := 0) rfl rfl) [0, 1, 2, 3] rfl rfl rfl hl.1 rfl (Nat.le_of_ble_eq_true rfl) dX9_firstError_6 ⟨Nat.le_of_ble_eq_true rfl, Nat.le_of_ble_eq_true rfl⟩) hP hD hS hA [0, 1, 2, 3] [] [0, 1, 2, 3] rfl rfl rfl rfl (fun _ => rfl) rfl (fun r6 u6 H locs hw6 hP hD hS => ?_)
  obtain ⟨p16, sv16⟩ := u6
  have hw6 : r6 = bI (prs sg my).1 ∧ p16 = (prs sg my).2.1 ∧ ((prs sg my).1 = true → MS sv16 (prs sg my).2.2.1 C (prs sg my).2.2.2.1 (prs sg my).2.2.2.2.1 (prs sg my).2.2.2.2.2) := hw6
  have hP : va_P D vwCl [(mo, .inr (9, [.ref na, .ref nb, .ref nc, .ref nd, .int (bI (ms)), .int (nI mk), .ref ne, .int (nI my), .int (nI 0), .int (nI p16), .ref nf, .ref ng, .ref nh, .ref ni, .ref nj, .ref nl])), (na, .inl (ca 0, 442, .inl (zF sn))), (nb, .inl (ca 0, 442, .inl (zF sv16))), (ne, .inl (ca 0, 60, .inl (zF sg)))] H := hP
  have hD : va_D A [(mo, .inr (9, [.ref na, .ref nb, .ref nc, .ref nd, .int (bI (ms)), .int (nI mk), .ref ne, .int (nI my), .int (nI 0), .int (nI p16), .ref nf, .ref ng, .ref nh, .ref ni, .ref nj, .ref nl])), (na, .inl (ca 0, 442, .inl (zF sn))), (nb, .inl (ca 0, 442, .inl (zF sv16))), (ne, .inl (ca 0, 60, .inl (zF sg)))] := hD
  obtain ⟨hwr6, hv6⟩ := hw6
  subst hwr6
  refine lv_if_eq (tgt := 20) hx hb dX9_firstError_9 (by decide) (fun h9 => ?_) (fun h9 => ?_)
  · skip
    have h9 := bI_0.mp h9
    refine lv_aload_n hx hb dX9_firstError_20 rfl (lv_at hl 0 rfl) ?_
    refine va_get (D := D) (ci := 9) (v := .int (nI p16)) (C := RX9) (T := TX9) (N := 16) hx hb hts inX9 hown hK hP 0 rfl rfl 9 (by decide) f105 (fun _ h9 => h9) rfl dX9_firstError_21 ?_
    have hh9 := h9
    rw [← hE]
    exact xe_i (0, p16, sv16) hx hb hr hlocks hK hP hD hS (⟨(k0_t (decide_eq_true h9)).symm, fun _ => congrArg nI hv6.1⟩) dX9_firstError_24
  · skip
    have h9 := bI_n0.mp h9
    refine lv_aload_n hx hb dX9_firstError_12 rfl (lv_at hl 0 rfl) ?_
    refine lv_iconst (v := nI (1)) hx hb dX9_firstError_13 (by decide) ?_
    refine xk_i [(na, .inl (ca 0, 442, .inl (zF sn))), (nb, .inl (ca 0, 442, .inl (zF sv16))), (ne, .inl (ca 0, 60, .inl (zF sg)))] (fun u => [(mo, .inr (9, [.ref na, .ref nb, .ref nc, .ref nd, .int (bI (ms)), .int (nI mk), .ref ne, .int (nI my), .int (nI 1), .int (nI p16), .ref nf, .ref ng, .ref nh, .ref ni, .ref nj, .ref nl])), (na, .inl (ca 0, 442, .inl (zF sn))), (nb, .inl (ca 0, 442, .inl (zF sv16))), (ne, .inl (ca 0, 60, .inl (zF sg)))]) (xk_V (As := [.int (nI 1)]) (rest := []) ⟨hx, hb, hml, hown, hts⟩ (mX9_fails l D ca H.size mo na nb nc nd ne nf ng nh ni nj nl ms mk my 0 p16 1 ) (cwV 1 hts gX9_firstError_X9_fails rfl rfl rfl (by decide +kernel) ⟨Nat.le_of_ble_eq_true rfl, Nat.le_of_ble_eq_true rfl⟩) hK hP hD (va_recv (q := (RX9, TX9, 16)) hK hP (ci := 9) (q0 := 0) rfl rfl) [0] rfl rfl rfl hl.1 rfl (Nat.le_of_ble_eq_true rfl) dX9_firstError_14 ⟨Nat.le_of_ble_eq_true rfl, Nat.le_of_ble_eq_true rfl⟩) hP hD hS hA [0] [1, 2, 3] [3, 0, 1, 2] rfl rfl rfl rfl (fun _ => rfl) rfl (fun r14 u14 H locs hw14 hP hD hS => ?_)
    have hw14 : r14 = nI 0 := hw14
    have hP : va_P D vwCl [(mo, .inr (9, [.ref na, .ref nb, .ref nc, .ref nd, .int (bI (ms)), .int (nI mk), .ref ne, .int (nI my), .int (nI 1), .int (nI p16), .ref nf, .ref ng, .ref nh, .ref ni, .ref nj, .ref nl])), (na, .inl (ca 0, 442, .inl (zF sn))), (nb, .inl (ca 0, 442, .inl (zF sv16))), (ne, .inl (ca 0, 60, .inl (zF sg)))] H := hP
    have hD : va_D A [(mo, .inr (9, [.ref na, .ref nb, .ref nc, .ref nd, .int (bI (ms)), .int (nI mk), .ref ne, .int (nI my), .int (nI 1), .int (nI p16), .ref nf, .ref ng, .ref nh, .ref ni, .ref nj, .ref nl])), (na, .inl (ca 0, 442, .inl (zF sn))), (nb, .inl (ca 0, 442, .inl (zF sv16))), (ne, .inl (ca 0, 60, .inl (zF sg)))] := hD
    have hwr14 := hw14
    subst hwr14
    refine lv_goto (tgt := 24) hx hb dX9_firstError_17 (by decide) ?_
    have hh9 := h9
    rw [← hE]
    exact xe_i (1, p16, sv16) hx hb hr hlocks hK hP hD hS (⟨(k0_f (decide_eq_false (bne hh9))).symm, fun h9 => absurd (h9.symm.trans (k0_f (decide_eq_false (bne hh9)))) (by decide)⟩) dX9_firstError_24
def rX9_undo : Room := { frames := 1, cells := 0, slots := 0, locals := 24 }
set_option maxHeartbeats 4000000 in
set_option maxRecDepth 100000 in
theorem mX9_undo (l : Launch) (D : va_G) (ca : Nat → ClassId) (sz : Nat) (mo : Nat) (na : Nat) (nb : Nat) (nc : Nat) (nd : Nat) (ne : Nat) (nf : Nat) (ng : Nat) (nh : Nat) (ni : Nat) (nj : Nat) (nl : Nat) (ms : Bool) (mk : Nat) (my : Nat) (mt : Nat) (mp : Nat) (sn : Nat → Int) (pa : Nat → Int) (hmk : mk ≤ 5) : MM l yX9_undo wsX9_undo rX9_undo D ca [.ref mo] sz [(mo, .inr (9, [.ref na, .ref nb, .ref nc, .ref nd, .int (bI (ms)), .int (nI mk), .ref ne, .int (nI my), .int (nI mt), .int (nI mp), .ref nf, .ref ng, .ref nh, .ref ni, .ref nj, .ref nl])), (na, .inl (ca 0, 442, .inl (zF sn))), (nc, .inl (ca 0, 2210, .inl (zF pa)))] (QI D ca (fun (r : Int32) (u : Nat × Nat × (Nat → Int)) => u.1 = kZ mk ∧ u.2.1 = mk - 1 ∧ (kZ mk = 0 → r = nI (mk - 1) ∧ ∀ j, j < 442 → u.2.2 j = pa (442 * (mk - 1) + j)) ∧ (¬ kZ mk = 0 → u.2.2 = sn)) (fun u => [(mo, .inr (9, [.ref na, .ref nb, .ref nc, .ref nd, .int (bI (ms)), .int (nI u.2.1), .ref ne, .int (nI my), .int (nI u.1), .int (nI mp), .ref nf, .ref ng, .ref nh, .ref ni, .ref nj, .ref nl])), (na, .inl (ca 0, 442, .inl (zF u.2.2))), (nc, .inl (ca 0, 2210, .inl (zF pa)))])) := by
  refine MM_of (cc := cX9_undo) (maxL := 1) (ret := (some .int)) (lv0 := [(0, .ref mo)]) RX9 (by decide) rfl rfl (Nat.le_of_ble_eq_true rfl) rfl ?_
  intro pG eV s mI args below meth cO hx hb hr hml hts hown hlocks hnm A hA H locs hsz hP hK hD hS Q hE ls hl
  have f44 := hts (.fieldLink RX9 44 "SlackPlanModel" "thrown" "I") (List.mem_of_getElem? (i := 1) rfl)
  have inX9 : ∀ w ∈ u_ws RX9 TX9 16, w ∈ wsX9_undo := in_r _ [13, 14, 15, 16, 17, 18, 19, 20, 21, 22, 23, 24, 25, 26, 27, 28] rfl
  have f52 := hts (.fieldLink RX9 52 "SlackPlanModel" "kept" "I") (List.mem_of_getElem? (i := 2) rfl)
  have f16 := hts (.fieldLink RX9 16 "SlackPlanModel" "past" "[I") (List.mem_of_getElem? (i := 3) rfl)
  have f7 := hts (.fieldLink RX9 7 "SlackPlanModel" "now" "[I") (List.mem_of_getElem? (i := 4) rfl)
  refine lv_aload_n hx hb dX9_undo_0 rfl (lv_at hl 0 rfl) ?_
  refine lv_iconst (v := nI (0)) hx hb dX9_undo_1 (by decide) ?_
  refine va_put (D := D) (ci := 9) (v := .int (nI 0)) (ty := .int) (C := RX9) (T := TX9) (N := 16) hx hb hts inX9 tyX9 tyX9_ok nmX9 hown hK hP hD hS 0 rfl rfl 8 (by decide) f44 (fun _ h9 => h9) rfl (by decide +kernel) rfl rfl (Nat.le_of_ble_eq_true rfl) dX9_undo_2 (fun H locs hP hD hS => ?_)
  have hP : va_P D vwCl [(mo, .inr (9, [.ref na, .ref nb, .ref nc, .ref nd, .int (bI (ms)), .int (nI mk), .ref ne, .int (nI my), .int (nI 0), .int (nI mp), .ref nf, .ref ng, .ref nh, .ref ni, .ref nj, .ref nl])), (na, .inl (ca 0, 442, .inl (zF sn))), (nc, .inl (ca 0, 2210, .inl (zF pa)))] H := hP
  have hD : va_D A [(mo, .inr (9, [.ref na, .ref nb, .ref nc, .ref nd, .int (bI (ms)), .int (nI mk), .ref ne, .int (nI my), .int (nI 0), .int (nI mp), .ref nf, .ref ng, .ref nh, .ref ni, .ref nj, .ref nl])), (na, .inl (ca 0, 442, .inl (zF sn))), (nc, .inl (ca 0, 2210, .inl (zF pa)))] := hD
  refine lv_aload_n hx hb dX9_undo_5 rfl (lv_at hl 0 rfl) ?_
  refine va_get (D := D) (ci := 9) (v := .int (nI mk)) (C := RX9) (T := TX9) (N := 16) hx hb hts inX9 hown hK hP 0 rfl rfl 5 (by decide) f52 (fun _ h9 => h9) rfl dX9_undo_6 ?_
  refine lv_if_ne (tgt := 18) hx hb dX9_undo_9 (by decide) (fun h9 => ?_) (fun h9 => ?_)
  · skip
    have h9 := (not_congr (cE (nI_toInt (by omega)) z0_toInt)).mp h9
    refine lv_aload_n hx hb dX9_undo_18 rfl (lv_at hl 0 rfl) ?_
    refine lv_dup hx hb dX9_undo_19 rfl ?_
    refine va_get (D := D) (ci := 9) (v := .int (nI mk)) (C := RX9) (T := TX9) (N := 16) hx hb hts inX9 hown hK hP 0 rfl rfl 5 (by decide) f52 (fun _ h9 => h9) rfl dX9_undo_20 ?_
    refine lv_iconst (v := nI (1)) hx hb dX9_undo_23 (by decide) ?_
    refine xr_isub_nn hx hb dX9_undo_24 ?_
    refine xr_top (y := nI (mk - 1)) (by rw [iZ_n]; exact congrArg iZ (by omega)) ?_
    refine va_put (D := D) (ci := 9) (v := .int (nI (mk - 1))) (ty := .int) (C := RX9) (T := TX9) (N := 16) hx hb hts inX9 tyX9 tyX9_ok nmX9 hown hK hP hD hS 0 rfl rfl 5 (by decide) f52 (fun _ h9 => h9) rfl (by decide +kernel) rfl rfl (Nat.le_of_ble_eq_true rfl) dX9_undo_25 (fun H locs hP hD hS => ?_)
    have hP : va_P D vwCl [(mo, .inr (9, [.ref na, .ref nb, .ref nc, .ref nd, .int (bI (ms)), .int (nI (mk - 1)), .ref ne, .int (nI my), .int (nI 0), .int (nI mp), .ref nf, .ref ng, .ref nh, .ref ni, .ref nj, .ref nl])), (na, .inl (ca 0, 442, .inl (zF sn))), (nc, .inl (ca 0, 2210, .inl (zF pa)))] H := hP
    have hD : va_D A [(mo, .inr (9, [.ref na, .ref nb, .ref nc, .ref nd, .int (bI (ms)), .int (nI (mk - 1)), .ref ne, .int (nI my), .int (nI 0), .int (nI mp), .ref nf, .ref ng, .ref nh, .ref ni, .ref nj, .ref nl])), (na, .inl (ca 0, 442, .inl (zF sn))), (nc, .inl (ca 0, 2210, .inl (zF pa)))] := hD
    refine lv_aload_n hx hb dX9_undo_28 rfl (lv_at hl 0 rfl) ?_
    refine va_get (D := D) (ci := 9) (v := .ref nc) (C := RX9) (T := TX9) (N := 16) hx hb hts inX9 hown hK hP 0 rfl rfl 2 (by decide) f16 (fun _ h9 => h9) rfl dX9_undo_29 ?_
    refine lv_sipush (v := nI (442)) hx hb dX9_undo_32 (by decide) ?_
    refine lv_aload_n hx hb dX9_undo_35 rfl (lv_at hl 0 rfl) ?_
    refine va_get (D := D) (ci := 9) (v := .int (nI (mk - 1))) (C := RX9) (T := TX9) (N := 16) hx hb hts inX9 hown hK hP 0 rfl rfl 5 (by decide) f52 (fun _ h9 => h9) rfl dX9_undo_36 ?_
    refine xr_imul hx hb dX9_undo_39 ?_
    refine lv_aload_n hx hb dX9_undo_40 rfl (lv_at hl 0 rfl) ?_
    refine va_get (D := D) (ci := 9) (v := .ref na) (C := RX9) (T := TX9) (N := 16) hx hb hts inX9 hown hK hP 0 rfl rfl 0 (by decide) f7 (fun _ h9 => h9) rfl dX9_undo_41 ?_
    refine lv_iconst (v := nI (0)) hx hb dX9_undo_44 (by decide) ?_
    refine xk_v [(mo, .inr (9, [.ref na, .ref nb, .ref nc, .ref nd, .int (bI (ms)), .int (nI (mk - 1)), .ref ne, .int (nI my), .int (nI 0), .int (nI mp), .ref nf, .ref ng, .ref nh, .ref ni, .ref nj, .ref nl]))] (fun u => [(mo, .inr (9, [.ref na, .ref nb, .ref nc, .ref nd, .int (bI (ms)), .int (nI (mk - 1)), .ref ne, .int (nI my), .int (nI 0), .int (nI mp), .ref nf, .ref ng, .ref nh, .ref ni, .ref nj, .ref nl])), (na, .inl (ca 0, 442, .inl (zF (cpF pa (442 * (mk - 1)) sn 0 442)))), (nc, .inl (ca 0, 2210, .inl (zF pa)))]) (xk_S (As := [.ref nc, .int (nI (442 * (mk - 1))), .ref na, .int (nI 0)]) (rest := []) ⟨hx, hb, hml, hown, hts⟩ (mX9_copies l D ca H.size nc na 2210 442 pa sn (442 * (mk - 1)) 0 (by omega) (by omega)) (va_cwS 4 hts gX9_undo_X9_copies rfl rfl rfl (by decide +kernel) ⟨Nat.le_of_ble_eq_true rfl, Nat.le_of_ble_eq_true rfl⟩) hK hP hD [2, 1] rfl rfl rfl hl.1 rfl (Nat.le_of_ble_eq_true rfl) dX9_undo_45 ⟨Nat.le_of_ble_eq_true rfl, Nat.le_of_ble_eq_true rfl⟩) hP hD hS hA [2, 1] [0] [0, 2, 1] rfl rfl rfl rfl (fun _ => rfl) rfl (fun u45 H locs hw45 hP hD hS => ?_)
    have hw45 : True := hw45
    have hP : va_P D vwCl [(mo, .inr (9, [.ref na, .ref nb, .ref nc, .ref nd, .int (bI (ms)), .int (nI (mk - 1)), .ref ne, .int (nI my), .int (nI 0), .int (nI mp), .ref nf, .ref ng, .ref nh, .ref ni, .ref nj, .ref nl])), (na, .inl (ca 0, 442, .inl (zF (cpF pa (442 * (mk - 1)) sn 0 442)))), (nc, .inl (ca 0, 2210, .inl (zF pa)))] H := hP
    have hD : va_D A [(mo, .inr (9, [.ref na, .ref nb, .ref nc, .ref nd, .int (bI (ms)), .int (nI (mk - 1)), .ref ne, .int (nI my), .int (nI 0), .int (nI mp), .ref nf, .ref ng, .ref nh, .ref ni, .ref nj, .ref nl])), (na, .inl (ca 0, 442, .inl (zF (cpF pa (442 * (mk - 1)) sn 0 442)))), (nc, .inl (ca 0, 2210, .inl (zF pa)))] := hD
    refine lv_aload_n hx hb dX9_undo_48 rfl (lv_at hl 0 rfl) ?_
    refine va_get (D := D) (ci := 9) (v := .int (nI (mk - 1))) (C := RX9) (T := TX9) (N := 16) hx hb hts inX9 hown hK hP 0 rfl rfl 5 (by decide) f52 (fun _ h9 => h9) rfl dX9_undo_49 ?_
    rw [← hE]
    exact xe_i (0, (mk - 1), cpF pa (442 * (mk - 1)) sn 0 442) hx hb hr hlocks hK hP hD hS (⟨(kZ_0 (z := mk) (by omega)).symm, rfl, fun _ => ⟨rfl, cp_at⟩, fun h9 => absurd (kZ_0 (z := mk) (by omega)) h9⟩) dX9_undo_52
  · skip
    have h9 := (cE (nI_toInt (by omega)) z0_toInt).mp h9
    refine lv_aload_n hx hb dX9_undo_12 rfl (lv_at hl 0 rfl) ?_
    refine lv_iconst (v := nI (1)) hx hb dX9_undo_13 (by decide) ?_
    refine xk_i [(na, .inl (ca 0, 442, .inl (zF sn))), (nc, .inl (ca 0, 2210, .inl (zF pa)))] (fun u => [(mo, .inr (9, [.ref na, .ref nb, .ref nc, .ref nd, .int (bI (ms)), .int (nI mk), .ref ne, .int (nI my), .int (nI 1), .int (nI mp), .ref nf, .ref ng, .ref nh, .ref ni, .ref nj, .ref nl])), (na, .inl (ca 0, 442, .inl (zF sn))), (nc, .inl (ca 0, 2210, .inl (zF pa)))]) (xk_V (As := [.int (nI 1)]) (rest := []) ⟨hx, hb, hml, hown, hts⟩ (mX9_fails l D ca H.size mo na nb nc nd ne nf ng nh ni nj nl ms mk my 0 mp 1 ) (cwV 1 hts gX9_undo_X9_fails rfl rfl rfl (by decide +kernel) ⟨Nat.le_of_ble_eq_true rfl, Nat.le_of_ble_eq_true rfl⟩) hK hP hD (va_recv (q := (RX9, TX9, 16)) hK hP (ci := 9) (q0 := 0) rfl rfl) [0] rfl rfl rfl hl.1 rfl (Nat.le_of_ble_eq_true rfl) dX9_undo_14 ⟨Nat.le_of_ble_eq_true rfl, Nat.le_of_ble_eq_true rfl⟩) hP hD hS hA [0] [1, 2] [2, 0, 1] rfl rfl rfl rfl (fun _ => rfl) rfl (fun r14 u14 H locs hw14 hP hD hS => ?_)
    have hw14 : r14 = nI 0 := hw14
    have hP : va_P D vwCl [(mo, .inr (9, [.ref na, .ref nb, .ref nc, .ref nd, .int (bI (ms)), .int (nI mk), .ref ne, .int (nI my), .int (nI 1), .int (nI mp), .ref nf, .ref ng, .ref nh, .ref ni, .ref nj, .ref nl])), (na, .inl (ca 0, 442, .inl (zF sn))), (nc, .inl (ca 0, 2210, .inl (zF pa)))] H := hP
    have hD : va_D A [(mo, .inr (9, [.ref na, .ref nb, .ref nc, .ref nd, .int (bI (ms)), .int (nI mk), .ref ne, .int (nI my), .int (nI 1), .int (nI mp), .ref nf, .ref ng, .ref nh, .ref ni, .ref nj, .ref nl])), (na, .inl (ca 0, 442, .inl (zF sn))), (nc, .inl (ca 0, 2210, .inl (zF pa)))] := hD
    have hwr14 := hw14
    subst hwr14
    rw [← hE]
    exact xe_i (1, mk, sn) hx hb hr hlocks hK hP hD hS (⟨(kZ_1 (by omega)).symm, by show mk = mk - 1; omega, fun h9 => absurd (h9.symm.trans (kZ_1 (by omega))) (by decide), fun _ => rfl⟩) dX9_undo_17
def rX9_takeSnapshot : Room := { frames := 1, cells := 0, slots := 0, locals := 24 }
set_option maxHeartbeats 4000000 in
set_option maxRecDepth 100000 in
theorem mX9_takeSnapshot (l : Launch) (D : va_G) (ca : Nat → ClassId) (sz : Nat) (mo : Nat) (na : Nat) (nb : Nat) (nc : Nat) (nd : Nat) (ne : Nat) (nf : Nat) (ng : Nat) (nh : Nat) (ni : Nat) (nj : Nat) (nl : Nat) (ms : Bool) (mk : Nat) (my : Nat) (mt : Nat) (mp : Nat) (sn : Nat → Int) (sh : Nat → Int)  : MM l yX9_takeSnapshot wsX9_takeSnapshot rX9_takeSnapshot D ca [.ref mo] sz [(mo, .inr (9, [.ref na, .ref nb, .ref nc, .ref nd, .int (bI (ms)), .int (nI mk), .ref ne, .int (nI my), .int (nI mt), .int (nI mp), .ref nf, .ref ng, .ref nh, .ref ni, .ref nj, .ref nl])), (na, .inl (ca 0, 442, .inl (zF sn))), (nd, .inl (ca 0, 442, .inl (zF sh)))] (QI D ca (fun (r : Int32) (u : (Nat → Int)) => r = iZ (sn 0) ∧ ∀ j, j < 442 → u j = sn j) (fun u => [(mo, .inr (9, [.ref na, .ref nb, .ref nc, .ref nd, .int (bI (true)), .int (nI mk), .ref ne, .int (nI my), .int (nI 0), .int (nI mp), .ref nf, .ref ng, .ref nh, .ref ni, .ref nj, .ref nl])), (na, .inl (ca 0, 442, .inl (zF sn))), (nd, .inl (ca 0, 442, .inl (zF u)))])) := by
  refine MM_of (cc := cX9_takeSnapshot) (maxL := 1) (ret := (some .int)) (lv0 := [(0, .ref mo)]) RX9 (by decide) rfl rfl (Nat.le_of_ble_eq_true rfl) rfl ?_
  intro pG eV s mI args below meth cO hx hb hr hml hts hown hlocks hnm A hA H locs hsz hP hK hD hS Q hE ls hl
  have f44 := hts (.fieldLink RX9 44 "SlackPlanModel" "thrown" "I") (List.mem_of_getElem? (i := 1) rfl)
  have inX9 : ∀ w ∈ u_ws RX9 TX9 16, w ∈ wsX9_takeSnapshot := in_r _ [9, 10, 11, 12, 13, 14, 15, 16, 17, 18, 19, 20, 21, 22, 23, 24] rfl
  have f7 := hts (.fieldLink RX9 7 "SlackPlanModel" "now" "[I") (List.mem_of_getElem? (i := 2) rfl)
  have f19 := hts (.fieldLink RX9 19 "SlackPlanModel" "shot" "[I") (List.mem_of_getElem? (i := 3) rfl)
  have f129 := hts (.fieldLink RX9 129 "SlackPlanModel" "hasShot" "Z") (List.mem_of_getElem? (i := 4) rfl)
  refine lv_aload_n hx hb dX9_takeSnapshot_0 rfl (lv_at hl 0 rfl) ?_
  refine lv_iconst (v := nI (0)) hx hb dX9_takeSnapshot_1 (by decide) ?_
  refine va_put (D := D) (ci := 9) (v := .int (nI 0)) (ty := .int) (C := RX9) (T := TX9) (N := 16) hx hb hts inX9 tyX9 tyX9_ok nmX9 hown hK hP hD hS 0 rfl rfl 8 (by decide) f44 (fun _ h9 => h9) rfl (by decide +kernel) rfl rfl (Nat.le_of_ble_eq_true rfl) dX9_takeSnapshot_2 (fun H locs hP hD hS => ?_)
  have hP : va_P D vwCl [(mo, .inr (9, [.ref na, .ref nb, .ref nc, .ref nd, .int (bI (ms)), .int (nI mk), .ref ne, .int (nI my), .int (nI 0), .int (nI mp), .ref nf, .ref ng, .ref nh, .ref ni, .ref nj, .ref nl])), (na, .inl (ca 0, 442, .inl (zF sn))), (nd, .inl (ca 0, 442, .inl (zF sh)))] H := hP
  have hD : va_D A [(mo, .inr (9, [.ref na, .ref nb, .ref nc, .ref nd, .int (bI (ms)), .int (nI mk), .ref ne, .int (nI my), .int (nI 0), .int (nI mp), .ref nf, .ref ng, .ref nh, .ref ni, .ref nj, .ref nl])), (na, .inl (ca 0, 442, .inl (zF sn))), (nd, .inl (ca 0, 442, .inl (zF sh)))] := hD
  refine lv_aload_n hx hb dX9_takeSnapshot_5 rfl (lv_at hl 0 rfl) ?_
  refine va_get (D := D) (ci := 9) (v := .ref na) (C := RX9) (T := TX9) (N := 16) hx hb hts inX9 hown hK hP 0 rfl rfl 0 (by decide) f7 (fun _ h9 => h9) rfl dX9_takeSnapshot_6 ?_
  refine lv_iconst (v := nI (0)) hx hb dX9_takeSnapshot_9 (by decide) ?_
  refine lv_aload_n hx hb dX9_takeSnapshot_10 rfl (lv_at hl 0 rfl) ?_
  refine va_get (D := D) (ci := 9) (v := .ref nd) (C := RX9) (T := TX9) (N := 16) hx hb hts inX9 hown hK hP 0 rfl rfl 3 (by decide) f19 (fun _ h9 => h9) rfl dX9_takeSnapshot_11 ?_
  refine lv_iconst (v := nI (0)) hx hb dX9_takeSnapshot_14 (by decide) ?_
  refine xk_v [(mo, .inr (9, [.ref na, .ref nb, .ref nc, .ref nd, .int (bI (ms)), .int (nI mk), .ref ne, .int (nI my), .int (nI 0), .int (nI mp), .ref nf, .ref ng, .ref nh, .ref ni, .ref nj, .ref nl]))] (fun u => [(mo, .inr (9, [.ref na, .ref nb, .ref nc, .ref nd, .int (bI (ms)), .int (nI mk), .ref ne, .int (nI my), .int (nI 0), .int (nI mp), .ref nf, .ref ng, .ref nh, .ref ni, .ref nj, .ref nl])), (na, .inl (ca 0, 442, .inl (zF sn))), (nd, .inl (ca 0, 442, .inl (zF (cpF sn 0 sh 0 442))))]) (xk_S (As := [.ref na, .int (nI 0), .ref nd, .int (nI 0)]) (rest := []) ⟨hx, hb, hml, hown, hts⟩ (mX9_copies l D ca H.size na nd 442 442 sn sh 0 0 (by omega) (by omega)) (va_cwS 4 hts gX9_takeSnapshot_X9_copies rfl rfl rfl (by decide +kernel) ⟨Nat.le_of_ble_eq_true rfl, Nat.le_of_ble_eq_true rfl⟩) hK hP hD [1, 2] rfl rfl rfl hl.1 rfl (Nat.le_of_ble_eq_true rfl) dX9_takeSnapshot_15 ⟨Nat.le_of_ble_eq_true rfl, Nat.le_of_ble_eq_true rfl⟩) hP hD hS hA [1, 2] [0] [0, 1, 2] rfl rfl rfl rfl (fun _ => rfl) rfl (fun u15 H locs hw15 hP hD hS => ?_)
  have hw15 : True := hw15
  have hP : va_P D vwCl [(mo, .inr (9, [.ref na, .ref nb, .ref nc, .ref nd, .int (bI (ms)), .int (nI mk), .ref ne, .int (nI my), .int (nI 0), .int (nI mp), .ref nf, .ref ng, .ref nh, .ref ni, .ref nj, .ref nl])), (na, .inl (ca 0, 442, .inl (zF sn))), (nd, .inl (ca 0, 442, .inl (zF (cpF sn 0 sh 0 442))))] H := hP
  have hD : va_D A [(mo, .inr (9, [.ref na, .ref nb, .ref nc, .ref nd, .int (bI (ms)), .int (nI mk), .ref ne, .int (nI my), .int (nI 0), .int (nI mp), .ref nf, .ref ng, .ref nh, .ref ni, .ref nj, .ref nl])), (na, .inl (ca 0, 442, .inl (zF sn))), (nd, .inl (ca 0, 442, .inl (zF (cpF sn 0 sh 0 442))))] := hD
  refine lv_aload_n hx hb dX9_takeSnapshot_18 rfl (lv_at hl 0 rfl) ?_
  refine lv_iconst (v := nI (1)) hx hb dX9_takeSnapshot_19 (by decide) ?_
  refine va_put (D := D) (ci := 9) (v := .int (nI 1)) (ty := .boolean) (C := RX9) (T := TX9) (N := 16) hx hb hts inX9 tyX9 tyX9_ok nmX9 hown hK hP hD hS 0 rfl rfl 4 (by decide) f129 (fun _ h9 => h9) rfl (by decide +kernel) rfl rfl (Nat.le_of_ble_eq_true rfl) dX9_takeSnapshot_20 (fun H locs hP hD hS => ?_)
  have hP : va_P D vwCl [(mo, .inr (9, [.ref na, .ref nb, .ref nc, .ref nd, .int (nI 1), .int (nI mk), .ref ne, .int (nI my), .int (nI 0), .int (nI mp), .ref nf, .ref ng, .ref nh, .ref ni, .ref nj, .ref nl])), (na, .inl (ca 0, 442, .inl (zF sn))), (nd, .inl (ca 0, 442, .inl (zF (cpF sn 0 sh 0 442))))] H := hP
  have hD : va_D A [(mo, .inr (9, [.ref na, .ref nb, .ref nc, .ref nd, .int (nI 1), .int (nI mk), .ref ne, .int (nI my), .int (nI 0), .int (nI mp), .ref nf, .ref ng, .ref nh, .ref ni, .ref nj, .ref nl])), (na, .inl (ca 0, 442, .inl (zF sn))), (nd, .inl (ca 0, 442, .inl (zF (cpF sn 0 sh 0 442))))] := hD
  refine lv_aload_n hx hb dX9_takeSnapshot_23 rfl (lv_at hl 0 rfl) ?_
  refine va_get (D := D) (ci := 9) (v := .ref na) (C := RX9) (T := TX9) (N := 16) hx hb hts inX9 hown hK hP 0 rfl rfl 0 (by decide) f7 (fun _ h9 => h9) rfl dX9_takeSnapshot_24 ?_
  refine lv_iconst (v := nI (0)) hx hb dX9_takeSnapshot_27 (by decide) ?_
  refine xr_iald hx hb hK hP 1 0 rfl rfl (by omega) (Nat.le_of_ble_eq_true rfl) (v := iZ (sn 0)) rfl dX9_takeSnapshot_28 ?_
  rw [← hE]
  exact xe_i (cpF sn 0 sh 0 442) hx hb hr hlocks hK hP hD hS (⟨rfl, cp_at0⟩) dX9_takeSnapshot_29
def rX9_restoreSnapshot : Room := { frames := 2, cells := 0, slots := 0, locals := 45 }
set_option maxHeartbeats 4000000 in
set_option maxRecDepth 100000 in
theorem mX9_restoreSnapshot (l : Launch) (D : va_G) (ca : Nat → ClassId) (sz : Nat) (mo : Nat) (na : Nat) (nb : Nat) (nc : Nat) (nd : Nat) (ne : Nat) (nf : Nat) (ng : Nat) (nh : Nat) (ni : Nat) (nj : Nat) (nl : Nat) (ms : Bool) (mk : Nat) (my : Nat) (mt : Nat) (mp : Nat) (sn : Nat → Int) (pa : Nat → Int) (sh : Nat → Int) (hmk : mk ≤ 5) : MM l yX9_restoreSnapshot wsX9_restoreSnapshot rX9_restoreSnapshot D ca [.ref mo] sz [(mo, .inr (9, [.ref na, .ref nb, .ref nc, .ref nd, .int (bI (ms)), .int (nI mk), .ref ne, .int (nI my), .int (nI mt), .int (nI mp), .ref nf, .ref ng, .ref nh, .ref ni, .ref nj, .ref nl])), (na, .inl (ca 0, 442, .inl (zF sn))), (nc, .inl (ca 0, 2210, .inl (zF pa))), (nd, .inl (ca 0, 442, .inl (zF sh)))] (QI D ca (fun (r : Int32) (u : Nat × Nat × (Nat → Int) × (Nat → Int)) => u.1 = k0 ms ∧ (k0 ms = 0 → r = iZ (sh 0) ∧ (∀ j, j < 442 → u.2.2.1 j = sh j) ∧ KS mk pa sn u.2.1 u.2.2.2) ∧ (¬ k0 ms = 0 → u.2.2.1 = sn ∧ u.2.1 = mk ∧ u.2.2.2 = pa)) (fun u => [(mo, .inr (9, [.ref na, .ref nb, .ref nc, .ref nd, .int (bI (ms)), .int (nI u.2.1), .ref ne, .int (nI my), .int (nI u.1), .int (nI mp), .ref nf, .ref ng, .ref nh, .ref ni, .ref nj, .ref nl])), (na, .inl (ca 0, 442, .inl (zF u.2.2.1))), (nc, .inl (ca 0, 2210, .inl (zF u.2.2.2))), (nd, .inl (ca 0, 442, .inl (zF sh)))])) := by
  refine MM_of (cc := cX9_restoreSnapshot) (maxL := 1) (ret := (some .int)) (lv0 := [(0, .ref mo)]) RX9 (by decide) rfl rfl (Nat.le_of_ble_eq_true rfl) rfl ?_
  intro pG eV s mI args below meth cO hx hb hr hml hts hown hlocks hnm A hA H locs hsz hP hK hD hS Q hE ls hl
  have f44 := hts (.fieldLink RX9 44 "SlackPlanModel" "thrown" "I") (List.mem_of_getElem? (i := 1) rfl)
  have inX9 : ∀ w ∈ u_ws RX9 TX9 16, w ∈ wsX9_restoreSnapshot := in_r _ [19, 20, 21, 22, 23, 24, 25, 26, 27, 28, 29, 30, 31, 32, 33, 34] rfl
  have f129 := hts (.fieldLink RX9 129 "SlackPlanModel" "hasShot" "Z") (List.mem_of_getElem? (i := 2) rfl)
  have f19 := hts (.fieldLink RX9 19 "SlackPlanModel" "shot" "[I") (List.mem_of_getElem? (i := 3) rfl)
  have f7 := hts (.fieldLink RX9 7 "SlackPlanModel" "now" "[I") (List.mem_of_getElem? (i := 4) rfl)
  refine lv_aload_n hx hb dX9_restoreSnapshot_0 rfl (lv_at hl 0 rfl) ?_
  refine lv_iconst (v := nI (0)) hx hb dX9_restoreSnapshot_1 (by decide) ?_
  refine va_put (D := D) (ci := 9) (v := .int (nI 0)) (ty := .int) (C := RX9) (T := TX9) (N := 16) hx hb hts inX9 tyX9 tyX9_ok nmX9 hown hK hP hD hS 0 rfl rfl 8 (by decide) f44 (fun _ h9 => h9) rfl (by decide +kernel) rfl rfl (Nat.le_of_ble_eq_true rfl) dX9_restoreSnapshot_2 (fun H locs hP hD hS => ?_)
  have hP : va_P D vwCl [(mo, .inr (9, [.ref na, .ref nb, .ref nc, .ref nd, .int (bI (ms)), .int (nI mk), .ref ne, .int (nI my), .int (nI 0), .int (nI mp), .ref nf, .ref ng, .ref nh, .ref ni, .ref nj, .ref nl])), (na, .inl (ca 0, 442, .inl (zF sn))), (nc, .inl (ca 0, 2210, .inl (zF pa))), (nd, .inl (ca 0, 442, .inl (zF sh)))] H := hP
  have hD : va_D A [(mo, .inr (9, [.ref na, .ref nb, .ref nc, .ref nd, .int (bI (ms)), .int (nI mk), .ref ne, .int (nI my), .int (nI 0), .int (nI mp), .ref nf, .ref ng, .ref nh, .ref ni, .ref nj, .ref nl])), (na, .inl (ca 0, 442, .inl (zF sn))), (nc, .inl (ca 0, 2210, .inl (zF pa))), (nd, .inl (ca 0, 442, .inl (zF sh)))] := hD
  refine lv_aload_n hx hb dX9_restoreSnapshot_5 rfl (lv_at hl 0 rfl) ?_
  refine va_get (D := D) (ci := 9) (v := .int (bI (ms))) (C := RX9) (T := TX9) (N := 16) hx hb hts inX9 hown hK hP 0 rfl rfl 4 (by decide) f129 (fun _ h9 => h9) rfl dX9_restoreSnapshot_6 ?_
  refine lv_if_ne (tgt := 18) hx hb dX9_restoreSnapshot_9 (by decide) (fun h9 => ?_) (fun h9 => ?_)
  · skip
    have h9 := bI_n0.mp h9
    refine lv_aload_n hx hb dX9_restoreSnapshot_18 rfl (lv_at hl 0 rfl) ?_
    refine xk_v [(nd, .inl (ca 0, 442, .inl (zF sh)))] (fun u => [(mo, .inr (9, [.ref na, .ref nb, .ref nc, .ref nd, .int (bI (ms)), .int (nI u.1), .ref ne, .int (nI my), .int (nI 0), .int (nI mp), .ref nf, .ref ng, .ref nh, .ref ni, .ref nj, .ref nl])), (na, .inl (ca 0, 442, .inl (zF sn))), (nc, .inl (ca 0, 2210, .inl (zF u.2))), (nd, .inl (ca 0, 442, .inl (zF sh)))]) (xk_V (As := []) (rest := []) ⟨hx, hb, hml, hown, hts⟩ (mX9_keepsState l D ca H.size mo na nb nc nd ne nf ng nh ni nj nl ms mk my 0 mp sn pa (by omega)) (cwV 0 hts gX9_restoreSnapshot_X9_keepsState rfl rfl rfl (by decide +kernel) ⟨Nat.le_of_ble_eq_true rfl, Nat.le_of_ble_eq_true rfl⟩) hK hP hD (va_recv (q := (RX9, TX9, 16)) hK hP (ci := 9) (q0 := 0) rfl rfl) [0, 1, 2] rfl rfl rfl hl.1 rfl (Nat.le_of_ble_eq_true rfl) dX9_restoreSnapshot_19 ⟨Nat.le_of_ble_eq_true rfl, Nat.le_of_ble_eq_true rfl⟩) hP hD hS hA [0, 1, 2] [3] [1, 2, 3, 0] rfl rfl rfl rfl (fun _ => rfl) rfl (fun u19 H locs hw19 hP hD hS => ?_)
    obtain ⟨k119, pa119⟩ := u19
    have hw19 : k119 = (if mk = 5 then 5 else mk + 1) ∧ pa119 = cpF sn 0 (if mk = 5 then shF pa 1768 else pa) (442 * (if mk = 5 then 4 else mk)) 442 := hw19
    have hP : va_P D vwCl [(mo, .inr (9, [.ref na, .ref nb, .ref nc, .ref nd, .int (bI (ms)), .int (nI k119), .ref ne, .int (nI my), .int (nI 0), .int (nI mp), .ref nf, .ref ng, .ref nh, .ref ni, .ref nj, .ref nl])), (na, .inl (ca 0, 442, .inl (zF sn))), (nc, .inl (ca 0, 2210, .inl (zF pa119))), (nd, .inl (ca 0, 442, .inl (zF sh)))] H := hP
    have hD : va_D A [(mo, .inr (9, [.ref na, .ref nb, .ref nc, .ref nd, .int (bI (ms)), .int (nI k119), .ref ne, .int (nI my), .int (nI 0), .int (nI mp), .ref nf, .ref ng, .ref nh, .ref ni, .ref nj, .ref nl])), (na, .inl (ca 0, 442, .inl (zF sn))), (nc, .inl (ca 0, 2210, .inl (zF pa119))), (nd, .inl (ca 0, 442, .inl (zF sh)))] := hD
    refine lv_aload_n hx hb dX9_restoreSnapshot_22 rfl (lv_at hl 0 rfl) ?_
    refine va_get (D := D) (ci := 9) (v := .ref nd) (C := RX9) (T := TX9) (N := 16) hx hb hts inX9 hown hK hP 0 rfl rfl 3 (by decide) f19 (fun _ h9 => h9) rfl dX9_restoreSnapshot_23 ?_
    refine lv_iconst (v := nI (0)) hx hb dX9_restoreSnapshot_26 (by decide) ?_
    refine lv_aload_n hx hb dX9_restoreSnapshot_27 rfl (lv_at hl 0 rfl) ?_
    refine va_get (D := D) (ci := 9) (v := .ref na) (C := RX9) (T := TX9) (N := 16) hx hb hts inX9 hown hK hP 0 rfl rfl 0 (by decide) f7 (fun _ h9 => h9) rfl dX9_restoreSnapshot_28 ?_
    refine lv_iconst (v := nI (0)) hx hb dX9_restoreSnapshot_31 (by decide) ?_
    refine xk_v [(mo, .inr (9, [.ref na, .ref nb, .ref nc, .ref nd, .int (bI (ms)), .int (nI k119), .ref ne, .int (nI my), .int (nI 0), .int (nI mp), .ref nf, .ref ng, .ref nh, .ref ni, .ref nj, .ref nl])), (nc, .inl (ca 0, 2210, .inl (zF pa119)))] (fun u => [(mo, .inr (9, [.ref na, .ref nb, .ref nc, .ref nd, .int (bI (ms)), .int (nI k119), .ref ne, .int (nI my), .int (nI 0), .int (nI mp), .ref nf, .ref ng, .ref nh, .ref ni, .ref nj, .ref nl])), (na, .inl (ca 0, 442, .inl (zF (cpF sh 0 sn 0 442)))), (nc, .inl (ca 0, 2210, .inl (zF pa119))), (nd, .inl (ca 0, 442, .inl (zF sh)))]) (xk_S (As := [.ref nd, .int (nI 0), .ref na, .int (nI 0)]) (rest := []) ⟨hx, hb, hml, hown, hts⟩ (mX9_copies l D ca H.size nd na 442 442 sh sn 0 0 (by omega) (by omega)) (va_cwS 4 hts gX9_restoreSnapshot_X9_copies rfl rfl rfl (by decide +kernel) ⟨Nat.le_of_ble_eq_true rfl, Nat.le_of_ble_eq_true rfl⟩) hK hP hD [3, 1] rfl rfl rfl hl.1 rfl (Nat.le_of_ble_eq_true rfl) dX9_restoreSnapshot_32 ⟨Nat.le_of_ble_eq_true rfl, Nat.le_of_ble_eq_true rfl⟩) hP hD hS hA [3, 1] [0, 2] [0, 3, 1, 2] rfl rfl rfl rfl (fun _ => rfl) rfl (fun u32 H locs hw32 hP hD hS => ?_)
    have hw32 : True := hw32
    have hP : va_P D vwCl [(mo, .inr (9, [.ref na, .ref nb, .ref nc, .ref nd, .int (bI (ms)), .int (nI k119), .ref ne, .int (nI my), .int (nI 0), .int (nI mp), .ref nf, .ref ng, .ref nh, .ref ni, .ref nj, .ref nl])), (na, .inl (ca 0, 442, .inl (zF (cpF sh 0 sn 0 442)))), (nc, .inl (ca 0, 2210, .inl (zF pa119))), (nd, .inl (ca 0, 442, .inl (zF sh)))] H := hP
    have hD : va_D A [(mo, .inr (9, [.ref na, .ref nb, .ref nc, .ref nd, .int (bI (ms)), .int (nI k119), .ref ne, .int (nI my), .int (nI 0), .int (nI mp), .ref nf, .ref ng, .ref nh, .ref ni, .ref nj, .ref nl])), (na, .inl (ca 0, 442, .inl (zF (cpF sh 0 sn 0 442)))), (nc, .inl (ca 0, 2210, .inl (zF pa119))), (nd, .inl (ca 0, 442, .inl (zF sh)))] := hD
    refine lv_aload_n hx hb dX9_restoreSnapshot_35 rfl (lv_at hl 0 rfl) ?_
    refine va_get (D := D) (ci := 9) (v := .ref na) (C := RX9) (T := TX9) (N := 16) hx hb hts inX9 hown hK hP 0 rfl rfl 0 (by decide) f7 (fun _ h9 => h9) rfl dX9_restoreSnapshot_36 ?_
    refine lv_iconst (v := nI (0)) hx hb dX9_restoreSnapshot_39 (by decide) ?_
    refine xr_iald hx hb hK hP 1 0 rfl rfl (by omega) (Nat.le_of_ble_eq_true rfl) (v := iZ ((cpF sh 0 sn 0 442) 0)) rfl dX9_restoreSnapshot_40 ?_
    refine xr_top (y := iZ (sh 0)) (congrArg iZ (cp_at0 0 (by omega))) ?_
    have hh9 := h9
    rw [← hE]
    exact xe_i (0, k119, cpF sh 0 sn 0 442, pa119) hx hb hr hlocks hK hP hD hS (⟨(k0_t hh9).symm, fun _ => ⟨rfl, cp_at0, hw19⟩, fun h9 => absurd (k0_t hh9) h9⟩) dX9_restoreSnapshot_41
  · skip
    have h9 := bI_0.mp h9
    refine lv_aload_n hx hb dX9_restoreSnapshot_12 rfl (lv_at hl 0 rfl) ?_
    refine lv_iconst (v := nI (1)) hx hb dX9_restoreSnapshot_13 (by decide) ?_
    refine xk_i [(na, .inl (ca 0, 442, .inl (zF sn))), (nc, .inl (ca 0, 2210, .inl (zF pa))), (nd, .inl (ca 0, 442, .inl (zF sh)))] (fun u => [(mo, .inr (9, [.ref na, .ref nb, .ref nc, .ref nd, .int (bI (ms)), .int (nI mk), .ref ne, .int (nI my), .int (nI 1), .int (nI mp), .ref nf, .ref ng, .ref nh, .ref ni, .ref nj, .ref nl])), (na, .inl (ca 0, 442, .inl (zF sn))), (nc, .inl (ca 0, 2210, .inl (zF pa))), (nd, .inl (ca 0, 442, .inl (zF sh)))]) (xk_V (As := [.int (nI 1)]) (rest := []) ⟨hx, hb, hml, hown, hts⟩ (mX9_fails l D ca H.size mo na nb nc nd ne nf ng nh ni nj nl ms mk my 0 mp 1 ) (cwV 1 hts gX9_restoreSnapshot_X9_fails rfl rfl rfl (by decide +kernel) ⟨Nat.le_of_ble_eq_true rfl, Nat.le_of_ble_eq_true rfl⟩) hK hP hD (va_recv (q := (RX9, TX9, 16)) hK hP (ci := 9) (q0 := 0) rfl rfl) [0] rfl rfl rfl hl.1 rfl (Nat.le_of_ble_eq_true rfl) dX9_restoreSnapshot_14 ⟨Nat.le_of_ble_eq_true rfl, Nat.le_of_ble_eq_true rfl⟩) hP hD hS hA [0] [1, 2, 3] [3, 0, 1, 2] rfl rfl rfl rfl (fun _ => rfl) rfl (fun r14 u14 H locs hw14 hP hD hS => ?_)
    have hw14 : r14 = nI 0 := hw14
    have hP : va_P D vwCl [(mo, .inr (9, [.ref na, .ref nb, .ref nc, .ref nd, .int (bI (ms)), .int (nI mk), .ref ne, .int (nI my), .int (nI 1), .int (nI mp), .ref nf, .ref ng, .ref nh, .ref ni, .ref nj, .ref nl])), (na, .inl (ca 0, 442, .inl (zF sn))), (nc, .inl (ca 0, 2210, .inl (zF pa))), (nd, .inl (ca 0, 442, .inl (zF sh)))] H := hP
    have hD : va_D A [(mo, .inr (9, [.ref na, .ref nb, .ref nc, .ref nd, .int (bI (ms)), .int (nI mk), .ref ne, .int (nI my), .int (nI 1), .int (nI mp), .ref nf, .ref ng, .ref nh, .ref ni, .ref nj, .ref nl])), (na, .inl (ca 0, 442, .inl (zF sn))), (nc, .inl (ca 0, 2210, .inl (zF pa))), (nd, .inl (ca 0, 442, .inl (zF sh)))] := hD
    have hwr14 := hw14
    subst hwr14
    have hh9 := h9
    rw [← hE]
    exact xe_i (1, mk, sn, pa) hx hb hr hlocks hK hP hD hS (⟨(k0_f hh9).symm, fun h9 => absurd (h9.symm.trans (k0_f hh9)) (by decide), fun _ => ⟨rfl, rfl, rfl⟩⟩) dX9_restoreSnapshot_17

