def rX9_freeSlack : Room := { frames := 2, cells := 0, slots := 0, locals := 43 }
set_option maxHeartbeats 4000000 in
set_option maxRecDepth 100000 in
theorem mX9_freeSlack (l : Launch) (D : va_G) (ca : Nat → ClassId) (sz : Nat) (mo : Nat) (na : Nat) (nb : Nat) (nc : Nat) (nd : Nat) (ne : Nat) (nf : Nat) (ng : Nat) (nh : Nat) (ni : Nat) (nj : Nat) (nl : Nat) (ms : Bool) (mk : Nat) (my : Nat) (mt : Nat) (mp : Nat) (sn : Nat → Int) (T : Nat) (En : Int) (C : Int) (L : Nat → Int) (N : Nat → Int) (G : Nat → Nat → Int) (e : Nat → Int) (t : Int32) (hV : PSV T En C L N G) (hM : MS sn T C L N G) : MM l yX9_freeSlack wsX9_freeSlack rX9_freeSlack D ca [.ref mo, .int (t)] sz [(mo, .inr (9, [.ref na, .ref nb, .ref nc, .ref nd, .int (bI (ms)), .int (nI mk), .ref ne, .int (nI my), .int (nI mt), .int (nI mp), .ref nf, .ref ng, .ref nh, .ref ni, .ref nj, .ref nl])), (na, .inl (ca 0, 442, .inl (zF sn))), (nf, .inl (ca 0, 20, .inl (zF e)))] (QI D ca (fun (r : Int32) (u : Nat × (Nat → Int)) => u.1 = kTa T t ∧ (kTa T t = 0 → r = iZ (frF G T L (tI t) T))) (fun u => [(mo, .inr (9, [.ref na, .ref nb, .ref nc, .ref nd, .int (bI (ms)), .int (nI mk), .ref ne, .int (nI my), .int (nI u.1), .int (nI mp), .ref nf, .ref ng, .ref nh, .ref ni, .ref nj, .ref nl])), (na, .inl (ca 0, 442, .inl (zF sn))), (nf, .inl (ca 0, 20, .inl (zF u.2)))])) := by
  refine MM_of (cc := cX9_freeSlack) (maxL := 7) (ret := (some .int)) (lv0 := [(0, .ref mo), (1, .int (t))]) RX9 (by decide) rfl rfl (Nat.le_of_ble_eq_true rfl) rfl ?_
  intro pG eV s mI args below meth cO hx hb hr hml hts hown hlocks hnm A hA H locs hsz hP hK hD hS Q hE ls hl
  have f7 := hts (.fieldLink RX9 7 "SlackPlanModel" "now" "[I") (List.mem_of_getElem? (i := 1) rfl)
  have inX9 : ∀ w ∈ u_ws RX9 TX9 16, w ∈ wsX9_freeSlack := in_r _ [19, 20, 21, 22, 23, 24, 25, 26, 27, 28, 29, 30, 31, 32, 33, 34] rfl
  have f25 := hts (.fieldLink RX9 25 "SlackPlanModel" "early" "[I") (List.mem_of_getElem? (i := 2) rfl)
  obtain ⟨hT, hC9, hL30, hNk, hG, hac, hGo, hEn, hE40⟩ := hV
  have hLk := L30_LOK hL30
  have hs0 := hM.1
  have hs1 := hM.2.1
  refine lv_aload_n hx hb dX9_freeSlack_0 rfl (lv_at hl 0 rfl) ?_
  refine lv_iload_n hx hb dX9_freeSlack_1 rfl (lv_at hl 1 rfl) ?_
  refine xk_i [(nf, .inl (ca 0, 20, .inl (zF e)))] (fun u => [(mo, .inr (9, [.ref na, .ref nb, .ref nc, .ref nd, .int (bI (ms)), .int (nI mk), .ref ne, .int (nI my), .int (nI u), .int (nI mp), .ref nf, .ref ng, .ref nh, .ref ni, .ref nj, .ref nl])), (na, .inl (ca 0, 442, .inl (zF sn))), (nf, .inl (ca 0, 20, .inl (zF e)))]) (xk_V (As := [.int (t)]) (rest := []) ⟨hx, hb, hml, hown, hts⟩ (mX9_isTask l D ca H.size mo na nb nc nd ne nf ng nh ni nj nl ms mk my mt mp sn T t (by omega) hs0) (cwV 1 hts gX9_freeSlack_X9_isTask rfl rfl rfl (by decide +kernel) ⟨Nat.le_of_ble_eq_true rfl, Nat.le_of_ble_eq_true rfl⟩) hK hP hD (va_recv (q := (RX9, TX9, 16)) hK hP (ci := 9) (q0 := 0) rfl rfl) [0, 1] rfl rfl rfl hl.1 rfl (Nat.le_of_ble_eq_true rfl) dX9_freeSlack_2 ⟨Nat.le_of_ble_eq_true rfl, Nat.le_of_ble_eq_true rfl⟩) hP hD hS hA [0, 1] [2] [1, 2, 0] rfl rfl rfl rfl (fun _ => rfl) rfl (fun r2 u2 H locs hw2 hP hD hS => ?_)
  obtain ⟨t12, hu2⟩ : ∃ z, z = u2 := ⟨_, rfl⟩
  subst hu2
  have hw2 : r2 = bI (hasB T t) ∧ t12 = kTa T t := hw2
  have hP : va_P D vwCl [(mo, .inr (9, [.ref na, .ref nb, .ref nc, .ref nd, .int (bI (ms)), .int (nI mk), .ref ne, .int (nI my), .int (nI t12), .int (nI mp), .ref nf, .ref ng, .ref nh, .ref ni, .ref nj, .ref nl])), (na, .inl (ca 0, 442, .inl (zF sn))), (nf, .inl (ca 0, 20, .inl (zF e)))] H := hP
  have hD : va_D A [(mo, .inr (9, [.ref na, .ref nb, .ref nc, .ref nd, .int (bI (ms)), .int (nI mk), .ref ne, .int (nI my), .int (nI t12), .int (nI mp), .ref nf, .ref ng, .ref nh, .ref ni, .ref nj, .ref nl])), (na, .inl (ca 0, 442, .inl (zF sn))), (nf, .inl (ca 0, 20, .inl (zF e)))] := hD
  obtain ⟨hwr2, hv2⟩ := hw2
  subst hwr2
  refine lv_if_ne (tgt := 10) hx hb dX9_freeSlack_5 (by decide) (fun h5 => ?_) (fun h5 => ?_)
  · skip
    have h5 := bI_n0.mp h5
    obtain ⟨ht1, he1⟩ := hasB_ex h5
    have e9 : (t) = nI (tI t) := he1
    have hl : lv_has ls 7 [(0, .ref mo), (1, .int (nI (tI t)))] := by rw [← e9]; exact hl
    refine lv_aload_n hx hb dX9_freeSlack_10 rfl (lv_at hl 0 rfl) ?_
    refine lv_aload_n hx hb dX9_freeSlack_11 rfl (lv_at hl 0 rfl) ?_
    refine va_get (D := D) (ci := 9) (v := .ref na) (C := RX9) (T := TX9) (N := 16) hx hb hts inX9 hown hK hP 0 rfl rfl 0 (by decide) f7 (fun _ h9 => h9) rfl dX9_freeSlack_12 ?_
    refine xk_i [] (fun u => [(mo, .inr (9, [.ref na, .ref nb, .ref nc, .ref nd, .int (bI (ms)), .int (nI mk), .ref ne, .int (nI my), .int (nI t12), .int (nI mp), .ref nf, .ref ng, .ref nh, .ref ni, .ref nj, .ref nl])), (na, .inl (ca 0, 442, .inl (zF sn))), (nf, .inl (ca 0, 20, .inl (zF u)))]) (xk_V (As := [.ref na]) (rest := []) ⟨hx, hb, hml, hown, hts⟩ (mX9_starts l D ca H.size mo na nb nc nd ne nf ng nh ni nj nl ms mk my t12 mp na sn e T C L N G (by omega) hG hac hGo hM hLk) (cwV 1 hts gX9_freeSlack_X9_starts rfl rfl rfl (by decide +kernel) ⟨Nat.le_of_ble_eq_true rfl, Nat.le_of_ble_eq_true rfl⟩) hK hP hD (va_recv (q := (RX9, TX9, 16)) hK hP (ci := 9) (q0 := 0) rfl rfl) [0, 2, 1] rfl rfl rfl hl.1 rfl (Nat.le_of_ble_eq_true rfl) dX9_freeSlack_15 ⟨Nat.le_of_ble_eq_true rfl, Nat.le_of_ble_eq_true rfl⟩) hP hD hS hA [0, 2, 1] [] [0, 2, 1] rfl rfl rfl rfl (fun _ => rfl) rfl (fun r15 u15 H locs hw15 hP hD hS => ?_)
    obtain ⟨e115, hu15⟩ : ∃ z, z = u15 := ⟨_, rfl⟩
    subst hu15
    have hw15 : r15 = iZ (span G T L) ∧ ∀ j, j < T → e115 j = es G T L j := hw15
    have hP : va_P D vwCl [(mo, .inr (9, [.ref na, .ref nb, .ref nc, .ref nd, .int (bI (ms)), .int (nI mk), .ref ne, .int (nI my), .int (nI t12), .int (nI mp), .ref nf, .ref ng, .ref nh, .ref ni, .ref nj, .ref nl])), (na, .inl (ca 0, 442, .inl (zF sn))), (nf, .inl (ca 0, 20, .inl (zF e115)))] H := hP
    have hD : va_D A [(mo, .inr (9, [.ref na, .ref nb, .ref nc, .ref nd, .int (bI (ms)), .int (nI mk), .ref ne, .int (nI my), .int (nI t12), .int (nI mp), .ref nf, .ref ng, .ref nh, .ref ni, .ref nj, .ref nl])), (na, .inl (ca 0, 442, .inl (zF sn))), (nf, .inl (ca 0, 20, .inl (zF e115)))] := hD
    obtain ⟨hwr15, hv15⟩ := hw15
    subst hwr15
    refine lv_istore_n (lv' := [(2, .int (iZ (span G T L))), (0, .ref mo), (1, .int (nI (tI t)))]) hx hb dX9_freeSlack_18 rfl hl (by decide) rfl (fun ls hl => ?_)
    refine lv_aload_n hx hb dX9_freeSlack_19 rfl (lv_at hl 1 rfl) ?_
    refine va_get (D := D) (ci := 9) (v := .ref nf) (C := RX9) (T := TX9) (N := 16) hx hb hts inX9 hown hK hP 0 rfl rfl 10 (by decide) f25 (fun _ h9 => h9) rfl dX9_freeSlack_20 ?_
    refine lv_iload_n hx hb dX9_freeSlack_23 rfl (lv_at hl 2 rfl) ?_
    refine xr_iald hx hb hK hP 2 0 rfl rfl (by omega) (Nat.le_of_ble_eq_true rfl) (v := iZ (e115 (tI t))) rfl dX9_freeSlack_24 ?_
    refine lv_aload_n hx hb dX9_freeSlack_25 rfl (lv_at hl 1 rfl) ?_
    refine va_get (D := D) (ci := 9) (v := .ref na) (C := RX9) (T := TX9) (N := 16) hx hb hts inX9 hown hK hP 0 rfl rfl 0 (by decide) f7 (fun _ h9 => h9) rfl dX9_freeSlack_26 ?_
    refine lv_iconst (v := nI (2)) hx hb dX9_freeSlack_29 (by decide) ?_
    refine lv_iload_n hx hb dX9_freeSlack_30 rfl (lv_at hl 2 rfl) ?_
    refine xr_iadd hx hb dX9_freeSlack_31 ?_
    refine xr_iald hx hb hK hP 1 0 rfl rfl (by omega) (Nat.le_of_ble_eq_true rfl) (v := iZ (sn (2 + (tI t)))) rfl dX9_freeSlack_32 ?_
    refine xr_top (y := iZ (L (tI t))) (congrArg iZ (hM.2.2.1 _ ht1).1) ?_
    refine xr_iadd_zz hx hb dX9_freeSlack_33 ?_
    refine lv_istore_n (lv' := [(3, .int (iZ ((e115 (tI t)) + (L (tI t))))), (2, .int (iZ (span G T L))), (0, .ref mo), (1, .int (nI (tI t)))]) hx hb dX9_freeSlack_34 rfl hl (by decide) rfl (fun ls hl => ?_)
    refine lv_iload_n hx hb dX9_freeSlack_35 rfl (lv_at hl 1 rfl) ?_
    refine lv_iload_n hx hb dX9_freeSlack_36 rfl (lv_at hl 0 rfl) ?_
    refine xr_isub_zz hx hb dX9_freeSlack_37 ?_
    refine lv_istore (lv' := [(4, .int (iZ ((span G T L) - ((e115 (tI t)) + (L (tI t)))))), (3, .int (iZ ((e115 (tI t)) + (L (tI t))))), (2, .int (iZ (span G T L))), (0, .ref mo), (1, .int (nI (tI t)))]) hx hb dX9_freeSlack_38 hl (by decide) rfl (fun ls hl => ?_)
    refine lv_iconst (v := nI (0)) hx hb dX9_freeSlack_40 (by decide) ?_
    refine lv_istore (lv' := [(5, .int (nI 0)), (4, .int (iZ ((span G T L) - ((e115 (tI t)) + (L (tI t)))))), (3, .int (iZ ((e115 (tI t)) + (L (tI t))))), (2, .int (iZ (span G T L))), (0, .ref mo), (1, .int (nI (tI t)))]) hx hb dX9_freeSlack_41 hl (by decide) rfl (fun ls hl => ?_)
    have L43 : ∀ (fu : Nat) (k : Nat) (n : Int), (k ≤ T) → (n = frF G T L (tI t) k) → (T - k) < fu → ∀ (H : Heap) (locs : List Loc), va_P D vwCl [(mo, .inr (9, [.ref na, .ref nb, .ref nc, .ref nd, .int (bI (ms)), .int (nI mk), .ref ne, .int (nI my), .int (nI t12), .int (nI mp), .ref nf, .ref ng, .ref nh, .ref ni, .ref nj, .ref nl])), (na, .inl (ca 0, 442, .inl (zF sn))), (nf, .inl (ca 0, 20, .inl (zF e115)))] H → va_D A [(mo, .inr (9, [.ref na, .ref nb, .ref nc, .ref nd, .int (bI (ms)), .int (nI mk), .ref ne, .int (nI my), .int (nI t12), .int (nI mp), .ref nf, .ref ng, .ref nh, .ref ni, .ref nj, .ref nl])), (na, .inl (ca 0, 442, .inl (zF sn))), (nf, .inl (ca 0, 20, .inl (zF e115)))] → va_S A s.heap H locs → ∀ ls : Array Slot, lv_has ls 7 [(5, .int (nI k)), (4, .int (iZ n)), (3, .int (iZ ((e115 (tI t)) + (L (tI t))))), (2, .int (iZ (span G T L))), (0, .ref mo), (1, .int (nI (tI t)))] → W pG l eV rX9_freeSlack s mI args below meth cO H locs 0 0 Q (F0 mI 43 ls []) := by
      clear hP hD hS hl
      intro fu; induction fu with
      | zero => intro k n hk hn hmu; exact absurd hmu (Nat.not_lt_zero _)
      | succ n43 ih43 =>
        intro k n hk hn hmu43 H locs hP hD hS ls hl
        refine lv_iload hx hb dX9_freeSlack_43 (lv_at hl 0 rfl) ?_
        refine lv_aload_n hx hb dX9_freeSlack_45 rfl (lv_at hl 4 rfl) ?_
        refine va_get (D := D) (ci := 9) (v := .ref na) (C := RX9) (T := TX9) (N := 16) hx hb hts inX9 hown hK hP 0 rfl rfl 0 (by decide) f7 (fun _ h9 => h9) rfl dX9_freeSlack_46 ?_
        refine lv_iconst (v := nI (0)) hx hb dX9_freeSlack_49 (by decide) ?_
        refine xr_iald hx hb hK hP 1 0 rfl rfl (by omega) (Nat.le_of_ble_eq_true rfl) (v := iZ (sn 0)) rfl dX9_freeSlack_50 ?_
        refine lv_icmp_ge (tgt := 111) hx hb dX9_freeSlack_51 (by decide) (fun h51 => ?_) (fun h51 => ?_)
        · skip
          have h51 := (cL (iZ_toInt (by omega) (by omega)) (nI_toInt (by omega))).mp h51
          refine lv_iload hx hb dX9_freeSlack_111 (lv_at hl 1 rfl) ?_
          rw [← hE]
          exact xe_i (t12, e115) hx hb hr hlocks hK hP hD hS (⟨hv2, fun _ => by rw [hn, show k = T by omega]⟩) dX9_freeSlack_113
        · skip
          have h51 := (not_congr (cL (iZ_toInt (by omega) (by omega)) (nI_toInt (by omega)))).mp h51
          refine lv_aload_n hx hb dX9_freeSlack_54 rfl (lv_at hl 4 rfl) ?_
          refine va_get (D := D) (ci := 9) (v := .ref nf) (C := RX9) (T := TX9) (N := 16) hx hb hts inX9 hown hK hP 0 rfl rfl 10 (by decide) f25 (fun _ h9 => h9) rfl dX9_freeSlack_55 ?_
          refine lv_iload hx hb dX9_freeSlack_58 (lv_at hl 0 rfl) ?_
          refine xr_iald hx hb hK hP 2 0 rfl rfl (by omega) (Nat.le_of_ble_eq_true rfl) (v := iZ (e115 k)) rfl dX9_freeSlack_60 ?_
          refine lv_aload_n hx hb dX9_freeSlack_61 rfl (lv_at hl 4 rfl) ?_
          refine va_get (D := D) (ci := 9) (v := .ref na) (C := RX9) (T := TX9) (N := 16) hx hb hts inX9 hown hK hP 0 rfl rfl 0 (by decide) f7 (fun _ h9 => h9) rfl dX9_freeSlack_62 ?_
          refine lv_iload_n hx hb dX9_freeSlack_65 rfl (lv_at hl 5 rfl) ?_
          refine lv_iload hx hb dX9_freeSlack_66 (lv_at hl 0 rfl) ?_
          refine xk_pi (xk_S (As := [.ref na, .int (nI (tI t)), .int (nI k)]) (rest := [.int (iZ (e115 k))]) ⟨hx, hb, hml, hown, hts⟩ (mX9_lag l D ca H.size na sn T C L N G (tI t) k hM (by omega)) (va_cwS 3 hts gX9_freeSlack_X9_lag rfl rfl rfl (by decide +kernel) ⟨Nat.le_of_ble_eq_true rfl, Nat.le_of_ble_eq_true rfl⟩) hK hP hD [1] rfl rfl rfl hl.1 rfl (Nat.le_of_ble_eq_true rfl) dX9_freeSlack_68 ⟨Nat.le_of_ble_eq_true rfl, Nat.le_of_ble_eq_true rfl⟩) hP hD hS hA [1] rfl ⟨rfl, rfl⟩ (fun r68 H locs hw68 hP hS => ?_)
          have hw68 : r68 = iZ (G (tI t) k) := hw68
          subst hw68
          refine xr_isub_zz hx hb dX9_freeSlack_71 ?_
          refine lv_iload_n hx hb dX9_freeSlack_72 rfl (lv_at hl 2 rfl) ?_
          refine xr_isub_zz hx hb dX9_freeSlack_73 ?_
          refine lv_istore (lv' := [(6, .int (iZ (((e115 k) - (G (tI t) k)) - ((e115 (tI t)) + (L (tI t)))))), (5, .int (nI k)), (4, .int (iZ n)), (3, .int (iZ ((e115 (tI t)) + (L (tI t))))), (2, .int (iZ (span G T L))), (0, .ref mo), (1, .int (nI (tI t)))]) hx hb dX9_freeSlack_74 hl (by decide) rfl (fun ls hl => ?_)
          have hb1 := hG (tI t) k (by omega) (by omega)
          have hb2 := hv15 k (by omega)
          have hb3 := hv15 (tI t) ht1
          have hb4 := es_le hT hG hLk (show k < T by omega)
          have hb5 := es_0 (G := G) (T := T) (L := L) k
          have hb6 := es_le hT hG hLk ht1
          have hb7 := es_0 (G := G) (T := T) (L := L) (tI t)
          have hb8 := hL30 _ ht1
          have hb9 := frF_rng hT hG hLk ht1 k (by omega)
          refine lv_aload_n hx hb dX9_freeSlack_76 rfl (lv_at hl 5 rfl) ?_
          refine va_get (D := D) (ci := 9) (v := .ref na) (C := RX9) (T := TX9) (N := 16) hx hb hts inX9 hown hK hP 0 rfl rfl 0 (by decide) f7 (fun _ h9 => h9) rfl dX9_freeSlack_77 ?_
          refine lv_iload_n hx hb dX9_freeSlack_80 rfl (lv_at hl 6 rfl) ?_
          refine lv_iload hx hb dX9_freeSlack_81 (lv_at hl 1 rfl) ?_
          refine xk_pi (xk_S (As := [.ref na, .int (nI (tI t)), .int (nI k)]) (rest := []) ⟨hx, hb, hml, hown, hts⟩ (mX9_lag l D ca H.size na sn T C L N G (tI t) k hM (by omega)) (va_cwS 3 hts gX9_freeSlack_X9_lag rfl rfl rfl (by decide +kernel) ⟨Nat.le_of_ble_eq_true rfl, Nat.le_of_ble_eq_true rfl⟩) hK hP hD [1] rfl rfl rfl hl.1 rfl (Nat.le_of_ble_eq_true rfl) dX9_freeSlack_83 ⟨Nat.le_of_ble_eq_true rfl, Nat.le_of_ble_eq_true rfl⟩) hP hD hS hA [1] rfl ⟨rfl, rfl⟩ (fun r83 H locs hw83 hP hS => ?_)
          have hw83 : r83 = iZ (G (tI t) k) := hw83
          subst hw83
          refine lv_if_lt (tgt := 101) hx hb dX9_freeSlack_86 (by decide) (fun h86 => ?_) (fun h86 => ?_)
          · skip
            have h86 := (cT (iZ_toInt (by omega) (by omega)) z0_toInt).mp h86
            refine lv_iload hx hb dX9_freeSlack_101 (lv_at hl 2 rfl) ?_
            refine lv_istore (lv' := [(4, .int (iZ n)), (6, .int (iZ (((e115 k) - (G (tI t) k)) - ((e115 (tI t)) + (L (tI t)))))), (5, .int (nI k)), (3, .int (iZ ((e115 (tI t)) + (L (tI t))))), (2, .int (iZ (span G T L))), (0, .ref mo), (1, .int (nI (tI t)))]) hx hb dX9_freeSlack_103 hl (by decide) rfl (fun ls hl => ?_)
            refine lv_iinc (v := nI (k + 1)) (lv' := [(5, .int (nI (k + 1))), (4, .int (iZ n)), (6, .int (iZ (((e115 k) - (G (tI t) k)) - ((e115 (tI t)) + (L (tI t)))))), (3, .int (iZ ((e115 (tI t)) + (L (tI t))))), (2, .int (iZ (span G T L))), (0, .ref mo), (1, .int (nI (tI t)))]) hx hb dX9_freeSlack_105 hl (k := 2) rfl (nI_add _ 1) (by decide) rfl (fun ls hl => ?_)
            refine lv_goto (tgt := 43) hx hb dX9_freeSlack_108 (by decide) ?_
            exact ih43 (k + 1) n (by omega) (by rw [frF, if_pos (show G (tI t) k = -1 by omega)]; exact hn) (by omega) _ _ hP hD hS _ (lv_sub hl [0, 1, 3, 4, 5, 6] rfl)
          · skip
            have h86 := (not_congr (cT (iZ_toInt (by omega) (by omega)) z0_toInt)).mp h86
            refine lv_iload hx hb dX9_freeSlack_89 (lv_at hl 0 rfl) ?_
            refine lv_iload hx hb dX9_freeSlack_91 (lv_at hl 2 rfl) ?_
            refine lv_icmp_ge (tgt := 101) hx hb dX9_freeSlack_93 (by decide) (fun h93 => ?_) (fun h93 => ?_)
            · skip
              have h93 := (cL (iZ_toInt (by omega) (by omega)) (iZ_toInt (by omega) (by omega))).mp h93
              refine lv_iload hx hb dX9_freeSlack_101 (lv_at hl 2 rfl) ?_
              refine lv_istore (lv' := [(4, .int (iZ n)), (6, .int (iZ (((e115 k) - (G (tI t) k)) - ((e115 (tI t)) + (L (tI t)))))), (5, .int (nI k)), (3, .int (iZ ((e115 (tI t)) + (L (tI t))))), (2, .int (iZ (span G T L))), (0, .ref mo), (1, .int (nI (tI t)))]) hx hb dX9_freeSlack_103 hl (by decide) rfl (fun ls hl => ?_)
              refine lv_iinc (v := nI (k + 1)) (lv' := [(5, .int (nI (k + 1))), (4, .int (iZ n)), (6, .int (iZ (((e115 k) - (G (tI t) k)) - ((e115 (tI t)) + (L (tI t)))))), (3, .int (iZ ((e115 (tI t)) + (L (tI t))))), (2, .int (iZ (span G T L))), (0, .ref mo), (1, .int (nI (tI t)))]) hx hb dX9_freeSlack_105 hl (k := 2) rfl (nI_add _ 1) (by decide) rfl (fun ls hl => ?_)
              refine lv_goto (tgt := 43) hx hb dX9_freeSlack_108 (by decide) ?_
              exact ih43 (k + 1) n (by omega) (by rw [frF, if_neg (show ¬ G (tI t) k = -1 by omega), ← hn]; omega) (by omega) _ _ hP hD hS _ (lv_sub hl [0, 1, 3, 4, 5, 6] rfl)
            · skip
              have h93 := (not_congr (cL (iZ_toInt (by omega) (by omega)) (iZ_toInt (by omega) (by omega)))).mp h93
              refine lv_iload hx hb dX9_freeSlack_96 (lv_at hl 0 rfl) ?_
              refine lv_goto (tgt := 103) hx hb dX9_freeSlack_98 (by decide) ?_
              refine lv_istore (lv' := [(4, .int (iZ (((e115 k) - (G (tI t) k)) - ((e115 (tI t)) + (L (tI t)))))), (6, .int (iZ (((e115 k) - (G (tI t) k)) - ((e115 (tI t)) + (L (tI t)))))), (5, .int (nI k)), (3, .int (iZ ((e115 (tI t)) + (L (tI t))))), (2, .int (iZ (span G T L))), (0, .ref mo), (1, .int (nI (tI t)))]) hx hb dX9_freeSlack_103 hl (by decide) rfl (fun ls hl => ?_)
              refine lv_iinc (v := nI (k + 1)) (lv' := [(5, .int (nI (k + 1))), (4, .int (iZ (((e115 k) - (G (tI t) k)) - ((e115 (tI t)) + (L (tI t)))))), (6, .int (iZ (((e115 k) - (G (tI t) k)) - ((e115 (tI t)) + (L (tI t)))))), (3, .int (iZ ((e115 (tI t)) + (L (tI t))))), (2, .int (iZ (span G T L))), (0, .ref mo), (1, .int (nI (tI t)))]) hx hb dX9_freeSlack_105 hl (k := 2) rfl (nI_add _ 1) (by decide) rfl (fun ls hl => ?_)
              refine lv_goto (tgt := 43) hx hb dX9_freeSlack_108 (by decide) ?_
              exact ih43 (k + 1) (((e115 k) - (G (tI t) k)) - ((e115 (tI t)) + (L (tI t)))) (by omega) (by rw [frF, if_neg (show ¬ G (tI t) k = -1 by omega), ← hn]; omega) (by omega) _ _ hP hD hS _ (lv_sub hl [0, 1, 3, 4, 5, 6] rfl)
    exact L43 _ 0 ((span G T L) - ((e115 (tI t)) + (L (tI t)))) (by omega) (by rw [frF, hv15 _ ht1]) (Nat.lt_succ_self _) _ _ hP hD hS _ (lv_sub hl [0, 1, 2, 3, 4, 5] rfl)
  · skip
    have h5 := bI_0.mp h5
    refine lv_iconst (v := nI (0)) hx hb dX9_freeSlack_8 (by decide) ?_
    rw [← hE]
    exact xe_i (t12, e) hx hb hr hlocks hK hP hD hS (⟨hv2, fun h9 => absurd (h9.symm.trans (kTa_f h5)) (by decide)⟩) dX9_freeSlack_9
def rX9_criticalTasks : Room := { frames := 2, cells := 0, slots := 0, locals := 51 }
set_option maxHeartbeats 4000000 in
set_option maxRecDepth 100000 in
theorem mX9_criticalTasks (l : Launch) (D : va_G) (ca : Nat → ClassId) (sz : Nat) (mo : Nat) (na : Nat) (nb : Nat) (nc : Nat) (nd : Nat) (ne : Nat) (nf : Nat) (ng : Nat) (nh : Nat) (ni : Nat) (nj : Nat) (nl : Nat) (ms : Bool) (mk : Nat) (my : Nat) (mt : Nat) (mp : Nat) (sn : Nat → Int) (T : Nat) (En : Int) (C : Int) (L : Nat → Int) (N : Nat → Int) (G : Nat → Nat → Int) (e : Nat → Int) (f : Nat → Int) (hV : PSV T En C L N G) (hM : MS sn T C L N G) : MM l yX9_criticalTasks wsX9_criticalTasks rX9_criticalTasks D ca [.ref mo] sz [(mo, .inr (9, [.ref na, .ref nb, .ref nc, .ref nd, .int (bI (ms)), .int (nI mk), .ref ne, .int (nI my), .int (nI mt), .int (nI mp), .ref nf, .ref ng, .ref nh, .ref ni, .ref nj, .ref nl])), (na, .inl (ca 0, 442, .inl (zF sn))), (nf, .inl (ca 0, 20, .inl (zF e))), (ng, .inl (ca 0, 20, .inl (zF f)))] (QI D ca (fun (r : Int32) (u : (Nat → Int) × (Nat → Int)) => r = nI (crtN (es G T L) (lst G T L) T)) (fun u => [(mo, .inr (9, [.ref na, .ref nb, .ref nc, .ref nd, .int (bI (ms)), .int (nI mk), .ref ne, .int (nI my), .int (nI 0), .int (nI mp), .ref nf, .ref ng, .ref nh, .ref ni, .ref nj, .ref nl])), (na, .inl (ca 0, 442, .inl (zF sn))), (nf, .inl (ca 0, 20, .inl (zF u.1))), (ng, .inl (ca 0, 20, .inl (zF u.2)))])) := by
  refine MM_of (cc := cX9_criticalTasks) (maxL := 3) (ret := (some .int)) (lv0 := [(0, .ref mo)]) RX9 (by decide) rfl rfl (Nat.le_of_ble_eq_true rfl) rfl ?_
  intro pG eV s mI args below meth cO hx hb hr hml hts hown hlocks hnm A hA H locs hsz hP hK hD hS Q hE ls hl
  have f44 := hts (.fieldLink RX9 44 "SlackPlanModel" "thrown" "I") (List.mem_of_getElem? (i := 1) rfl)
  have inX9 : ∀ w ∈ u_ws RX9 TX9 16, w ∈ wsX9_criticalTasks := in_r _ [14, 15, 16, 17, 18, 19, 20, 21, 22, 23, 24, 25, 26, 27, 28, 29] rfl
  have f7 := hts (.fieldLink RX9 7 "SlackPlanModel" "now" "[I") (List.mem_of_getElem? (i := 2) rfl)
  have f28 := hts (.fieldLink RX9 28 "SlackPlanModel" "late" "[I") (List.mem_of_getElem? (i := 3) rfl)
  have f25 := hts (.fieldLink RX9 25 "SlackPlanModel" "early" "[I") (List.mem_of_getElem? (i := 4) rfl)
  obtain ⟨hT, hC9, hL30, hNk, hG, hac, hGo, hEn, hE40⟩ := hV
  have hLk := L30_LOK hL30
  have hs0 := hM.1
  have hs1 := hM.2.1
  refine lv_aload_n hx hb dX9_criticalTasks_0 rfl (lv_at hl 0 rfl) ?_
  refine lv_iconst (v := nI (0)) hx hb dX9_criticalTasks_1 (by decide) ?_
  refine va_put (D := D) (ci := 9) (v := .int (nI 0)) (ty := .int) (C := RX9) (T := TX9) (N := 16) hx hb hts inX9 tyX9 tyX9_ok nmX9 hown hK hP hD hS 0 rfl rfl 8 (by decide) f44 (fun _ h9 => h9) rfl (by decide +kernel) rfl rfl (Nat.le_of_ble_eq_true rfl) dX9_criticalTasks_2 (fun H locs hP hD hS => ?_)
  have hP : va_P D vwCl [(mo, .inr (9, [.ref na, .ref nb, .ref nc, .ref nd, .int (bI (ms)), .int (nI mk), .ref ne, .int (nI my), .int (nI 0), .int (nI mp), .ref nf, .ref ng, .ref nh, .ref ni, .ref nj, .ref nl])), (na, .inl (ca 0, 442, .inl (zF sn))), (nf, .inl (ca 0, 20, .inl (zF e))), (ng, .inl (ca 0, 20, .inl (zF f)))] H := hP
  have hD : va_D A [(mo, .inr (9, [.ref na, .ref nb, .ref nc, .ref nd, .int (bI (ms)), .int (nI mk), .ref ne, .int (nI my), .int (nI 0), .int (nI mp), .ref nf, .ref ng, .ref nh, .ref ni, .ref nj, .ref nl])), (na, .inl (ca 0, 442, .inl (zF sn))), (nf, .inl (ca 0, 20, .inl (zF e))), (ng, .inl (ca 0, 20, .inl (zF f)))] := hD
  refine lv_aload_n hx hb dX9_criticalTasks_5 rfl (lv_at hl 0 rfl) ?_
  refine lv_aload_n hx hb dX9_criticalTasks_6 rfl (lv_at hl 0 rfl) ?_
  refine va_get (D := D) (ci := 9) (v := .ref na) (C := RX9) (T := TX9) (N := 16) hx hb hts inX9 hown hK hP 0 rfl rfl 0 (by decide) f7 (fun _ h9 => h9) rfl dX9_criticalTasks_7 ?_
  refine xk_i [] (fun u => [(mo, .inr (9, [.ref na, .ref nb, .ref nc, .ref nd, .int (bI (ms)), .int (nI mk), .ref ne, .int (nI my), .int (nI 0), .int (nI mp), .ref nf, .ref ng, .ref nh, .ref ni, .ref nj, .ref nl])), (na, .inl (ca 0, 442, .inl (zF sn))), (nf, .inl (ca 0, 20, .inl (zF u.1))), (ng, .inl (ca 0, 20, .inl (zF u.2)))]) (xk_V (As := [.ref na]) (rest := []) ⟨hx, hb, hml, hown, hts⟩ (mX9_days l D ca H.size mo na nb nc nd ne nf ng nh ni nj nl ms mk my 0 mp na sn e f T C L N G (by omega) hG hac hGo hM hLk) (cwV 1 hts gX9_criticalTasks_X9_days rfl rfl rfl (by decide +kernel) ⟨Nat.le_of_ble_eq_true rfl, Nat.le_of_ble_eq_true rfl⟩) hK hP hD (va_recv (q := (RX9, TX9, 16)) hK hP (ci := 9) (q0 := 0) rfl rfl) [0, 2, 3, 1] rfl rfl rfl hl.1 rfl (Nat.le_of_ble_eq_true rfl) dX9_criticalTasks_10 ⟨Nat.le_of_ble_eq_true rfl, Nat.le_of_ble_eq_true rfl⟩) hP hD hS hA [0, 2, 3, 1] [] [0, 3, 1, 2] rfl rfl rfl rfl (fun _ => rfl) rfl (fun r10 u10 H locs hw10 hP hD hS => ?_)
  obtain ⟨e110, f110⟩ := u10
  have hw10 : r10 = iZ (span G T L) ∧ (∀ j, j < T → e110 j = es G T L j) ∧ ∀ j, j < T → f110 j = lst G T L j := hw10
  have hP : va_P D vwCl [(mo, .inr (9, [.ref na, .ref nb, .ref nc, .ref nd, .int (bI (ms)), .int (nI mk), .ref ne, .int (nI my), .int (nI 0), .int (nI mp), .ref nf, .ref ng, .ref nh, .ref ni, .ref nj, .ref nl])), (na, .inl (ca 0, 442, .inl (zF sn))), (nf, .inl (ca 0, 20, .inl (zF e110))), (ng, .inl (ca 0, 20, .inl (zF f110)))] H := hP
  have hD : va_D A [(mo, .inr (9, [.ref na, .ref nb, .ref nc, .ref nd, .int (bI (ms)), .int (nI mk), .ref ne, .int (nI my), .int (nI 0), .int (nI mp), .ref nf, .ref ng, .ref nh, .ref ni, .ref nj, .ref nl])), (na, .inl (ca 0, 442, .inl (zF sn))), (nf, .inl (ca 0, 20, .inl (zF e110))), (ng, .inl (ca 0, 20, .inl (zF f110)))] := hD
  obtain ⟨hwr10, hv10⟩ := hw10
  subst hwr10
  refine lv_pop hx hb dX9_criticalTasks_13 rfl ?_
  refine lv_iconst (v := nI (0)) hx hb dX9_criticalTasks_14 (by decide) ?_
  refine lv_istore_n (lv' := [(1, .int (nI 0)), (0, .ref mo)]) hx hb dX9_criticalTasks_15 rfl hl (by decide) rfl (fun ls hl => ?_)
  refine lv_iconst (v := nI (0)) hx hb dX9_criticalTasks_16 (by decide) ?_
  refine lv_istore_n (lv' := [(2, .int (nI 0)), (1, .int (nI 0)), (0, .ref mo)]) hx hb dX9_criticalTasks_17 rfl hl (by decide) rfl (fun ls hl => ?_)
  have L18 : ∀ (fu : Nat) (k : Nat) (n : Nat), (k ≤ T) → (n = crtN e110 f110 k) → (T - k) < fu → ∀ (H : Heap) (locs : List Loc), va_P D vwCl [(mo, .inr (9, [.ref na, .ref nb, .ref nc, .ref nd, .int (bI (ms)), .int (nI mk), .ref ne, .int (nI my), .int (nI 0), .int (nI mp), .ref nf, .ref ng, .ref nh, .ref ni, .ref nj, .ref nl])), (na, .inl (ca 0, 442, .inl (zF sn))), (nf, .inl (ca 0, 20, .inl (zF e110))), (ng, .inl (ca 0, 20, .inl (zF f110)))] H → va_D A [(mo, .inr (9, [.ref na, .ref nb, .ref nc, .ref nd, .int (bI (ms)), .int (nI mk), .ref ne, .int (nI my), .int (nI 0), .int (nI mp), .ref nf, .ref ng, .ref nh, .ref ni, .ref nj, .ref nl])), (na, .inl (ca 0, 442, .inl (zF sn))), (nf, .inl (ca 0, 20, .inl (zF e110))), (ng, .inl (ca 0, 20, .inl (zF f110)))] → va_S A s.heap H locs → ∀ ls : Array Slot, lv_has ls 3 [(2, .int (nI k)), (1, .int (nI n)), (0, .ref mo)] → W pG l eV rX9_criticalTasks s mI args below meth cO H locs 0 0 Q (F0 mI 18 ls []) := by
    clear hP hD hS hl
    intro fu; induction fu with
    | zero => intro k n hk hn hmu; exact absurd hmu (Nat.not_lt_zero _)
    | succ n18 ih18 =>
      intro k n hk hn hmu18 H locs hP hD hS ls hl
      refine lv_iload_n hx hb dX9_criticalTasks_18 rfl (lv_at hl 0 rfl) ?_
      refine lv_aload_n hx hb dX9_criticalTasks_19 rfl (lv_at hl 2 rfl) ?_
      refine va_get (D := D) (ci := 9) (v := .ref na) (C := RX9) (T := TX9) (N := 16) hx hb hts inX9 hown hK hP 0 rfl rfl 0 (by decide) f7 (fun _ h9 => h9) rfl dX9_criticalTasks_20 ?_
      refine lv_iconst (v := nI (0)) hx hb dX9_criticalTasks_23 (by decide) ?_
      refine xr_iald hx hb hK hP 1 0 rfl rfl (by omega) (Nat.le_of_ble_eq_true rfl) (v := iZ (sn 0)) rfl dX9_criticalTasks_24 ?_
      refine lv_icmp_ge (tgt := 57) hx hb dX9_criticalTasks_25 (by decide) (fun h25 => ?_) (fun h25 => ?_)
      · skip
        have h25 := (cL (iZ_toInt (by omega) (by omega)) (nI_toInt (by omega))).mp h25
        refine lv_iload_n hx hb dX9_criticalTasks_57 rfl (lv_at hl 1 rfl) ?_
        rw [← hE]
        exact xe_i (e110, f110) hx hb hr hlocks hK hP hD hS (by rw [hn, show k = T by omega]; exact congrArg nI (crtN_cong (fun j hj => ⟨hv10.1 j hj, hv10.2 j hj⟩))) dX9_criticalTasks_58
      · skip
        have h25 := (not_congr (cL (iZ_toInt (by omega) (by omega)) (nI_toInt (by omega)))).mp h25
        refine lv_iload_n hx hb dX9_criticalTasks_28 rfl (lv_at hl 1 rfl) ?_
        refine lv_aload_n hx hb dX9_criticalTasks_29 rfl (lv_at hl 2 rfl) ?_
        refine va_get (D := D) (ci := 9) (v := .ref ng) (C := RX9) (T := TX9) (N := 16) hx hb hts inX9 hown hK hP 0 rfl rfl 11 (by decide) f28 (fun _ h9 => h9) rfl dX9_criticalTasks_30 ?_
        refine lv_iload_n hx hb dX9_criticalTasks_33 rfl (lv_at hl 0 rfl) ?_
        refine xr_iald hx hb hK hP 3 0 rfl rfl (by omega) (Nat.le_of_ble_eq_true rfl) (v := iZ (f110 k)) rfl dX9_criticalTasks_34 ?_
        refine lv_aload_n hx hb dX9_criticalTasks_35 rfl (lv_at hl 2 rfl) ?_
        refine va_get (D := D) (ci := 9) (v := .ref nf) (C := RX9) (T := TX9) (N := 16) hx hb hts inX9 hown hK hP 0 rfl rfl 10 (by decide) f25 (fun _ h9 => h9) rfl dX9_criticalTasks_36 ?_
        refine lv_iload_n hx hb dX9_criticalTasks_39 rfl (lv_at hl 0 rfl) ?_
        refine xr_iald hx hb hK hP 2 0 rfl rfl (by omega) (Nat.le_of_ble_eq_true rfl) (v := iZ (e110 k)) rfl dX9_criticalTasks_40 ?_
        have hb1 := hv10.1 k (by omega)
        have hb2 := hv10.2 k (by omega)
        have hb3 := es_le hT hG hLk (show k < T by omega)
        have hb4 := es_0 (G := G) (T := T) (L := L) k
        have hb5 := lst_rng hT hG hLk (show k < T by omega)
        refine lv_icmp_ne (tgt := 48) hx hb dX9_criticalTasks_41 (by decide) (fun h41 => ?_) (fun h41 => ?_)
        · skip
          have h41 := (not_congr (cE (iZ_toInt (by omega) (by omega)) (iZ_toInt (by omega) (by omega)))).mp h41
          refine lv_iconst (v := nI (0)) hx hb dX9_criticalTasks_48 (by decide) ?_
          refine xr_iadd hx hb dX9_criticalTasks_49 ?_
          refine lv_istore_n (lv' := [(1, .int (nI (n + 0))), (2, .int (nI k)), (0, .ref mo)]) hx hb dX9_criticalTasks_50 rfl hl (by decide) rfl (fun ls hl => ?_)
          refine lv_iinc (v := nI (k + 1)) (lv' := [(2, .int (nI (k + 1))), (1, .int (nI (n + 0))), (0, .ref mo)]) hx hb dX9_criticalTasks_51 hl (k := 1) rfl (nI_add _ 1) (by decide) rfl (fun ls hl => ?_)
          refine lv_goto (tgt := 18) hx hb dX9_criticalTasks_54 (by decide) ?_
          exact ih18 (k + 1) (n + 0) (by omega) (by rw [crtN, if_neg (by omega), Nat.add_zero]; exact hn) (by omega) _ _ hP hD hS _ (lv_sub hl [0, 1, 2] rfl)
        · skip
          have h41 := (cE (iZ_toInt (by omega) (by omega)) (iZ_toInt (by omega) (by omega))).mp h41
          refine lv_iconst (v := nI (1)) hx hb dX9_criticalTasks_44 (by decide) ?_
          refine lv_goto (tgt := 49) hx hb dX9_criticalTasks_45 (by decide) ?_
          refine xr_iadd hx hb dX9_criticalTasks_49 ?_
          refine lv_istore_n (lv' := [(1, .int (nI (n + 1))), (2, .int (nI k)), (0, .ref mo)]) hx hb dX9_criticalTasks_50 rfl hl (by decide) rfl (fun ls hl => ?_)
          refine lv_iinc (v := nI (k + 1)) (lv' := [(2, .int (nI (k + 1))), (1, .int (nI (n + 1))), (0, .ref mo)]) hx hb dX9_criticalTasks_51 hl (k := 1) rfl (nI_add _ 1) (by decide) rfl (fun ls hl => ?_)
          refine lv_goto (tgt := 18) hx hb dX9_criticalTasks_54 (by decide) ?_
          exact ih18 (k + 1) (n + 1) (by omega) (by rw [hn, crtN, if_pos (by omega)]) (by omega) _ _ hP hD hS _ (lv_sub hl [0, 1, 2] rfl)
  exact L18 _ 0 0 (by omega) rfl (Nat.lt_succ_self _) _ _ hP hD hS _ (lv_sub hl [0, 1, 2] rfl)
def rX9_isEnd : Room := { frames := 1, cells := 0, slots := 0, locals := 22 }
set_option maxHeartbeats 4000000 in
set_option maxRecDepth 100000 in
theorem mX9_isEnd (l : Launch) (D : va_G) (ca : Nat → ClassId) (sz : Nat) (mo : Nat) (na : Nat) (nb : Nat) (nc : Nat) (nd : Nat) (ne : Nat) (nf : Nat) (ng : Nat) (nh : Nat) (ni : Nat) (nj : Nat) (nl : Nat) (ms : Bool) (mk : Nat) (my : Nat) (mt : Nat) (mp : Nat) (sn : Nat → Int) (T : Nat) (C : Int) (L : Nat → Int) (N : Nat → Int) (G : Nat → Nat → Int) (t : Nat) (bo : Bool) (hT : T ≤ 20) (hG : GOK G) (hM : MS sn T C L N G) (htt : t < T) : MM l yX9_isEnd wsX9_isEnd rX9_isEnd D ca [.ref mo, .int (nI t), .int (bI (bo))] sz [(mo, .inr (9, [.ref na, .ref nb, .ref nc, .ref nd, .int (bI (ms)), .int (nI mk), .ref ne, .int (nI my), .int (nI mt), .int (nI mp), .ref nf, .ref ng, .ref nh, .ref ni, .ref nj, .ref nl])), (na, .inl (ca 0, 442, .inl (zF sn)))] (QI D ca (fun (r : Int32) (u : Unit) => r = bI (decide (cntB (eG bo G) t T = 0))) (fun _ => [(mo, .inr (9, [.ref na, .ref nb, .ref nc, .ref nd, .int (bI (ms)), .int (nI mk), .ref ne, .int (nI my), .int (nI mt), .int (nI mp), .ref nf, .ref ng, .ref nh, .ref ni, .ref nj, .ref nl])), (na, .inl (ca 0, 442, .inl (zF sn)))])) := by
  refine MM_of (cc := cX9_isEnd) (maxL := 5) (ret := (some .boolean)) (lv0 := [(0, .ref mo), (1, .int (nI t)), (2, .int (bI (bo)))]) RX9 (by decide) rfl rfl (Nat.le_of_ble_eq_true rfl) rfl ?_
  intro pG eV s mI args below meth cO hx hb hr hml hts hown hlocks hnm A hA H locs hsz hP hK hD hS Q hE ls hl
  have f7 := hts (.fieldLink RX9 7 "SlackPlanModel" "now" "[I") (List.mem_of_getElem? (i := 1) rfl)
  have inX9 : ∀ w ∈ u_ws RX9 TX9 16, w ∈ wsX9_isEnd := in_r _ [6, 7, 8, 9, 10, 11, 12, 13, 14, 15, 16, 17, 18, 19, 20, 21] rfl
  refine lv_iconst (v := bI true) hx hb dX9_isEnd_0 (by decide) ?_
  refine lv_istore_n (lv' := [(3, .int (bI (true))), (0, .ref mo), (1, .int (nI t)), (2, .int (bI (bo)))]) hx hb dX9_isEnd_1 rfl hl (by decide) rfl (fun ls hl => ?_)
  refine lv_iconst (v := nI (0)) hx hb dX9_isEnd_2 (by decide) ?_
  refine lv_istore (lv' := [(4, .int (nI 0)), (3, .int (bI (true))), (0, .ref mo), (1, .int (nI t)), (2, .int (bI (bo)))]) hx hb dX9_isEnd_3 hl (by decide) rfl (fun ls hl => ?_)
  have L5 : ∀ (fu : Nat) (k : Nat) (is : Bool), (k ≤ T) → (is = decide (cntB (eG bo G) t k = 0)) → (T - k) < fu → ∀ (H : Heap) (locs : List Loc), va_P D vwCl [(mo, .inr (9, [.ref na, .ref nb, .ref nc, .ref nd, .int (bI (ms)), .int (nI mk), .ref ne, .int (nI my), .int (nI mt), .int (nI mp), .ref nf, .ref ng, .ref nh, .ref ni, .ref nj, .ref nl])), (na, .inl (ca 0, 442, .inl (zF sn)))] H → va_D A [(mo, .inr (9, [.ref na, .ref nb, .ref nc, .ref nd, .int (bI (ms)), .int (nI mk), .ref ne, .int (nI my), .int (nI mt), .int (nI mp), .ref nf, .ref ng, .ref nh, .ref ni, .ref nj, .ref nl])), (na, .inl (ca 0, 442, .inl (zF sn)))] → va_S A s.heap H locs → ∀ ls : Array Slot, lv_has ls 5 [(4, .int (nI k)), (3, .int (bI (is))), (0, .ref mo), (1, .int (nI t)), (2, .int (bI (bo)))] → W pG l eV rX9_isEnd s mI args below meth cO H locs 0 0 Q (F0 mI 5 ls []) := by
    clear hP hD hS hl
    intro fu; induction fu with
    | zero => intro k is hk hbo hmu; exact absurd hmu (Nat.not_lt_zero _)
    | succ n5 ih5 =>
      intro k is hk hbo hmu5 H locs hP hD hS ls hl
      have hs0 := hM.1
      refine lv_iload hx hb dX9_isEnd_5 (lv_at hl 0 rfl) ?_
      refine lv_aload_n hx hb dX9_isEnd_7 rfl (lv_at hl 2 rfl) ?_
      refine va_get (D := D) (ci := 9) (v := .ref na) (C := RX9) (T := TX9) (N := 16) hx hb hts inX9 hown hK hP 0 rfl rfl 0 (by decide) f7 (fun _ h9 => h9) rfl dX9_isEnd_8 ?_
      refine lv_iconst (v := nI (0)) hx hb dX9_isEnd_11 (by decide) ?_
      refine xr_iald hx hb hK hP 1 0 rfl rfl (by omega) (Nat.le_of_ble_eq_true rfl) (v := iZ (sn 0)) rfl dX9_isEnd_12 ?_
      refine lv_icmp_ge (tgt := 62) hx hb dX9_isEnd_13 (by decide) (fun h13 => ?_) (fun h13 => ?_)
      · skip
        have h13 := (cL (iZ_toInt (by omega) (by omega)) (nI_toInt (by omega))).mp h13
        refine lv_iload_n hx hb dX9_isEnd_62 rfl (lv_at hl 1 rfl) ?_
        rw [← hE]
        exact xe_z () hx hb hr hlocks hK hP hD hS (bI_nar _) (by rw [hbo, show k = T by omega]) dX9_isEnd_63
      · skip
        have h13 := (not_congr (cL (iZ_toInt (by omega) (by omega)) (nI_toInt (by omega)))).mp h13
        refine lv_iload_n hx hb dX9_isEnd_16 rfl (lv_at hl 1 rfl) ?_
        refine lv_if_eq (tgt := 54) hx hb dX9_isEnd_17 (by decide) (fun h17 => ?_) (fun h17 => ?_)
        · skip
          have h17 := bI_0.mp h17
          refine lv_iconst (v := nI (0)) hx hb dX9_isEnd_54 (by decide) ?_
          refine lv_istore_n (lv' := [(3, .int (nI 0)), (4, .int (nI k)), (0, .ref mo), (1, .int (nI t)), (2, .int (bI (bo)))]) hx hb dX9_isEnd_55 rfl hl (by decide) rfl (fun ls hl => ?_)
          refine lv_iinc (v := nI (k + 1)) (lv' := [(4, .int (nI (k + 1))), (3, .int (nI 0)), (0, .ref mo), (1, .int (nI t)), (2, .int (bI (bo)))]) hx hb dX9_isEnd_56 hl (k := 1) rfl (nI_add _ 1) (by decide) rfl (fun ls hl => ?_)
          refine lv_goto (tgt := 5) hx hb dX9_isEnd_59 (by decide) ?_
          exact ih5 (k + 1) false (by omega) (ie_0 hbo h17) (by omega) _ _ hP hD hS _ (lv_sub hl [0, 1, 2, 3, 4] rfl)
        · skip
          have h17 := bI_n0.mp h17
          refine lv_iload_n hx hb dX9_isEnd_20 rfl (lv_at hl 4 rfl) ?_
          refine lv_if_eq (tgt := 37) hx hb dX9_isEnd_21 (by decide) (fun h21 => ?_) (fun h21 => ?_)
          · skip
            have h21 := bI_0.mp h21
            refine lv_aload_n hx hb dX9_isEnd_37 rfl (lv_at hl 2 rfl) ?_
            refine va_get (D := D) (ci := 9) (v := .ref na) (C := RX9) (T := TX9) (N := 16) hx hb hts inX9 hown hK hP 0 rfl rfl 0 (by decide) f7 (fun _ h9 => h9) rfl dX9_isEnd_38 ?_
            refine lv_iload_n hx hb dX9_isEnd_41 rfl (lv_at hl 3 rfl) ?_
            refine lv_iload hx hb dX9_isEnd_42 (lv_at hl 0 rfl) ?_
            refine xk_pi (xk_S (As := [.ref na, .int (nI t), .int (nI k)]) (rest := []) ⟨hx, hb, hml, hown, hts⟩ (mX9_lag l D ca H.size na sn T C L N G t k hM (by omega)) (va_cwS 3 hts gX9_isEnd_X9_lag rfl rfl rfl (by decide +kernel) ⟨Nat.le_of_ble_eq_true rfl, Nat.le_of_ble_eq_true rfl⟩) hK hP hD [1] rfl rfl rfl hl.1 rfl (Nat.le_of_ble_eq_true rfl) dX9_isEnd_44 ⟨Nat.le_of_ble_eq_true rfl, Nat.le_of_ble_eq_true rfl⟩) hP hD hS hA [1] rfl ⟨rfl, rfl⟩ (fun r44 H locs hw44 hP hS => ?_)
            have hw44 : r44 = iZ (G t k) := hw44
            subst hw44
            have hb1 := hG k t (by omega) (by omega)
            have hb2 := hG t k (by omega) (by omega)
            refine lv_if_ge (tgt := 54) hx hb dX9_isEnd_47 (by decide) (fun h47 => ?_) (fun h47 => ?_)
            · skip
              have h47 := (cL z0_toInt (iZ_toInt (by omega) (by omega))).mp h47
              refine lv_iconst (v := nI (0)) hx hb dX9_isEnd_54 (by decide) ?_
              refine lv_istore_n (lv' := [(3, .int (nI 0)), (4, .int (nI k)), (0, .ref mo), (1, .int (nI t)), (2, .int (bI (bo)))]) hx hb dX9_isEnd_55 rfl hl (by decide) rfl (fun ls hl => ?_)
              refine lv_iinc (v := nI (k + 1)) (lv' := [(4, .int (nI (k + 1))), (3, .int (nI 0)), (0, .ref mo), (1, .int (nI t)), (2, .int (bI (bo)))]) hx hb dX9_isEnd_56 hl (k := 1) rfl (nI_add _ 1) (by decide) rfl (fun ls hl => ?_)
              refine lv_goto (tgt := 5) hx hb dX9_isEnd_59 (by decide) ?_
              exact ih5 (k + 1) false (by omega) (ie_2 (by rw [eG_f h21]; omega)) (by omega) _ _ hP hD hS _ (lv_sub hl [0, 1, 2, 3, 4] rfl)
            · skip
              have h47 := (not_congr (cL z0_toInt (iZ_toInt (by omega) (by omega)))).mp h47
              refine lv_iconst (v := nI (1)) hx hb dX9_isEnd_50 (by decide) ?_
              refine lv_goto (tgt := 55) hx hb dX9_isEnd_51 (by decide) ?_
              refine lv_istore_n (lv' := [(3, .int (nI 1)), (4, .int (nI k)), (0, .ref mo), (1, .int (nI t)), (2, .int (bI (bo)))]) hx hb dX9_isEnd_55 rfl hl (by decide) rfl (fun ls hl => ?_)
              refine lv_iinc (v := nI (k + 1)) (lv' := [(4, .int (nI (k + 1))), (3, .int (nI 1)), (0, .ref mo), (1, .int (nI t)), (2, .int (bI (bo)))]) hx hb dX9_isEnd_56 hl (k := 1) rfl (nI_add _ 1) (by decide) rfl (fun ls hl => ?_)
              refine lv_goto (tgt := 5) hx hb dX9_isEnd_59 (by decide) ?_
              exact ih5 (k + 1) true (by omega) (ie_1 hbo h17 (by rw [eG_f h21]; omega)) (by omega) _ _ hP hD hS _ (lv_sub hl [0, 1, 2, 3, 4] rfl)
          · skip
            have h21 := bI_n0.mp h21
            refine lv_aload_n hx hb dX9_isEnd_24 rfl (lv_at hl 2 rfl) ?_
            refine va_get (D := D) (ci := 9) (v := .ref na) (C := RX9) (T := TX9) (N := 16) hx hb hts inX9 hown hK hP 0 rfl rfl 0 (by decide) f7 (fun _ h9 => h9) rfl dX9_isEnd_25 ?_
            refine lv_iload hx hb dX9_isEnd_28 (lv_at hl 0 rfl) ?_
            refine lv_iload_n hx hb dX9_isEnd_30 rfl (lv_at hl 3 rfl) ?_
            refine xk_pi (xk_S (As := [.ref na, .int (nI k), .int (nI t)]) (rest := []) ⟨hx, hb, hml, hown, hts⟩ (mX9_lag l D ca H.size na sn T C L N G k t hM (by omega)) (va_cwS 3 hts gX9_isEnd_X9_lag rfl rfl rfl (by decide +kernel) ⟨Nat.le_of_ble_eq_true rfl, Nat.le_of_ble_eq_true rfl⟩) hK hP hD [1] rfl rfl rfl hl.1 rfl (Nat.le_of_ble_eq_true rfl) dX9_isEnd_31 ⟨Nat.le_of_ble_eq_true rfl, Nat.le_of_ble_eq_true rfl⟩) hP hD hS hA [1] rfl ⟨rfl, rfl⟩ (fun r31 H locs hw31 hP hS => ?_)
            have hw31 : r31 = iZ (G k t) := hw31
            subst hw31
            refine lv_goto (tgt := 47) hx hb dX9_isEnd_34 (by decide) ?_
            have hb1 := hG k t (by omega) (by omega)
            have hb2 := hG t k (by omega) (by omega)
            refine lv_if_ge (tgt := 54) hx hb dX9_isEnd_47 (by decide) (fun h47 => ?_) (fun h47 => ?_)
            · skip
              have h47 := (cL z0_toInt (iZ_toInt (by omega) (by omega))).mp h47
              refine lv_iconst (v := nI (0)) hx hb dX9_isEnd_54 (by decide) ?_
              refine lv_istore_n (lv' := [(3, .int (nI 0)), (4, .int (nI k)), (0, .ref mo), (1, .int (nI t)), (2, .int (bI (bo)))]) hx hb dX9_isEnd_55 rfl hl (by decide) rfl (fun ls hl => ?_)
              refine lv_iinc (v := nI (k + 1)) (lv' := [(4, .int (nI (k + 1))), (3, .int (nI 0)), (0, .ref mo), (1, .int (nI t)), (2, .int (bI (bo)))]) hx hb dX9_isEnd_56 hl (k := 1) rfl (nI_add _ 1) (by decide) rfl (fun ls hl => ?_)
              refine lv_goto (tgt := 5) hx hb dX9_isEnd_59 (by decide) ?_
              exact ih5 (k + 1) false (by omega) (ie_2 (by rw [eG_t h21]; omega)) (by omega) _ _ hP hD hS _ (lv_sub hl [0, 1, 2, 3, 4] rfl)
            · skip
              have h47 := (not_congr (cL z0_toInt (iZ_toInt (by omega) (by omega)))).mp h47
              refine lv_iconst (v := nI (1)) hx hb dX9_isEnd_50 (by decide) ?_
              refine lv_goto (tgt := 55) hx hb dX9_isEnd_51 (by decide) ?_
              refine lv_istore_n (lv' := [(3, .int (nI 1)), (4, .int (nI k)), (0, .ref mo), (1, .int (nI t)), (2, .int (bI (bo)))]) hx hb dX9_isEnd_55 rfl hl (by decide) rfl (fun ls hl => ?_)
              refine lv_iinc (v := nI (k + 1)) (lv' := [(4, .int (nI (k + 1))), (3, .int (nI 1)), (0, .ref mo), (1, .int (nI t)), (2, .int (bI (bo)))]) hx hb dX9_isEnd_56 hl (k := 1) rfl (nI_add _ 1) (by decide) rfl (fun ls hl => ?_)
              refine lv_goto (tgt := 5) hx hb dX9_isEnd_59 (by decide) ?_
              exact ih5 (k + 1) true (by omega) (ie_1 hbo h17 (by rw [eG_t h21]; omega)) (by omega) _ _ hP hD hS _ (lv_sub hl [0, 1, 2, 3, 4] rfl)
  exact L5 _ 0 true (by omega) rfl (Nat.lt_succ_self _) _ _ hP hD hS _ (lv_sub hl [0, 1, 2, 3, 4] rfl)
def rX9_grows : Room := { frames := 0, cells := 0, slots := 0, locals := 0 }
set_option maxHeartbeats 4000000 in
set_option maxRecDepth 100000 in
theorem mX9_grows (l : Launch) (D : va_G) (ca : Nat → ClassId) (sz : Nat) (mo : Nat) (na : Nat) (nb : Nat) (nc : Nat) (nd : Nat) (ne : Nat) (nf : Nat) (ng : Nat) (nh : Nat) (ni : Nat) (nj : Nat) (nl : Nat) (ms : Bool) (mk : Nat) (my : Nat) (mt : Nat) (mp : Nat) (sn : Nat → Int) (e : Nat → Int) (cs : Nat → Int64) (cl : Nat → Int64) (T : Nat) (C : Int) (L : Nat → Int) (N : Nat → Int) (G : Nat → Nat → Int) (hT : T ≤ 20) (hG : GOK G) (hGo : ∀ i j, i < 20 → j < 20 → G i j ≠ -1 → i < T ∧ j < T) (hM : MS sn T C L N G) (hL : LOK T L) (he : ∀ j, j < T → 0 ≤ e j ∧ e j ≤ 4000) : MM l yX9_grows wsX9_grows rX9_grows D ca [.ref mo] sz [(mo, .inr (9, [.ref na, .ref nb, .ref nc, .ref nd, .int (bI (ms)), .int (nI mk), .ref ne, .int (nI my), .int (nI mt), .int (nI mp), .ref nf, .ref ng, .ref nh, .ref ni, .ref nj, .ref nl])), (na, .inl (ca 0, 442, .inl (zF sn))), (nf, .inl (ca 0, 20, .inl (zF e))), (nj, .inl (ca 3, 20, .inr (.inl cs))), (nl, .inl (ca 3, 20, .inr (.inl cl)))] (QV D ca (fun (u : (Nat → Int64) × (Nat → Int64)) => ∀ j, j < T → u.1 j = smL (fun i => tw G L e i j (cs i)) T) (fun u => [(mo, .inr (9, [.ref na, .ref nb, .ref nc, .ref nd, .int (bI (ms)), .int (nI mk), .ref ne, .int (nI my), .int (nI mt), .int (nI mp), .ref nf, .ref ng, .ref nh, .ref ni, .ref nj, .ref nl])), (na, .inl (ca 0, 442, .inl (zF sn))), (nf, .inl (ca 0, 20, .inl (zF e))), (nj, .inl (ca 3, 20, .inr (.inl u.1))), (nl, .inl (ca 3, 20, .inr (.inl u.2)))])) := by
  refine MM_of (cc := cX9_grows) (maxL := 5) (ret := none) (lv0 := [(0, .ref mo)]) RX9 (by decide) rfl rfl (Nat.le_of_ble_eq_true rfl) rfl ?_
  intro pG eV s mI args below meth cO hx hb hr hml hts hown hlocks hnm A hA H locs hsz hP hK hD hS Q hE ls hl
  have f37 := hts (.fieldLink RX9 37 "SlackPlanModel" "chains" "[J") (List.mem_of_getElem? (i := 4) rfl)
  have inX9 : ∀ w ∈ u_ws RX9 TX9 16, w ∈ wsX9_grows := in_r _ [5, 6, 7, 8, 9, 10, 11, 12, 13, 14, 15, 16, 17, 18, 19, 20] rfl
  have f41 := hts (.fieldLink RX9 41 "SlackPlanModel" "longer" "[J") (List.mem_of_getElem? (i := 1) rfl)
  have f7 := hts (.fieldLink RX9 7 "SlackPlanModel" "now" "[I") (List.mem_of_getElem? (i := 2) rfl)
  have f25 := hts (.fieldLink RX9 25 "SlackPlanModel" "early" "[I") (List.mem_of_getElem? (i := 3) rfl)
  refine lv_iconst (v := nI (0)) hx hb dX9_grows_0 (by decide) ?_
  refine lv_istore_n (lv' := [(1, .int (nI 0)), (0, .ref mo)]) hx hb dX9_grows_1 rfl hl (by decide) rfl (fun ls hl => ?_)
  have L2 : ∀ (fu : Nat) (k : Nat) (g0 : Nat → Int64), (k ≤ 20) → (∀ j, j < k → g0 j = 0) → (20 - k) < fu → ∀ (H : Heap) (locs : List Loc), va_P D vwCl [(mo, .inr (9, [.ref na, .ref nb, .ref nc, .ref nd, .int (bI (ms)), .int (nI mk), .ref ne, .int (nI my), .int (nI mt), .int (nI mp), .ref nf, .ref ng, .ref nh, .ref ni, .ref nj, .ref nl])), (na, .inl (ca 0, 442, .inl (zF sn))), (nf, .inl (ca 0, 20, .inl (zF e))), (nj, .inl (ca 3, 20, .inr (.inl cs))), (nl, .inl (ca 3, 20, .inr (.inl g0)))] H → va_D A [(mo, .inr (9, [.ref na, .ref nb, .ref nc, .ref nd, .int (bI (ms)), .int (nI mk), .ref ne, .int (nI my), .int (nI mt), .int (nI mp), .ref nf, .ref ng, .ref nh, .ref ni, .ref nj, .ref nl])), (na, .inl (ca 0, 442, .inl (zF sn))), (nf, .inl (ca 0, 20, .inl (zF e))), (nj, .inl (ca 3, 20, .inr (.inl cs))), (nl, .inl (ca 3, 20, .inr (.inl g0)))] → va_S A s.heap H locs → ∀ ls : Array Slot, lv_has ls 5 [(1, .int (nI k)), (0, .ref mo)] → W pG l eV rX9_grows s mI args below meth cO H locs 0 0 Q (F0 mI 2 ls []) := by
    clear hP hD hS hl
    intro fu; induction fu with
    | zero => intro k g0 hk hg0 hmu; exact absurd hmu (Nat.not_lt_zero _)
    | succ n2 ih2 =>
      intro k g0 hk hg0 hmu2 H locs hP hD hS ls hl
      refine lv_iload_n hx hb dX9_grows_2 rfl (lv_at hl 0 rfl) ?_
      refine lv_bipush (v := nI (20)) hx hb dX9_grows_3 (by decide) ?_
      refine lv_icmp_ge (tgt := 21) hx hb dX9_grows_5 (by decide) (fun h5 => ?_) (fun h5 => ?_)
      · skip
        have h5 := (cL (nI_toInt (by omega)) (nI_toInt (by omega))).mp h5
        refine lv_iconst (v := nI (0)) hx hb dX9_grows_21 (by decide) ?_
        refine lv_istore_n (lv' := [(1, .int (nI 0)), (0, .ref mo)]) hx hb dX9_grows_22 rfl hl (by decide) rfl (fun ls hl => ?_)
        have L23 : ∀ (fu : Nat) (q : Nat) (g1 : Nat → Int64), (q ≤ 400) → (GRW G T L e cs q g1) → (400 - q) < fu → ∀ (H : Heap) (locs : List Loc), va_P D vwCl [(mo, .inr (9, [.ref na, .ref nb, .ref nc, .ref nd, .int (bI (ms)), .int (nI mk), .ref ne, .int (nI my), .int (nI mt), .int (nI mp), .ref nf, .ref ng, .ref nh, .ref ni, .ref nj, .ref nl])), (na, .inl (ca 0, 442, .inl (zF sn))), (nf, .inl (ca 0, 20, .inl (zF e))), (nj, .inl (ca 3, 20, .inr (.inl cs))), (nl, .inl (ca 3, 20, .inr (.inl g1)))] H → va_D A [(mo, .inr (9, [.ref na, .ref nb, .ref nc, .ref nd, .int (bI (ms)), .int (nI mk), .ref ne, .int (nI my), .int (nI mt), .int (nI mp), .ref nf, .ref ng, .ref nh, .ref ni, .ref nj, .ref nl])), (na, .inl (ca 0, 442, .inl (zF sn))), (nf, .inl (ca 0, 20, .inl (zF e))), (nj, .inl (ca 3, 20, .inr (.inl cs))), (nl, .inl (ca 3, 20, .inr (.inl g1)))] → va_S A s.heap H locs → ∀ ls : Array Slot, lv_has ls 5 [(1, .int (nI q)), (0, .ref mo)] → W pG l eV rX9_grows s mI args below meth cO H locs 0 0 Q (F0 mI 23 ls []) := by
          clear hP hD hS hl
          intro fu; induction fu with
          | zero => intro q g1 hq hg hmu; exact absurd hmu (Nat.not_lt_zero _)
          | succ n23 ih23 =>
            intro q g1 hq hg hmu23 H locs hP hD hS ls hl
            refine lv_iload_n hx hb dX9_grows_23 rfl (lv_at hl 0 rfl) ?_
            refine lv_sipush (v := nI (400)) hx hb dX9_grows_24 (by decide) ?_
            refine lv_icmp_ge (tgt := 118) hx hb dX9_grows_27 (by decide) (fun h27 => ?_) (fun h27 => ?_)
            · skip
              have h27 := (cL (nI_toInt (by omega)) (nI_toInt (by omega))).mp h27
              refine lv_iconst (v := nI (0)) hx hb dX9_grows_118 (by decide) ?_
              refine lv_istore_n (lv' := [(1, .int (nI 0)), (0, .ref mo)]) hx hb dX9_grows_119 rfl hl (by decide) rfl (fun ls hl => ?_)
              have L120 : ∀ (fu : Nat) (k : Nat) (c2 : Nat → Int64), (k ≤ 20) → (∀ j, j < k → c2 j = g1 j) → (20 - k) < fu → ∀ (H : Heap) (locs : List Loc), va_P D vwCl [(mo, .inr (9, [.ref na, .ref nb, .ref nc, .ref nd, .int (bI (ms)), .int (nI mk), .ref ne, .int (nI my), .int (nI mt), .int (nI mp), .ref nf, .ref ng, .ref nh, .ref ni, .ref nj, .ref nl])), (na, .inl (ca 0, 442, .inl (zF sn))), (nf, .inl (ca 0, 20, .inl (zF e))), (nj, .inl (ca 3, 20, .inr (.inl c2))), (nl, .inl (ca 3, 20, .inr (.inl g1)))] H → va_D A [(mo, .inr (9, [.ref na, .ref nb, .ref nc, .ref nd, .int (bI (ms)), .int (nI mk), .ref ne, .int (nI my), .int (nI mt), .int (nI mp), .ref nf, .ref ng, .ref nh, .ref ni, .ref nj, .ref nl])), (na, .inl (ca 0, 442, .inl (zF sn))), (nf, .inl (ca 0, 20, .inl (zF e))), (nj, .inl (ca 3, 20, .inr (.inl c2))), (nl, .inl (ca 3, 20, .inr (.inl g1)))] → va_S A s.heap H locs → ∀ ls : Array Slot, lv_has ls 5 [(1, .int (nI k)), (0, .ref mo)] → W pG l eV rX9_grows s mI args below meth cO H locs 0 0 Q (F0 mI 120 ls []) := by
                clear hP hD hS hl
                intro fu; induction fu with
                | zero => intro k c2 hk hc hmu; exact absurd hmu (Nat.not_lt_zero _)
                | succ n120 ih120 =>
                  intro k c2 hk hc hmu120 H locs hP hD hS ls hl
                  refine lv_iload_n hx hb dX9_grows_120 rfl (lv_at hl 0 rfl) ?_
                  refine lv_bipush (v := nI (20)) hx hb dX9_grows_121 (by decide) ?_
                  refine lv_icmp_ge (tgt := 144) hx hb dX9_grows_123 (by decide) (fun h123 => ?_) (fun h123 => ?_)
                  · skip
                    have h123 := (cL (nI_toInt (by omega)) (nI_toInt (by omega))).mp h123
                    rw [← hE]
                    exact xe_v (c2, g1) hx hb hr hlocks hK hP hD hS (fun j hj => (hc j (by omega)).trans (GRW_e hT hGo hg (by omega) j hj)) dX9_grows_144
                  · skip
                    have h123 := (not_congr (cL (nI_toInt (by omega)) (nI_toInt (by omega)))).mp h123
                    refine lv_aload_n hx hb dX9_grows_126 rfl (lv_at hl 1 rfl) ?_
                    refine va_get (D := D) (ci := 9) (v := .ref nj) (C := RX9) (T := TX9) (N := 16) hx hb hts inX9 hown hK hP 0 rfl rfl 14 (by decide) f37 (fun _ h9 => h9) rfl dX9_grows_127 ?_
                    refine lv_iload_n hx hb dX9_grows_130 rfl (lv_at hl 0 rfl) ?_
                    refine lv_aload_n hx hb dX9_grows_131 rfl (lv_at hl 1 rfl) ?_
                    refine va_get (D := D) (ci := 9) (v := .ref nl) (C := RX9) (T := TX9) (N := 16) hx hb hts inX9 hown hK hP 0 rfl rfl 15 (by decide) f41 (fun _ h9 => h9) rfl dX9_grows_132 ?_
                    refine lv_iload_n hx hb dX9_grows_135 rfl (lv_at hl 0 rfl) ?_
                    refine xr_lald hx hb hK hP 4 3 rfl rfl (by omega) (Nat.le_of_ble_eq_true rfl) (v := (g1 k)) rfl dX9_grows_136 ?_
                    refine xr_last hx hb hK hP hD hS 3 3 rfl rfl (by omega) (Nat.le_of_ble_eq_true rfl) (vp_updL c2 k (g1 k)) (fun _ _ => rfl) dX9_grows_137 (fun H locs hP hD hS => ?_)
                    have hP : va_P D vwCl [(mo, .inr (9, [.ref na, .ref nb, .ref nc, .ref nd, .int (bI (ms)), .int (nI mk), .ref ne, .int (nI my), .int (nI mt), .int (nI mp), .ref nf, .ref ng, .ref nh, .ref ni, .ref nj, .ref nl])), (na, .inl (ca 0, 442, .inl (zF sn))), (nf, .inl (ca 0, 20, .inl (zF e))), (nj, .inl (ca 3, 20, .inr (.inl (vp_updL c2 k (g1 k))))), (nl, .inl (ca 3, 20, .inr (.inl g1)))] H := hP
                    have hD : va_D A [(mo, .inr (9, [.ref na, .ref nb, .ref nc, .ref nd, .int (bI (ms)), .int (nI mk), .ref ne, .int (nI my), .int (nI mt), .int (nI mp), .ref nf, .ref ng, .ref nh, .ref ni, .ref nj, .ref nl])), (na, .inl (ca 0, 442, .inl (zF sn))), (nf, .inl (ca 0, 20, .inl (zF e))), (nj, .inl (ca 3, 20, .inr (.inl (vp_updL c2 k (g1 k))))), (nl, .inl (ca 3, 20, .inr (.inl g1)))] := hD
                    refine lv_iinc (v := nI (k + 1)) (lv' := [(1, .int (nI (k + 1))), (0, .ref mo)]) hx hb dX9_grows_138 hl (k := 0) rfl (nI_add _ 1) (by decide) rfl (fun ls hl => ?_)
                    refine lv_goto (tgt := 120) hx hb dX9_grows_141 (by decide) ?_
                    exact ih120 (k + 1) (vp_updL c2 k (g1 k)) (by omega) (fun j hj => if c9 : j = k then (by rw [c9]; exact pk_uLs) else (by have e9 : vp_updL c2 k (g1 k) j = c2 j := pk_uLn c9; rw [e9]; exact hc j (by omega))) (by omega) _ _ hP hD hS _ (lv_sub hl [0, 1] rfl)
              exact L120 _ 0 cs (by omega) (fun j h => absurd h (Nat.not_lt_zero j)) (Nat.lt_succ_self _) _ _ hP hD hS _ (lv_sub hl [0, 1] rfl)
            · skip
              have h27 := (not_congr (cL (nI_toInt (by omega)) (nI_toInt (by omega)))).mp h27
              refine lv_iload_n hx hb dX9_grows_30 rfl (lv_at hl 0 rfl) ?_
              refine lv_bipush (v := nI (20)) hx hb dX9_grows_31 (by decide) ?_
              refine xr_idiv hx hb (by omega) (by omega) (by omega) dX9_grows_33 ?_
              refine lv_istore_n (lv' := [(2, .int (nI (q / 20))), (1, .int (nI q)), (0, .ref mo)]) hx hb dX9_grows_34 rfl hl (by decide) rfl (fun ls hl => ?_)
              refine lv_aload_n hx hb dX9_grows_35 rfl (lv_at hl 2 rfl) ?_
              refine va_get (D := D) (ci := 9) (v := .ref na) (C := RX9) (T := TX9) (N := 16) hx hb hts inX9 hown hK hP 0 rfl rfl 0 (by decide) f7 (fun _ h9 => h9) rfl dX9_grows_36 ?_
              refine lv_bipush (v := nI (42)) hx hb dX9_grows_39 (by decide) ?_
              refine lv_iload_n hx hb dX9_grows_41 rfl (lv_at hl 1 rfl) ?_
              refine xr_iadd hx hb dX9_grows_42 ?_
              refine xr_iald hx hb hK hP 1 0 rfl rfl (by omega) (Nat.le_of_ble_eq_true rfl) (v := iZ (sn (42 + q))) rfl dX9_grows_43 ?_
              refine xr_top (y := iZ (G (q / 20) (q % 20))) (congrArg iZ (hM.2.2.2 q (by omega))) ?_
              refine lv_istore_n (lv' := [(3, .int (iZ (G (q / 20) (q % 20)))), (2, .int (nI (q / 20))), (1, .int (nI q)), (0, .ref mo)]) hx hb dX9_grows_44 rfl hl (by decide) rfl (fun ls hl => ?_)
              refine lv_iload_n hx hb dX9_grows_45 rfl (lv_at hl 0 rfl) ?_
              have hb1 := hG (q / 20) (q % 20) (by omega) (by omega)
              refine lv_if_lt (tgt := 82) hx hb dX9_grows_46 (by decide) (fun h46 => ?_) (fun h46 => ?_)
              · skip
                have h46 := (cT (iZ_toInt (by omega) (by omega)) z0_toInt).mp h46
                refine lv_iconst (v := nI (0)) hx hb dX9_grows_82 (by decide) ?_
                refine lv_istore (lv' := [(4, .int (nI 0)), (3, .int (iZ (G (q / 20) (q % 20)))), (2, .int (nI (q / 20))), (1, .int (nI q)), (0, .ref mo)]) hx hb dX9_grows_83 hl (by decide) rfl (fun ls hl => ?_)
                refine lv_aload_n hx hb dX9_grows_85 rfl (lv_at hl 4 rfl) ?_
                refine va_get (D := D) (ci := 9) (v := .ref nl) (C := RX9) (T := TX9) (N := 16) hx hb hts inX9 hown hK hP 0 rfl rfl 15 (by decide) f41 (fun _ h9 => h9) rfl dX9_grows_86 ?_
                refine lv_iload_n hx hb dX9_grows_89 rfl (lv_at hl 3 rfl) ?_
                refine lv_bipush (v := nI (20)) hx hb dX9_grows_90 (by decide) ?_
                refine xr_irem hx hb (by omega) (by omega) (by omega) dX9_grows_92 ?_
                refine lv_dup2_11 hx hb dX9_grows_93 rfl rfl ?_
                refine xr_lald hx hb hK hP 4 3 rfl rfl (by omega) (Nat.le_of_ble_eq_true rfl) (v := (g1 (q % 20))) rfl dX9_grows_94 ?_
                refine lv_iload hx hb dX9_grows_95 (lv_at hl 0 rfl) ?_
                refine lv_if_eq (tgt := 109) hx hb dX9_grows_97 (by decide) (fun h97 => ?_) (fun h97 => ?_)
                · skip
                  have h97 := (cE (nI_toInt (by omega)) z0_toInt).mp h97
                  refine lv_lconst (v := 0) hx hb dX9_grows_109 rfl ?_
                  refine lv_ladd hx hb dX9_grows_110 ?_
                  refine xr_last hx hb hK hP hD hS 4 3 rfl rfl (by omega) (Nat.le_of_ble_eq_true rfl) (vp_updL g1 (q % 20) ((g1 (q % 20)) + (0))) (fun _ _ => rfl) dX9_grows_111 (fun H locs hP hD hS => ?_)
                  have hP : va_P D vwCl [(mo, .inr (9, [.ref na, .ref nb, .ref nc, .ref nd, .int (bI (ms)), .int (nI mk), .ref ne, .int (nI my), .int (nI mt), .int (nI mp), .ref nf, .ref ng, .ref nh, .ref ni, .ref nj, .ref nl])), (na, .inl (ca 0, 442, .inl (zF sn))), (nf, .inl (ca 0, 20, .inl (zF e))), (nj, .inl (ca 3, 20, .inr (.inl cs))), (nl, .inl (ca 3, 20, .inr (.inl (vp_updL g1 (q % 20) ((g1 (q % 20)) + (0))))))] H := hP
                  have hD : va_D A [(mo, .inr (9, [.ref na, .ref nb, .ref nc, .ref nd, .int (bI (ms)), .int (nI mk), .ref ne, .int (nI my), .int (nI mt), .int (nI mp), .ref nf, .ref ng, .ref nh, .ref ni, .ref nj, .ref nl])), (na, .inl (ca 0, 442, .inl (zF sn))), (nf, .inl (ca 0, 20, .inl (zF e))), (nj, .inl (ca 3, 20, .inr (.inl cs))), (nl, .inl (ca 3, 20, .inr (.inl (vp_updL g1 (q % 20) ((g1 (q % 20)) + (0))))))] := hD
                  refine lv_iinc (v := nI (q + 1)) (lv' := [(1, .int (nI (q + 1))), (4, .int (nI 0)), (3, .int (iZ (G (q / 20) (q % 20)))), (2, .int (nI (q / 20))), (0, .ref mo)]) hx hb dX9_grows_112 hl (k := 3) rfl (nI_add _ 1) (by decide) rfl (fun ls hl => ?_)
                  refine lv_goto (tgt := 23) hx hb dX9_grows_115 (by decide) ?_
                  exact ih23 (q + 1) (vp_updL g1 (q % 20) ((g1 (q % 20)) + (0))) (by omega) (GRW_s hT hg (tw_n1 (by omega))) (by omega) _ _ hP hD hS _ (lv_sub hl [0, 4] rfl)
                · skip
                  have h97 := (not_congr (cE (nI_toInt (by omega)) z0_toInt)).mp h97
                  exact absurd h97 (by omega)
              · skip
                have h46 := (not_congr (cT (iZ_toInt (by omega) (by omega)) z0_toInt)).mp h46
                have hqT := hGo (q / 20) (q % 20) (by omega) (by omega) (by omega)
                have hb2 := hL _ hqT.1
                have hb3 := he _ hqT.1
                have hb4 := he _ hqT.2
                refine lv_aload_n hx hb dX9_grows_49 rfl (lv_at hl 3 rfl) ?_
                refine va_get (D := D) (ci := 9) (v := .ref nf) (C := RX9) (T := TX9) (N := 16) hx hb hts inX9 hown hK hP 0 rfl rfl 10 (by decide) f25 (fun _ h9 => h9) rfl dX9_grows_50 ?_
                refine lv_iload_n hx hb dX9_grows_53 rfl (lv_at hl 1 rfl) ?_
                refine xr_iald hx hb hK hP 2 0 rfl rfl (by omega) (Nat.le_of_ble_eq_true rfl) (v := iZ (e (q / 20))) rfl dX9_grows_54 ?_
                refine lv_aload_n hx hb dX9_grows_55 rfl (lv_at hl 3 rfl) ?_
                refine va_get (D := D) (ci := 9) (v := .ref na) (C := RX9) (T := TX9) (N := 16) hx hb hts inX9 hown hK hP 0 rfl rfl 0 (by decide) f7 (fun _ h9 => h9) rfl dX9_grows_56 ?_
                refine lv_iconst (v := nI (2)) hx hb dX9_grows_59 (by decide) ?_
                refine lv_iload_n hx hb dX9_grows_60 rfl (lv_at hl 1 rfl) ?_
                refine xr_iadd hx hb dX9_grows_61 ?_
                refine xr_iald hx hb hK hP 1 0 rfl rfl (by omega) (Nat.le_of_ble_eq_true rfl) (v := iZ (sn (2 + (q / 20)))) rfl dX9_grows_62 ?_
                refine xr_top (y := iZ (L (q / 20))) (congrArg iZ (hM.2.2.1 _ hqT.1).1) ?_
                refine xr_iadd_zz hx hb dX9_grows_63 ?_
                refine lv_iload_n hx hb dX9_grows_64 rfl (lv_at hl 0 rfl) ?_
                refine xr_iadd_zz hx hb dX9_grows_65 ?_
                refine lv_aload_n hx hb dX9_grows_66 rfl (lv_at hl 3 rfl) ?_
                refine va_get (D := D) (ci := 9) (v := .ref nf) (C := RX9) (T := TX9) (N := 16) hx hb hts inX9 hown hK hP 0 rfl rfl 10 (by decide) f25 (fun _ h9 => h9) rfl dX9_grows_67 ?_
                refine lv_iload_n hx hb dX9_grows_70 rfl (lv_at hl 2 rfl) ?_
                refine lv_bipush (v := nI (20)) hx hb dX9_grows_71 (by decide) ?_
                refine xr_irem hx hb (by omega) (by omega) (by omega) dX9_grows_73 ?_
                refine xr_iald hx hb hK hP 2 0 rfl rfl (by omega) (Nat.le_of_ble_eq_true rfl) (v := iZ (e (q % 20))) rfl dX9_grows_74 ?_
                refine lv_icmp_ne (tgt := 82) hx hb dX9_grows_75 (by decide) (fun h75 => ?_) (fun h75 => ?_)
                · skip
                  have h75 := (not_congr (cE (iZ_toInt (by omega) (by omega)) (iZ_toInt (by omega) (by omega)))).mp h75
                  refine lv_iconst (v := nI (0)) hx hb dX9_grows_82 (by decide) ?_
                  refine lv_istore (lv' := [(4, .int (nI 0)), (3, .int (iZ (G (q / 20) (q % 20)))), (2, .int (nI (q / 20))), (1, .int (nI q)), (0, .ref mo)]) hx hb dX9_grows_83 hl (by decide) rfl (fun ls hl => ?_)
                  refine lv_aload_n hx hb dX9_grows_85 rfl (lv_at hl 4 rfl) ?_
                  refine va_get (D := D) (ci := 9) (v := .ref nl) (C := RX9) (T := TX9) (N := 16) hx hb hts inX9 hown hK hP 0 rfl rfl 15 (by decide) f41 (fun _ h9 => h9) rfl dX9_grows_86 ?_
                  refine lv_iload_n hx hb dX9_grows_89 rfl (lv_at hl 3 rfl) ?_
                  refine lv_bipush (v := nI (20)) hx hb dX9_grows_90 (by decide) ?_
                  refine xr_irem hx hb (by omega) (by omega) (by omega) dX9_grows_92 ?_
                  refine lv_dup2_11 hx hb dX9_grows_93 rfl rfl ?_
                  refine xr_lald hx hb hK hP 4 3 rfl rfl (by omega) (Nat.le_of_ble_eq_true rfl) (v := (g1 (q % 20))) rfl dX9_grows_94 ?_
                  refine lv_iload hx hb dX9_grows_95 (lv_at hl 0 rfl) ?_
                  refine lv_if_eq (tgt := 109) hx hb dX9_grows_97 (by decide) (fun h97 => ?_) (fun h97 => ?_)
                  · skip
                    have h97 := (cE (nI_toInt (by omega)) z0_toInt).mp h97
                    refine lv_lconst (v := 0) hx hb dX9_grows_109 rfl ?_
                    refine lv_ladd hx hb dX9_grows_110 ?_
                    refine xr_last hx hb hK hP hD hS 4 3 rfl rfl (by omega) (Nat.le_of_ble_eq_true rfl) (vp_updL g1 (q % 20) ((g1 (q % 20)) + (0))) (fun _ _ => rfl) dX9_grows_111 (fun H locs hP hD hS => ?_)
                    have hP : va_P D vwCl [(mo, .inr (9, [.ref na, .ref nb, .ref nc, .ref nd, .int (bI (ms)), .int (nI mk), .ref ne, .int (nI my), .int (nI mt), .int (nI mp), .ref nf, .ref ng, .ref nh, .ref ni, .ref nj, .ref nl])), (na, .inl (ca 0, 442, .inl (zF sn))), (nf, .inl (ca 0, 20, .inl (zF e))), (nj, .inl (ca 3, 20, .inr (.inl cs))), (nl, .inl (ca 3, 20, .inr (.inl (vp_updL g1 (q % 20) ((g1 (q % 20)) + (0))))))] H := hP
                    have hD : va_D A [(mo, .inr (9, [.ref na, .ref nb, .ref nc, .ref nd, .int (bI (ms)), .int (nI mk), .ref ne, .int (nI my), .int (nI mt), .int (nI mp), .ref nf, .ref ng, .ref nh, .ref ni, .ref nj, .ref nl])), (na, .inl (ca 0, 442, .inl (zF sn))), (nf, .inl (ca 0, 20, .inl (zF e))), (nj, .inl (ca 3, 20, .inr (.inl cs))), (nl, .inl (ca 3, 20, .inr (.inl (vp_updL g1 (q % 20) ((g1 (q % 20)) + (0))))))] := hD
                    refine lv_iinc (v := nI (q + 1)) (lv' := [(1, .int (nI (q + 1))), (4, .int (nI 0)), (3, .int (iZ (G (q / 20) (q % 20)))), (2, .int (nI (q / 20))), (0, .ref mo)]) hx hb dX9_grows_112 hl (k := 3) rfl (nI_add _ 1) (by decide) rfl (fun ls hl => ?_)
                    refine lv_goto (tgt := 23) hx hb dX9_grows_115 (by decide) ?_
                    exact ih23 (q + 1) (vp_updL g1 (q % 20) ((g1 (q % 20)) + (0))) (by omega) (GRW_s hT hg (tw_n2 (by omega))) (by omega) _ _ hP hD hS _ (lv_sub hl [0, 4] rfl)
                  · skip
                    have h97 := (not_congr (cE (nI_toInt (by omega)) z0_toInt)).mp h97
                    exact absurd h97 (by omega)
                · skip
                  have h75 := (cE (iZ_toInt (by omega) (by omega)) (iZ_toInt (by omega) (by omega))).mp h75
                  refine lv_iconst (v := nI (1)) hx hb dX9_grows_78 (by decide) ?_
                  refine lv_goto (tgt := 83) hx hb dX9_grows_79 (by decide) ?_
                  refine lv_istore (lv' := [(4, .int (nI 1)), (3, .int (iZ (G (q / 20) (q % 20)))), (2, .int (nI (q / 20))), (1, .int (nI q)), (0, .ref mo)]) hx hb dX9_grows_83 hl (by decide) rfl (fun ls hl => ?_)
                  refine lv_aload_n hx hb dX9_grows_85 rfl (lv_at hl 4 rfl) ?_
                  refine va_get (D := D) (ci := 9) (v := .ref nl) (C := RX9) (T := TX9) (N := 16) hx hb hts inX9 hown hK hP 0 rfl rfl 15 (by decide) f41 (fun _ h9 => h9) rfl dX9_grows_86 ?_
                  refine lv_iload_n hx hb dX9_grows_89 rfl (lv_at hl 3 rfl) ?_
                  refine lv_bipush (v := nI (20)) hx hb dX9_grows_90 (by decide) ?_
                  refine xr_irem hx hb (by omega) (by omega) (by omega) dX9_grows_92 ?_
                  refine lv_dup2_11 hx hb dX9_grows_93 rfl rfl ?_
                  refine xr_lald hx hb hK hP 4 3 rfl rfl (by omega) (Nat.le_of_ble_eq_true rfl) (v := (g1 (q % 20))) rfl dX9_grows_94 ?_
                  refine lv_iload hx hb dX9_grows_95 (lv_at hl 0 rfl) ?_
                  refine lv_if_eq (tgt := 109) hx hb dX9_grows_97 (by decide) (fun h97 => ?_) (fun h97 => ?_)
                  · skip
                    have h97 := (cE (nI_toInt (by omega)) z0_toInt).mp h97
                    exact absurd h97 (by omega)
                  · skip
                    have h97 := (not_congr (cE (nI_toInt (by omega)) z0_toInt)).mp h97
                    refine lv_aload_n hx hb dX9_grows_100 rfl (lv_at hl 4 rfl) ?_
                    refine va_get (D := D) (ci := 9) (v := .ref nj) (C := RX9) (T := TX9) (N := 16) hx hb hts inX9 hown hK hP 0 rfl rfl 14 (by decide) f37 (fun _ h9 => h9) rfl dX9_grows_101 ?_
                    refine lv_iload_n hx hb dX9_grows_104 rfl (lv_at hl 2 rfl) ?_
                    refine xr_lald hx hb hK hP 3 3 rfl rfl (by omega) (Nat.le_of_ble_eq_true rfl) (v := (cs (q / 20))) rfl dX9_grows_105 ?_
                    refine lv_goto (tgt := 110) hx hb dX9_grows_106 (by decide) ?_
                    refine lv_ladd hx hb dX9_grows_110 ?_
                    refine xr_last hx hb hK hP hD hS 4 3 rfl rfl (by omega) (Nat.le_of_ble_eq_true rfl) (vp_updL g1 (q % 20) ((g1 (q % 20)) + (cs (q / 20)))) (fun _ _ => rfl) dX9_grows_111 (fun H locs hP hD hS => ?_)
                    have hP : va_P D vwCl [(mo, .inr (9, [.ref na, .ref nb, .ref nc, .ref nd, .int (bI (ms)), .int (nI mk), .ref ne, .int (nI my), .int (nI mt), .int (nI mp), .ref nf, .ref ng, .ref nh, .ref ni, .ref nj, .ref nl])), (na, .inl (ca 0, 442, .inl (zF sn))), (nf, .inl (ca 0, 20, .inl (zF e))), (nj, .inl (ca 3, 20, .inr (.inl cs))), (nl, .inl (ca 3, 20, .inr (.inl (vp_updL g1 (q % 20) ((g1 (q % 20)) + (cs (q / 20)))))))] H := hP
                    have hD : va_D A [(mo, .inr (9, [.ref na, .ref nb, .ref nc, .ref nd, .int (bI (ms)), .int (nI mk), .ref ne, .int (nI my), .int (nI mt), .int (nI mp), .ref nf, .ref ng, .ref nh, .ref ni, .ref nj, .ref nl])), (na, .inl (ca 0, 442, .inl (zF sn))), (nf, .inl (ca 0, 20, .inl (zF e))), (nj, .inl (ca 3, 20, .inr (.inl cs))), (nl, .inl (ca 3, 20, .inr (.inl (vp_updL g1 (q % 20) ((g1 (q % 20)) + (cs (q / 20)))))))] := hD
                    refine lv_iinc (v := nI (q + 1)) (lv' := [(1, .int (nI (q + 1))), (4, .int (nI 1)), (3, .int (iZ (G (q / 20) (q % 20)))), (2, .int (nI (q / 20))), (0, .ref mo)]) hx hb dX9_grows_112 hl (k := 3) rfl (nI_add _ 1) (by decide) rfl (fun ls hl => ?_)
                    refine lv_goto (tgt := 23) hx hb dX9_grows_115 (by decide) ?_
                    exact ih23 (q + 1) (vp_updL g1 (q % 20) ((g1 (q % 20)) + (cs (q / 20)))) (by omega) (GRW_s hT hg (tw_y (by omega) (by omega))) (by omega) _ _ hP hD hS _ (lv_sub hl [0, 4] rfl)
        exact L23 _ 0 g0 (by omega) (GRW_0 hT (by omega) hg0) (Nat.lt_succ_self _) _ _ hP hD hS _ (lv_sub hl [0, 1] rfl)
      · skip
        have h5 := (not_congr (cL (nI_toInt (by omega)) (nI_toInt (by omega)))).mp h5
        refine lv_aload_n hx hb dX9_grows_8 rfl (lv_at hl 1 rfl) ?_
        refine va_get (D := D) (ci := 9) (v := .ref nl) (C := RX9) (T := TX9) (N := 16) hx hb hts inX9 hown hK hP 0 rfl rfl 15 (by decide) f41 (fun _ h9 => h9) rfl dX9_grows_9 ?_
        refine lv_iload_n hx hb dX9_grows_12 rfl (lv_at hl 0 rfl) ?_
        refine lv_lconst (v := 0) hx hb dX9_grows_13 rfl ?_
        refine xr_last hx hb hK hP hD hS 4 3 rfl rfl (by omega) (Nat.le_of_ble_eq_true rfl) (vp_updL g0 k (0)) (fun _ _ => rfl) dX9_grows_14 (fun H locs hP hD hS => ?_)
        have hP : va_P D vwCl [(mo, .inr (9, [.ref na, .ref nb, .ref nc, .ref nd, .int (bI (ms)), .int (nI mk), .ref ne, .int (nI my), .int (nI mt), .int (nI mp), .ref nf, .ref ng, .ref nh, .ref ni, .ref nj, .ref nl])), (na, .inl (ca 0, 442, .inl (zF sn))), (nf, .inl (ca 0, 20, .inl (zF e))), (nj, .inl (ca 3, 20, .inr (.inl cs))), (nl, .inl (ca 3, 20, .inr (.inl (vp_updL g0 k (0)))))] H := hP
        have hD : va_D A [(mo, .inr (9, [.ref na, .ref nb, .ref nc, .ref nd, .int (bI (ms)), .int (nI mk), .ref ne, .int (nI my), .int (nI mt), .int (nI mp), .ref nf, .ref ng, .ref nh, .ref ni, .ref nj, .ref nl])), (na, .inl (ca 0, 442, .inl (zF sn))), (nf, .inl (ca 0, 20, .inl (zF e))), (nj, .inl (ca 3, 20, .inr (.inl cs))), (nl, .inl (ca 3, 20, .inr (.inl (vp_updL g0 k (0)))))] := hD
        refine lv_iinc (v := nI (k + 1)) (lv' := [(1, .int (nI (k + 1))), (0, .ref mo)]) hx hb dX9_grows_15 hl (k := 0) rfl (nI_add _ 1) (by decide) rfl (fun ls hl => ?_)
        refine lv_goto (tgt := 2) hx hb dX9_grows_18 (by decide) ?_
        exact ih2 (k + 1) (vp_updL g0 k (0)) (by omega) (fun j hj => if c9 : j = k then (by rw [c9]; exact pk_uLs) else (by have e9 : vp_updL g0 k 0 j = g0 j := pk_uLn c9; rw [e9]; exact hg0 j (by omega))) (by omega) _ _ hP hD hS _ (lv_sub hl [0, 1] rfl)
  exact L2 _ 0 cl (by omega) (fun j h => absurd h (Nat.not_lt_zero j)) (Nat.lt_succ_self _) _ _ hP hD hS _ (lv_sub hl [0, 1] rfl)
def rX9_criticalChains : Room := { frames := 2, cells := 0, slots := 0, locals := 46 }
set_option maxHeartbeats 4000000 in
set_option maxRecDepth 100000 in
theorem mX9_criticalChains (l : Launch) (D : va_G) (ca : Nat → ClassId) (sz : Nat) (mo : Nat) (na : Nat) (nb : Nat) (nc : Nat) (nd : Nat) (ne : Nat) (nf : Nat) (ng : Nat) (nh : Nat) (ni : Nat) (nj : Nat) (nl : Nat) (ms : Bool) (mk : Nat) (my : Nat) (mt : Nat) (mp : Nat) (sn : Nat → Int) (T : Nat) (En : Int) (C : Int) (L : Nat → Int) (N : Nat → Int) (G : Nat → Nat → Int) (e : Nat → Int) (cs : Nat → Int64) (cl : Nat → Int64) (hV : PSV T En C L N G) (hM : MS sn T C L N G) : MM l yX9_criticalChains wsX9_criticalChains rX9_criticalChains D ca [.ref mo] sz [(mo, .inr (9, [.ref na, .ref nb, .ref nc, .ref nd, .int (bI (ms)), .int (nI mk), .ref ne, .int (nI my), .int (nI mt), .int (nI mp), .ref nf, .ref ng, .ref nh, .ref ni, .ref nj, .ref nl])), (na, .inl (ca 0, 442, .inl (zF sn))), (nf, .inl (ca 0, 20, .inl (zF e))), (nj, .inl (ca 3, 20, .inr (.inl cs))), (nl, .inl (ca 3, 20, .inr (.inl cl)))] (QL D ca (fun (r : Int64) (u : (Nat → Int) × (Nat → Int64) × (Nat → Int64)) => r = chains G T L (es G T L) (span G T L)) (fun u => [(mo, .inr (9, [.ref na, .ref nb, .ref nc, .ref nd, .int (bI (ms)), .int (nI mk), .ref ne, .int (nI my), .int (nI 0), .int (nI mp), .ref nf, .ref ng, .ref nh, .ref ni, .ref nj, .ref nl])), (na, .inl (ca 0, 442, .inl (zF sn))), (nf, .inl (ca 0, 20, .inl (zF u.1))), (nj, .inl (ca 3, 20, .inr (.inl u.2.1))), (nl, .inl (ca 3, 20, .inr (.inl u.2.2)))])) := by
  refine MM_of (cc := cX9_criticalChains) (maxL := 6) (ret := (some .long)) (lv0 := [(0, .ref mo)]) RX9 (by decide) rfl rfl (Nat.le_of_ble_eq_true rfl) rfl ?_
  intro pG eV s mI args below meth cO hx hb hr hml hts hown hlocks hnm A hA H locs hsz hP hK hD hS Q hE ls hl
  have f44 := hts (.fieldLink RX9 44 "SlackPlanModel" "thrown" "I") (List.mem_of_getElem? (i := 1) rfl)
  have inX9 : ∀ w ∈ u_ws RX9 TX9 16, w ∈ wsX9_criticalChains := in_r _ [22, 23, 24, 25, 26, 27, 28, 29, 30, 31, 32, 33, 34, 35, 36, 37] rfl
  have f7 := hts (.fieldLink RX9 7 "SlackPlanModel" "now" "[I") (List.mem_of_getElem? (i := 2) rfl)
  have f25 := hts (.fieldLink RX9 25 "SlackPlanModel" "early" "[I") (List.mem_of_getElem? (i := 4) rfl)
  have f37 := hts (.fieldLink RX9 37 "SlackPlanModel" "chains" "[J") (List.mem_of_getElem? (i := 3) rfl)
  obtain ⟨hT, hC9, hL30, hNk, hG, hac, hGo, hEn, hE40⟩ := hV
  have hLk := L30_LOK hL30
  have hs0 := hM.1
  have hs1 := hM.2.1
  refine lv_aload_n hx hb dX9_criticalChains_0 rfl (lv_at hl 0 rfl) ?_
  refine lv_iconst (v := nI (0)) hx hb dX9_criticalChains_1 (by decide) ?_
  refine va_put (D := D) (ci := 9) (v := .int (nI 0)) (ty := .int) (C := RX9) (T := TX9) (N := 16) hx hb hts inX9 tyX9 tyX9_ok nmX9 hown hK hP hD hS 0 rfl rfl 8 (by decide) f44 (fun _ h9 => h9) rfl (by decide +kernel) rfl rfl (Nat.le_of_ble_eq_true rfl) dX9_criticalChains_2 (fun H locs hP hD hS => ?_)
  have hP : va_P D vwCl [(mo, .inr (9, [.ref na, .ref nb, .ref nc, .ref nd, .int (bI (ms)), .int (nI mk), .ref ne, .int (nI my), .int (nI 0), .int (nI mp), .ref nf, .ref ng, .ref nh, .ref ni, .ref nj, .ref nl])), (na, .inl (ca 0, 442, .inl (zF sn))), (nf, .inl (ca 0, 20, .inl (zF e))), (nj, .inl (ca 3, 20, .inr (.inl cs))), (nl, .inl (ca 3, 20, .inr (.inl cl)))] H := hP
  have hD : va_D A [(mo, .inr (9, [.ref na, .ref nb, .ref nc, .ref nd, .int (bI (ms)), .int (nI mk), .ref ne, .int (nI my), .int (nI 0), .int (nI mp), .ref nf, .ref ng, .ref nh, .ref ni, .ref nj, .ref nl])), (na, .inl (ca 0, 442, .inl (zF sn))), (nf, .inl (ca 0, 20, .inl (zF e))), (nj, .inl (ca 3, 20, .inr (.inl cs))), (nl, .inl (ca 3, 20, .inr (.inl cl)))] := hD
  refine lv_aload_n hx hb dX9_criticalChains_5 rfl (lv_at hl 0 rfl) ?_
  refine lv_aload_n hx hb dX9_criticalChains_6 rfl (lv_at hl 0 rfl) ?_
  refine va_get (D := D) (ci := 9) (v := .ref na) (C := RX9) (T := TX9) (N := 16) hx hb hts inX9 hown hK hP 0 rfl rfl 0 (by decide) f7 (fun _ h9 => h9) rfl dX9_criticalChains_7 ?_
  refine xk_i [(nj, .inl (ca 3, 20, .inr (.inl cs))), (nl, .inl (ca 3, 20, .inr (.inl cl)))] (fun u => [(mo, .inr (9, [.ref na, .ref nb, .ref nc, .ref nd, .int (bI (ms)), .int (nI mk), .ref ne, .int (nI my), .int (nI 0), .int (nI mp), .ref nf, .ref ng, .ref nh, .ref ni, .ref nj, .ref nl])), (na, .inl (ca 0, 442, .inl (zF sn))), (nf, .inl (ca 0, 20, .inl (zF u))), (nj, .inl (ca 3, 20, .inr (.inl cs))), (nl, .inl (ca 3, 20, .inr (.inl cl)))]) (xk_V (As := [.ref na]) (rest := []) ⟨hx, hb, hml, hown, hts⟩ (mX9_starts l D ca H.size mo na nb nc nd ne nf ng nh ni nj nl ms mk my 0 mp na sn e T C L N G (by omega) hG hac hGo hM hLk) (cwV 1 hts gX9_criticalChains_X9_starts rfl rfl rfl (by decide +kernel) ⟨Nat.le_of_ble_eq_true rfl, Nat.le_of_ble_eq_true rfl⟩) hK hP hD (va_recv (q := (RX9, TX9, 16)) hK hP (ci := 9) (q0 := 0) rfl rfl) [0, 2, 1] rfl rfl rfl hl.1 rfl (Nat.le_of_ble_eq_true rfl) dX9_criticalChains_10 ⟨Nat.le_of_ble_eq_true rfl, Nat.le_of_ble_eq_true rfl⟩) hP hD hS hA [0, 2, 1] [3, 4] [2, 4, 3, 0, 1] rfl rfl rfl rfl (fun _ => rfl) rfl (fun r10 u10 H locs hw10 hP hD hS => ?_)
  obtain ⟨e110, hu10⟩ : ∃ z, z = u10 := ⟨_, rfl⟩
  subst hu10
  have hw10 : r10 = iZ (span G T L) ∧ ∀ j, j < T → e110 j = es G T L j := hw10
  have hP : va_P D vwCl [(mo, .inr (9, [.ref na, .ref nb, .ref nc, .ref nd, .int (bI (ms)), .int (nI mk), .ref ne, .int (nI my), .int (nI 0), .int (nI mp), .ref nf, .ref ng, .ref nh, .ref ni, .ref nj, .ref nl])), (na, .inl (ca 0, 442, .inl (zF sn))), (nf, .inl (ca 0, 20, .inl (zF e110))), (nj, .inl (ca 3, 20, .inr (.inl cs))), (nl, .inl (ca 3, 20, .inr (.inl cl)))] H := hP
  have hD : va_D A [(mo, .inr (9, [.ref na, .ref nb, .ref nc, .ref nd, .int (bI (ms)), .int (nI mk), .ref ne, .int (nI my), .int (nI 0), .int (nI mp), .ref nf, .ref ng, .ref nh, .ref ni, .ref nj, .ref nl])), (na, .inl (ca 0, 442, .inl (zF sn))), (nf, .inl (ca 0, 20, .inl (zF e110))), (nj, .inl (ca 3, 20, .inr (.inl cs))), (nl, .inl (ca 3, 20, .inr (.inl cl)))] := hD
  obtain ⟨hwr10, hv10⟩ := hw10
  subst hwr10
  have hee : ∀ j, j < T → 0 ≤ e110 j ∧ e110 j ≤ 4000 := fun j hj => by rw [hv10 j hj]; exact ⟨es_0 j, es_le hT hG hLk hj⟩
  have hsp1 := span_le hT hG hLk
  have hsp0 := span_0 (G := G) (T := T) (L := L)
  refine lv_istore_n (lv' := [(1, .int (iZ (span G T L))), (0, .ref mo)]) hx hb dX9_criticalChains_13 rfl hl (by decide) rfl (fun ls hl => ?_)
  refine lv_iconst (v := nI (0)) hx hb dX9_criticalChains_14 (by decide) ?_
  refine lv_istore_n (lv' := [(2, .int (nI 0)), (1, .int (iZ (span G T L))), (0, .ref mo)]) hx hb dX9_criticalChains_15 rfl hl (by decide) rfl (fun ls hl => ?_)
  have L16 : ∀ (fu : Nat) (k : Nat) (cs2 : Nat → Int64), (k ≤ 20) → (∀ j, j < k → j < T → cs2 j = src G T j) → (20 - k) < fu → ∀ (H : Heap) (locs : List Loc), va_P D vwCl [(mo, .inr (9, [.ref na, .ref nb, .ref nc, .ref nd, .int (bI (ms)), .int (nI mk), .ref ne, .int (nI my), .int (nI 0), .int (nI mp), .ref nf, .ref ng, .ref nh, .ref ni, .ref nj, .ref nl])), (na, .inl (ca 0, 442, .inl (zF sn))), (nf, .inl (ca 0, 20, .inl (zF e110))), (nj, .inl (ca 3, 20, .inr (.inl cs2))), (nl, .inl (ca 3, 20, .inr (.inl cl)))] H → va_D A [(mo, .inr (9, [.ref na, .ref nb, .ref nc, .ref nd, .int (bI (ms)), .int (nI mk), .ref ne, .int (nI my), .int (nI 0), .int (nI mp), .ref nf, .ref ng, .ref nh, .ref ni, .ref nj, .ref nl])), (na, .inl (ca 0, 442, .inl (zF sn))), (nf, .inl (ca 0, 20, .inl (zF e110))), (nj, .inl (ca 3, 20, .inr (.inl cs2))), (nl, .inl (ca 3, 20, .inr (.inl cl)))] → va_S A s.heap H locs → ∀ ls : Array Slot, lv_has ls 6 [(2, .int (nI k)), (1, .int (iZ (span G T L))), (0, .ref mo)] → W pG l eV rX9_criticalChains s mI args below meth cO H locs 0 0 Q (F0 mI 16 ls []) := by
    clear hP hD hS hl
    intro fu; induction fu with
    | zero => intro k cs2 hk hcs hmu; exact absurd hmu (Nat.not_lt_zero _)
    | succ n16 ih16 =>
      intro k cs2 hk hcs hmu16 H locs hP hD hS ls hl
      refine lv_iload_n hx hb dX9_criticalChains_16 rfl (lv_at hl 0 rfl) ?_
      refine lv_bipush (v := nI (20)) hx hb dX9_criticalChains_17 (by decide) ?_
      refine lv_icmp_ge (tgt := 58) hx hb dX9_criticalChains_19 (by decide) (fun h19 => ?_) (fun h19 => ?_)
      · skip
        have h19 := (cL (nI_toInt (by omega)) (nI_toInt (by omega))).mp h19
        refine lv_lconst (v := 0) hx hb dX9_criticalChains_58 rfl ?_
        refine lv_lstore_n (lv' := [(2, .long (0)), (1, .int (iZ (span G T L))), (0, .ref mo)]) hx hb dX9_criticalChains_59 rfl hl (by decide) rfl (fun ls hl => ?_)
        refine lv_iconst (v := nI (0)) hx hb dX9_criticalChains_60 (by decide) ?_
        refine lv_istore (lv' := [(4, .int (nI 0)), (2, .long (0)), (1, .int (iZ (span G T L))), (0, .ref mo)]) hx hb dX9_criticalChains_61 hl (by decide) rfl (fun ls hl => ?_)
        have L63 : ∀ (fu : Nat) (rd : Nat) (S : Int64) (cs3 : Nat → Int64) (cl3 : Nat → Int64), (rd ≤ T) → (∀ j, j < T → cs3 j = chN G T L (es G T L) rd j) → (S = smL (fun k => smL (fun c => fin G T L (es G T L) (span G T L) c (chN G T L (es G T L) k c)) T) rd) → (T - rd) < fu → ∀ (H : Heap) (locs : List Loc), va_P D vwCl [(mo, .inr (9, [.ref na, .ref nb, .ref nc, .ref nd, .int (bI (ms)), .int (nI mk), .ref ne, .int (nI my), .int (nI 0), .int (nI mp), .ref nf, .ref ng, .ref nh, .ref ni, .ref nj, .ref nl])), (na, .inl (ca 0, 442, .inl (zF sn))), (nf, .inl (ca 0, 20, .inl (zF e110))), (nj, .inl (ca 3, 20, .inr (.inl cs3))), (nl, .inl (ca 3, 20, .inr (.inl cl3)))] H → va_D A [(mo, .inr (9, [.ref na, .ref nb, .ref nc, .ref nd, .int (bI (ms)), .int (nI mk), .ref ne, .int (nI my), .int (nI 0), .int (nI mp), .ref nf, .ref ng, .ref nh, .ref ni, .ref nj, .ref nl])), (na, .inl (ca 0, 442, .inl (zF sn))), (nf, .inl (ca 0, 20, .inl (zF e110))), (nj, .inl (ca 3, 20, .inr (.inl cs3))), (nl, .inl (ca 3, 20, .inr (.inl cl3)))] → va_S A s.heap H locs → ∀ ls : Array Slot, lv_has ls 6 [(4, .int (nI rd)), (2, .long (S)), (1, .int (iZ (span G T L))), (0, .ref mo)] → W pG l eV rX9_criticalChains s mI args below meth cO H locs 0 0 Q (F0 mI 63 ls []) := by
          clear hP hD hS hl
          intro fu; induction fu with
          | zero => intro rd S cs3 cl3 hrd hcj hSm hmu; exact absurd hmu (Nat.not_lt_zero _)
          | succ n63 ih63 =>
            intro rd S cs3 cl3 hrd hcj hSm hmu63 H locs hP hD hS ls hl
            refine lv_iload hx hb dX9_criticalChains_63 (lv_at hl 0 rfl) ?_
            refine lv_aload_n hx hb dX9_criticalChains_65 rfl (lv_at hl 3 rfl) ?_
            refine va_get (D := D) (ci := 9) (v := .ref na) (C := RX9) (T := TX9) (N := 16) hx hb hts inX9 hown hK hP 0 rfl rfl 0 (by decide) f7 (fun _ h9 => h9) rfl dX9_criticalChains_66 ?_
            refine lv_iconst (v := nI (0)) hx hb dX9_criticalChains_69 (by decide) ?_
            refine xr_iald hx hb hK hP 1 0 rfl rfl (by omega) (Nat.le_of_ble_eq_true rfl) (v := iZ (sn 0)) rfl dX9_criticalChains_70 ?_
            refine lv_icmp_ge (tgt := 149) hx hb dX9_criticalChains_71 (by decide) (fun h71 => ?_) (fun h71 => ?_)
            · skip
              have h71 := (cL (iZ_toInt (by omega) (by omega)) (nI_toInt (by omega))).mp h71
              refine lv_lload_n hx hb dX9_criticalChains_149 rfl (lv_at hl 1 rfl) ?_
              rw [← hE]
              exact xe_l (e110, cs3, cl3) hx hb hr hlocks hK hP hD hS (by rw [hSm, show rd = T by omega]; exact chains_rd) dX9_criticalChains_150
            · skip
              have h71 := (not_congr (cL (iZ_toInt (by omega) (by omega)) (nI_toInt (by omega)))).mp h71
              refine lv_iconst (v := nI (0)) hx hb dX9_criticalChains_74 (by decide) ?_
              refine lv_istore (lv' := [(5, .int (nI 0)), (4, .int (nI rd)), (2, .long (S)), (1, .int (iZ (span G T L))), (0, .ref mo)]) hx hb dX9_criticalChains_75 hl (by decide) rfl (fun ls hl => ?_)
              have L77 : ∀ (fu : Nat) (c : Nat) (S2 : Int64), (c ≤ T) → (S2 = S + smL (fun c => fin G T L (es G T L) (span G T L) c (chN G T L (es G T L) rd c)) c) → (T - c) < fu → ∀ (H : Heap) (locs : List Loc), va_P D vwCl [(mo, .inr (9, [.ref na, .ref nb, .ref nc, .ref nd, .int (bI (ms)), .int (nI mk), .ref ne, .int (nI my), .int (nI 0), .int (nI mp), .ref nf, .ref ng, .ref nh, .ref ni, .ref nj, .ref nl])), (na, .inl (ca 0, 442, .inl (zF sn))), (nf, .inl (ca 0, 20, .inl (zF e110))), (nj, .inl (ca 3, 20, .inr (.inl cs3))), (nl, .inl (ca 3, 20, .inr (.inl cl3)))] H → va_D A [(mo, .inr (9, [.ref na, .ref nb, .ref nc, .ref nd, .int (bI (ms)), .int (nI mk), .ref ne, .int (nI my), .int (nI 0), .int (nI mp), .ref nf, .ref ng, .ref nh, .ref ni, .ref nj, .ref nl])), (na, .inl (ca 0, 442, .inl (zF sn))), (nf, .inl (ca 0, 20, .inl (zF e110))), (nj, .inl (ca 3, 20, .inr (.inl cs3))), (nl, .inl (ca 3, 20, .inr (.inl cl3)))] → va_S A s.heap H locs → ∀ ls : Array Slot, lv_has ls 6 [(5, .int (nI c)), (4, .int (nI rd)), (2, .long (S2)), (1, .int (iZ (span G T L))), (0, .ref mo)] → W pG l eV rX9_criticalChains s mI args below meth cO H locs 0 0 Q (F0 mI 77 ls []) := by
                clear hP hD hS hl
                intro fu; induction fu with
                | zero => intro c S2 hc hS2 hmu; exact absurd hmu (Nat.not_lt_zero _)
                | succ n77 ih77 =>
                  intro c S2 hc hS2 hmu77 H locs hP hD hS ls hl
                  refine lv_iload hx hb dX9_criticalChains_77 (lv_at hl 0 rfl) ?_
                  refine lv_aload_n hx hb dX9_criticalChains_79 rfl (lv_at hl 4 rfl) ?_
                  refine va_get (D := D) (ci := 9) (v := .ref na) (C := RX9) (T := TX9) (N := 16) hx hb hts inX9 hown hK hP 0 rfl rfl 0 (by decide) f7 (fun _ h9 => h9) rfl dX9_criticalChains_80 ?_
                  refine lv_iconst (v := nI (0)) hx hb dX9_criticalChains_83 (by decide) ?_
                  refine xr_iald hx hb hK hP 1 0 rfl rfl (by omega) (Nat.le_of_ble_eq_true rfl) (v := iZ (sn 0)) rfl dX9_criticalChains_84 ?_
                  refine lv_icmp_ge (tgt := 139) hx hb dX9_criticalChains_85 (by decide) (fun h85 => ?_) (fun h85 => ?_)
                  · skip
                    have h85 := (cL (iZ_toInt (by omega) (by omega)) (nI_toInt (by omega))).mp h85
                    refine lv_aload_n hx hb dX9_criticalChains_139 rfl (lv_at hl 4 rfl) ?_
                    refine xk_v [] (fun u => [(mo, .inr (9, [.ref na, .ref nb, .ref nc, .ref nd, .int (bI (ms)), .int (nI mk), .ref ne, .int (nI my), .int (nI 0), .int (nI mp), .ref nf, .ref ng, .ref nh, .ref ni, .ref nj, .ref nl])), (na, .inl (ca 0, 442, .inl (zF sn))), (nf, .inl (ca 0, 20, .inl (zF e110))), (nj, .inl (ca 3, 20, .inr (.inl u.1))), (nl, .inl (ca 3, 20, .inr (.inl u.2)))]) (xk_V (As := []) (rest := []) ⟨hx, hb, hml, hown, hts⟩ (mX9_grows l D ca H.size mo na nb nc nd ne nf ng nh ni nj nl ms mk my 0 mp sn e110 cs3 cl3 T C L N G (by omega) hG hGo hM hLk hee) (cwV 0 hts gX9_criticalChains_X9_grows rfl rfl rfl (by decide +kernel) ⟨Nat.le_of_ble_eq_true rfl, Nat.le_of_ble_eq_true rfl⟩) hK hP hD (va_recv (q := (RX9, TX9, 16)) hK hP (ci := 9) (q0 := 0) rfl rfl) [0, 1, 2, 3, 4] rfl rfl rfl hl.1 rfl (Nat.le_of_ble_eq_true rfl) dX9_criticalChains_140 ⟨Nat.le_of_ble_eq_true rfl, Nat.le_of_ble_eq_true rfl⟩) hP hD hS hA [0, 1, 2, 3, 4] [] [0, 1, 2, 3, 4] rfl rfl rfl rfl (fun _ => rfl) rfl (fun u140 H locs hw140 hP hD hS => ?_)
                    obtain ⟨cs1140, cl1140⟩ := u140
                    have hw140 : ∀ j, j < T → cs1140 j = smL (fun i => tw G L e110 i j (cs3 i)) T := hw140
                    have hP : va_P D vwCl [(mo, .inr (9, [.ref na, .ref nb, .ref nc, .ref nd, .int (bI (ms)), .int (nI mk), .ref ne, .int (nI my), .int (nI 0), .int (nI mp), .ref nf, .ref ng, .ref nh, .ref ni, .ref nj, .ref nl])), (na, .inl (ca 0, 442, .inl (zF sn))), (nf, .inl (ca 0, 20, .inl (zF e110))), (nj, .inl (ca 3, 20, .inr (.inl cs1140))), (nl, .inl (ca 3, 20, .inr (.inl cl1140)))] H := hP
                    have hD : va_D A [(mo, .inr (9, [.ref na, .ref nb, .ref nc, .ref nd, .int (bI (ms)), .int (nI mk), .ref ne, .int (nI my), .int (nI 0), .int (nI mp), .ref nf, .ref ng, .ref nh, .ref ni, .ref nj, .ref nl])), (na, .inl (ca 0, 442, .inl (zF sn))), (nf, .inl (ca 0, 20, .inl (zF e110))), (nj, .inl (ca 3, 20, .inr (.inl cs1140))), (nl, .inl (ca 3, 20, .inr (.inl cl1140)))] := hD
                    refine lv_iinc (v := nI (rd + 1)) (lv' := [(4, .int (nI (rd + 1))), (5, .int (nI c)), (2, .long (S2)), (1, .int (iZ (span G T L))), (0, .ref mo)]) hx hb dX9_criticalChains_143 hl (k := 1) rfl (nI_add _ 1) (by decide) rfl (fun ls hl => ?_)
                    refine lv_goto (tgt := 63) hx hb dX9_criticalChains_146 (by decide) ?_
                    exact ih63 (rd + 1) S2 cs1140 cl1140 (by omega) (fun j hj => by rw [hw140 j hj]; show _ = smL _ T; exact smL_cong (fun i hi => by rw [hcj i hi]; exact tw_cong (hv10 i hi) (hv10 j hj))) (by rw [hS2, hSm, show c = T by omega]; rfl) (by omega) _ _ hP hD hS _ (lv_sub hl [0, 2, 3, 4] rfl)
                  · skip
                    have h85 := (not_congr (cL (iZ_toInt (by omega) (by omega)) (nI_toInt (by omega)))).mp h85
                    refine lv_lload_n hx hb dX9_criticalChains_88 rfl (lv_at hl 2 rfl) ?_
                    refine lv_aload_n hx hb dX9_criticalChains_89 rfl (lv_at hl 4 rfl) ?_
                    refine lv_iload hx hb dX9_criticalChains_90 (lv_at hl 0 rfl) ?_
                    refine lv_iconst (v := bI false) hx hb dX9_criticalChains_92 (by decide) ?_
                    refine xk_pi (xk_V (As := [.int (nI c), .int (bI (false))]) (rest := [.long (S2)]) ⟨hx, hb, hml, hown, hts⟩ (mX9_isEnd l D ca H.size mo na nb nc nd ne nf ng nh ni nj nl ms mk my 0 mp sn T C L N G c false (by omega) hG hM (by omega)) (cwV 2 hts gX9_criticalChains_X9_isEnd rfl rfl rfl (by decide +kernel) ⟨Nat.le_of_ble_eq_true rfl, Nat.le_of_ble_eq_true rfl⟩) hK hP hD (va_recv (q := (RX9, TX9, 16)) hK hP (ci := 9) (q0 := 0) rfl rfl) [0, 1] rfl rfl rfl hl.1 rfl (Nat.le_of_ble_eq_true rfl) dX9_criticalChains_93 ⟨Nat.le_of_ble_eq_true rfl, Nat.le_of_ble_eq_true rfl⟩) hP hD hS hA [0, 1] rfl ⟨rfl, rfl⟩ (fun r93 H locs hw93 hP hS => ?_)
                    have hw93 : r93 = bI (decide (cntB (eG false G) c T = 0)) := hw93
                    subst hw93
                    refine lv_if_eq (tgt := 130) hx hb dX9_criticalChains_96 (by decide) (fun h96 => ?_) (fun h96 => ?_)
                    · skip
                      have h96 := bI_0.mp h96
                      refine lv_lconst (v := 0) hx hb dX9_criticalChains_130 rfl ?_
                      refine lv_ladd hx hb dX9_criticalChains_131 ?_
                      refine lv_lstore_n (lv' := [(2, .long ((S2) + (0))), (5, .int (nI c)), (4, .int (nI rd)), (1, .int (iZ (span G T L))), (0, .ref mo)]) hx hb dX9_criticalChains_132 rfl hl (by decide) rfl (fun ls hl => ?_)
                      refine lv_iinc (v := nI (c + 1)) (lv' := [(5, .int (nI (c + 1))), (2, .long ((S2) + (0))), (4, .int (nI rd)), (1, .int (iZ (span G T L))), (0, .ref mo)]) hx hb dX9_criticalChains_133 hl (k := 1) rfl (nI_add _ 1) (by decide) rfl (fun ls hl => ?_)
                      refine lv_goto (tgt := 77) hx hb dX9_criticalChains_136 (by decide) ?_
                      exact ih77 (c + 1) ((S2) + (0)) (by omega) (by rw [hS2, smL, ← Int64.add_assoc, ← fin_n1 h96]) (by omega) _ _ hP hD hS _ (lv_sub hl [0, 2, 1, 3, 4] rfl)
                    · skip
                      have h96 := bI_n0.mp h96
                      refine lv_aload_n hx hb dX9_criticalChains_99 rfl (lv_at hl 4 rfl) ?_
                      refine va_get (D := D) (ci := 9) (v := .ref nf) (C := RX9) (T := TX9) (N := 16) hx hb hts inX9 hown hK hP 0 rfl rfl 10 (by decide) f25 (fun _ h9 => h9) rfl dX9_criticalChains_100 ?_
                      refine lv_iload hx hb dX9_criticalChains_103 (lv_at hl 0 rfl) ?_
                      refine xr_iald hx hb hK hP 2 0 rfl rfl (by omega) (Nat.le_of_ble_eq_true rfl) (v := iZ (e110 c)) rfl dX9_criticalChains_105 ?_
                      refine lv_aload_n hx hb dX9_criticalChains_106 rfl (lv_at hl 4 rfl) ?_
                      refine va_get (D := D) (ci := 9) (v := .ref na) (C := RX9) (T := TX9) (N := 16) hx hb hts inX9 hown hK hP 0 rfl rfl 0 (by decide) f7 (fun _ h9 => h9) rfl dX9_criticalChains_107 ?_
                      refine lv_iconst (v := nI (2)) hx hb dX9_criticalChains_110 (by decide) ?_
                      refine lv_iload hx hb dX9_criticalChains_111 (lv_at hl 0 rfl) ?_
                      refine xr_iadd hx hb dX9_criticalChains_113 ?_
                      refine xr_iald hx hb hK hP 1 0 rfl rfl (by omega) (Nat.le_of_ble_eq_true rfl) (v := iZ (sn (2 + c))) rfl dX9_criticalChains_114 ?_
                      refine xr_top (y := iZ (L c)) (congrArg iZ (hM.2.2.1 c (by omega)).1) ?_
                      refine xr_iadd_zz hx hb dX9_criticalChains_115 ?_
                      refine lv_iload_n hx hb dX9_criticalChains_116 rfl (lv_at hl 3 rfl) ?_
                      have hb1 := hee c (by omega)
                      have hb2 := hL30 c (by omega)
                      have hb3 := hv10 c (by omega)
                      refine lv_icmp_ne (tgt := 130) hx hb dX9_criticalChains_117 (by decide) (fun h117 => ?_) (fun h117 => ?_)
                      · skip
                        have h117 := (not_congr (cE (iZ_toInt (by omega) (by omega)) (iZ_toInt (by omega) (by omega)))).mp h117
                        refine lv_lconst (v := 0) hx hb dX9_criticalChains_130 rfl ?_
                        refine lv_ladd hx hb dX9_criticalChains_131 ?_
                        refine lv_lstore_n (lv' := [(2, .long ((S2) + (0))), (5, .int (nI c)), (4, .int (nI rd)), (1, .int (iZ (span G T L))), (0, .ref mo)]) hx hb dX9_criticalChains_132 rfl hl (by decide) rfl (fun ls hl => ?_)
                        refine lv_iinc (v := nI (c + 1)) (lv' := [(5, .int (nI (c + 1))), (2, .long ((S2) + (0))), (4, .int (nI rd)), (1, .int (iZ (span G T L))), (0, .ref mo)]) hx hb dX9_criticalChains_133 hl (k := 1) rfl (nI_add _ 1) (by decide) rfl (fun ls hl => ?_)
                        refine lv_goto (tgt := 77) hx hb dX9_criticalChains_136 (by decide) ?_
                        exact ih77 (c + 1) ((S2) + (0)) (by omega) (by rw [hS2, smL, ← Int64.add_assoc, ← fin_n2 (by omega)]) (by omega) _ _ hP hD hS _ (lv_sub hl [0, 2, 1, 3, 4] rfl)
                      · skip
                        have h117 := (cE (iZ_toInt (by omega) (by omega)) (iZ_toInt (by omega) (by omega))).mp h117
                        refine lv_aload_n hx hb dX9_criticalChains_120 rfl (lv_at hl 4 rfl) ?_
                        refine va_get (D := D) (ci := 9) (v := .ref nj) (C := RX9) (T := TX9) (N := 16) hx hb hts inX9 hown hK hP 0 rfl rfl 14 (by decide) f37 (fun _ h9 => h9) rfl dX9_criticalChains_121 ?_
                        refine lv_iload hx hb dX9_criticalChains_124 (lv_at hl 0 rfl) ?_
                        refine xr_lald hx hb hK hP 3 3 rfl rfl (by omega) (Nat.le_of_ble_eq_true rfl) (v := (cs3 c)) rfl dX9_criticalChains_126 ?_
                        refine lv_goto (tgt := 131) hx hb dX9_criticalChains_127 (by decide) ?_
                        refine lv_ladd hx hb dX9_criticalChains_131 ?_
                        refine lv_lstore_n (lv' := [(2, .long ((S2) + (cs3 c))), (5, .int (nI c)), (4, .int (nI rd)), (1, .int (iZ (span G T L))), (0, .ref mo)]) hx hb dX9_criticalChains_132 rfl hl (by decide) rfl (fun ls hl => ?_)
                        refine lv_iinc (v := nI (c + 1)) (lv' := [(5, .int (nI (c + 1))), (2, .long ((S2) + (cs3 c))), (4, .int (nI rd)), (1, .int (iZ (span G T L))), (0, .ref mo)]) hx hb dX9_criticalChains_133 hl (k := 1) rfl (nI_add _ 1) (by decide) rfl (fun ls hl => ?_)
                        refine lv_goto (tgt := 77) hx hb dX9_criticalChains_136 (by decide) ?_
                        exact ih77 (c + 1) ((S2) + (cs3 c)) (by omega) (by rw [hS2, smL, ← Int64.add_assoc, hcj c (by omega), ← fin_y h96 (by omega)]) (by omega) _ _ hP hD hS _ (lv_sub hl [0, 2, 1, 3, 4] rfl)
              exact L77 _ 0 S (by omega) (Int64.add_zero S).symm (Nat.lt_succ_self _) _ _ hP hD hS _ (lv_sub hl [0, 1, 2, 3, 4] rfl)
        exact L63 _ 0 0 cs2 cl (by omega) (fun j hj => hcs j (by omega) hj) rfl (Nat.lt_succ_self _) _ _ hP hD hS _ (lv_sub hl [0, 1, 2, 3] rfl)
      · skip
        have h19 := (not_congr (cL (nI_toInt (by omega)) (nI_toInt (by omega)))).mp h19
        refine lv_aload_n hx hb dX9_criticalChains_22 rfl (lv_at hl 2 rfl) ?_
        refine va_get (D := D) (ci := 9) (v := .ref nj) (C := RX9) (T := TX9) (N := 16) hx hb hts inX9 hown hK hP 0 rfl rfl 14 (by decide) f37 (fun _ h9 => h9) rfl dX9_criticalChains_23 ?_
        refine lv_iload_n hx hb dX9_criticalChains_26 rfl (lv_at hl 0 rfl) ?_
        refine lv_iload_n hx hb dX9_criticalChains_27 rfl (lv_at hl 0 rfl) ?_
        refine lv_aload_n hx hb dX9_criticalChains_28 rfl (lv_at hl 2 rfl) ?_
        refine va_get (D := D) (ci := 9) (v := .ref na) (C := RX9) (T := TX9) (N := 16) hx hb hts inX9 hown hK hP 0 rfl rfl 0 (by decide) f7 (fun _ h9 => h9) rfl dX9_criticalChains_29 ?_
        refine lv_iconst (v := nI (0)) hx hb dX9_criticalChains_32 (by decide) ?_
        refine xr_iald hx hb hK hP 1 0 rfl rfl (by omega) (Nat.le_of_ble_eq_true rfl) (v := iZ (sn 0)) rfl dX9_criticalChains_33 ?_
        refine lv_icmp_ge (tgt := 50) hx hb dX9_criticalChains_34 (by decide) (fun h34 => ?_) (fun h34 => ?_)
        · skip
          have h34 := (cL (iZ_toInt (by omega) (by omega)) (nI_toInt (by omega))).mp h34
          refine lv_lconst (v := 0) hx hb dX9_criticalChains_50 rfl ?_
          refine xr_last hx hb hK hP hD hS 3 3 rfl rfl (by omega) (Nat.le_of_ble_eq_true rfl) (vp_updL cs2 k (0)) (fun _ _ => rfl) dX9_criticalChains_51 (fun H locs hP hD hS => ?_)
          have hP : va_P D vwCl [(mo, .inr (9, [.ref na, .ref nb, .ref nc, .ref nd, .int (bI (ms)), .int (nI mk), .ref ne, .int (nI my), .int (nI 0), .int (nI mp), .ref nf, .ref ng, .ref nh, .ref ni, .ref nj, .ref nl])), (na, .inl (ca 0, 442, .inl (zF sn))), (nf, .inl (ca 0, 20, .inl (zF e110))), (nj, .inl (ca 3, 20, .inr (.inl (vp_updL cs2 k (0))))), (nl, .inl (ca 3, 20, .inr (.inl cl)))] H := hP
          have hD : va_D A [(mo, .inr (9, [.ref na, .ref nb, .ref nc, .ref nd, .int (bI (ms)), .int (nI mk), .ref ne, .int (nI my), .int (nI 0), .int (nI mp), .ref nf, .ref ng, .ref nh, .ref ni, .ref nj, .ref nl])), (na, .inl (ca 0, 442, .inl (zF sn))), (nf, .inl (ca 0, 20, .inl (zF e110))), (nj, .inl (ca 3, 20, .inr (.inl (vp_updL cs2 k (0))))), (nl, .inl (ca 3, 20, .inr (.inl cl)))] := hD
          refine lv_iinc (v := nI (k + 1)) (lv' := [(2, .int (nI (k + 1))), (1, .int (iZ (span G T L))), (0, .ref mo)]) hx hb dX9_criticalChains_52 hl (k := 0) rfl (nI_add _ 1) (by decide) rfl (fun ls hl => ?_)
          refine lv_goto (tgt := 16) hx hb dX9_criticalChains_55 (by decide) ?_
          exact ih16 (k + 1) (vp_updL cs2 k (0)) (by omega) (fun j hj hjT => by have c9 : j ≠ k := (by omega); have e9 : vp_updL cs2 k 0 j = cs2 j := pk_uLn c9; rw [e9]; exact hcs j (by omega) hjT) (by omega) _ _ hP hD hS _ (lv_sub hl [0, 1, 2] rfl)
        · skip
          have h34 := (not_congr (cL (iZ_toInt (by omega) (by omega)) (nI_toInt (by omega)))).mp h34
          refine lv_aload_n hx hb dX9_criticalChains_37 rfl (lv_at hl 2 rfl) ?_
          refine lv_iload_n hx hb dX9_criticalChains_38 rfl (lv_at hl 0 rfl) ?_
          refine lv_iconst (v := bI true) hx hb dX9_criticalChains_39 (by decide) ?_
          refine xk_pi (xk_V (As := [.int (nI k), .int (bI (true))]) (rest := [.int (nI k), .ref nj]) ⟨hx, hb, hml, hown, hts⟩ (mX9_isEnd l D ca H.size mo na nb nc nd ne nf ng nh ni nj nl ms mk my 0 mp sn T C L N G k true (by omega) hG hM (by omega)) (cwV 2 hts gX9_criticalChains_X9_isEnd rfl rfl rfl (by decide +kernel) ⟨Nat.le_of_ble_eq_true rfl, Nat.le_of_ble_eq_true rfl⟩) hK hP hD (va_recv (q := (RX9, TX9, 16)) hK hP (ci := 9) (q0 := 0) rfl rfl) [0, 1] rfl rfl rfl hl.1 rfl (Nat.le_of_ble_eq_true rfl) dX9_criticalChains_40 ⟨Nat.le_of_ble_eq_true rfl, Nat.le_of_ble_eq_true rfl⟩) hP hD hS hA [0, 1] rfl ⟨rfl, rfl⟩ (fun r40 H locs hw40 hP hS => ?_)
          have hw40 : r40 = bI (decide (cntB (eG true G) k T = 0)) := hw40
          subst hw40
          refine lv_if_eq (tgt := 50) hx hb dX9_criticalChains_43 (by decide) (fun h43 => ?_) (fun h43 => ?_)
          · skip
            have h43 := bI_0.mp h43
            refine lv_lconst (v := 0) hx hb dX9_criticalChains_50 rfl ?_
            refine xr_last hx hb hK hP hD hS 3 3 rfl rfl (by omega) (Nat.le_of_ble_eq_true rfl) (vp_updL cs2 k (0)) (fun _ _ => rfl) dX9_criticalChains_51 (fun H locs hP hD hS => ?_)
            have hP : va_P D vwCl [(mo, .inr (9, [.ref na, .ref nb, .ref nc, .ref nd, .int (bI (ms)), .int (nI mk), .ref ne, .int (nI my), .int (nI 0), .int (nI mp), .ref nf, .ref ng, .ref nh, .ref ni, .ref nj, .ref nl])), (na, .inl (ca 0, 442, .inl (zF sn))), (nf, .inl (ca 0, 20, .inl (zF e110))), (nj, .inl (ca 3, 20, .inr (.inl (vp_updL cs2 k (0))))), (nl, .inl (ca 3, 20, .inr (.inl cl)))] H := hP
            have hD : va_D A [(mo, .inr (9, [.ref na, .ref nb, .ref nc, .ref nd, .int (bI (ms)), .int (nI mk), .ref ne, .int (nI my), .int (nI 0), .int (nI mp), .ref nf, .ref ng, .ref nh, .ref ni, .ref nj, .ref nl])), (na, .inl (ca 0, 442, .inl (zF sn))), (nf, .inl (ca 0, 20, .inl (zF e110))), (nj, .inl (ca 3, 20, .inr (.inl (vp_updL cs2 k (0))))), (nl, .inl (ca 3, 20, .inr (.inl cl)))] := hD
            refine lv_iinc (v := nI (k + 1)) (lv' := [(2, .int (nI (k + 1))), (1, .int (iZ (span G T L))), (0, .ref mo)]) hx hb dX9_criticalChains_52 hl (k := 0) rfl (nI_add _ 1) (by decide) rfl (fun ls hl => ?_)
            refine lv_goto (tgt := 16) hx hb dX9_criticalChains_55 (by decide) ?_
            exact ih16 (k + 1) (vp_updL cs2 k (0)) (by omega) (fun j hj hjT => if c9 : j = k then (by rw [c9]; exact (pk_uLs (f := cs2)).trans (src_f h43)) else (by have e9 : vp_updL cs2 k 0 j = cs2 j := pk_uLn c9; rw [e9]; exact hcs j (by omega) hjT)) (by omega) _ _ hP hD hS _ (lv_sub hl [0, 1, 2] rfl)
          · skip
            have h43 := bI_n0.mp h43
            refine lv_lconst (v := 1) hx hb dX9_criticalChains_46 rfl ?_
            refine lv_goto (tgt := 51) hx hb dX9_criticalChains_47 (by decide) ?_
            refine xr_last hx hb hK hP hD hS 3 3 rfl rfl (by omega) (Nat.le_of_ble_eq_true rfl) (vp_updL cs2 k (1)) (fun _ _ => rfl) dX9_criticalChains_51 (fun H locs hP hD hS => ?_)
            have hP : va_P D vwCl [(mo, .inr (9, [.ref na, .ref nb, .ref nc, .ref nd, .int (bI (ms)), .int (nI mk), .ref ne, .int (nI my), .int (nI 0), .int (nI mp), .ref nf, .ref ng, .ref nh, .ref ni, .ref nj, .ref nl])), (na, .inl (ca 0, 442, .inl (zF sn))), (nf, .inl (ca 0, 20, .inl (zF e110))), (nj, .inl (ca 3, 20, .inr (.inl (vp_updL cs2 k (1))))), (nl, .inl (ca 3, 20, .inr (.inl cl)))] H := hP
            have hD : va_D A [(mo, .inr (9, [.ref na, .ref nb, .ref nc, .ref nd, .int (bI (ms)), .int (nI mk), .ref ne, .int (nI my), .int (nI 0), .int (nI mp), .ref nf, .ref ng, .ref nh, .ref ni, .ref nj, .ref nl])), (na, .inl (ca 0, 442, .inl (zF sn))), (nf, .inl (ca 0, 20, .inl (zF e110))), (nj, .inl (ca 3, 20, .inr (.inl (vp_updL cs2 k (1))))), (nl, .inl (ca 3, 20, .inr (.inl cl)))] := hD
            refine lv_iinc (v := nI (k + 1)) (lv' := [(2, .int (nI (k + 1))), (1, .int (iZ (span G T L))), (0, .ref mo)]) hx hb dX9_criticalChains_52 hl (k := 0) rfl (nI_add _ 1) (by decide) rfl (fun ls hl => ?_)
            refine lv_goto (tgt := 16) hx hb dX9_criticalChains_55 (by decide) ?_
            exact ih16 (k + 1) (vp_updL cs2 k (1)) (by omega) (fun j hj hjT => if c9 : j = k then (by rw [c9]; exact (pk_uLs (f := cs2)).trans (src_t h43)) else (by have e9 : vp_updL cs2 k 1 j = cs2 j := pk_uLn c9; rw [e9]; exact hcs j (by omega) hjT)) (by omega) _ _ hP hD hS _ (lv_sub hl [0, 1, 2] rfl)
  exact L16 _ 0 cs (by omega) (fun j h => absurd h (Nat.not_lt_zero j)) (Nat.lt_succ_self _) _ _ hP hD hS _ (lv_sub hl [0, 1, 2] rfl)
def rX9_delays : Room := { frames := 1, cells := 0, slots := 0, locals := 25 }
set_option maxHeartbeats 4000000 in
set_option maxRecDepth 100000 in
theorem mX9_delays (l : Launch) (D : va_G) (ca : Nat → ClassId) (sz : Nat) (mo : Nat) (na : Nat) (nb : Nat) (nc : Nat) (nd : Nat) (ne : Nat) (nf : Nat) (ng : Nat) (nh : Nat) (ni : Nat) (nj : Nat) (nl : Nat) (ms : Bool) (mk : Nat) (my : Nat) (mt : Nat) (mp : Nat) (sn : Nat → Int) (sv : Nat → Int) (e : Nat → Int) (mv : Nat → Int) (T : Nat) (En : Int) (C : Int) (L : Nat → Int) (N : Nat → Int) (G : Nat → Nat → Int) (t : Nat) (x : Int) (hV : PSV T En C L N G) (hM : MS sn T C L N G) (ht : t < T) (hx9 : 0 ≤ x ∧ x ≤ 99) : MM l yX9_delays wsX9_delays rX9_delays D ca [.ref mo, .int (nI t), .int (iZ x)] sz [(mo, .inr (9, [.ref na, .ref nb, .ref nc, .ref nd, .int (bI (ms)), .int (nI mk), .ref ne, .int (nI my), .int (nI mt), .int (nI mp), .ref nf, .ref ng, .ref nh, .ref ni, .ref nj, .ref nl])), (na, .inl (ca 0, 442, .inl (zF sn))), (nb, .inl (ca 0, 442, .inl (zF sv))), (nf, .inl (ca 0, 20, .inl (zF e))), (ni, .inl (ca 0, 20, .inl (zF mv)))] (QI D ca (fun (r : Int32) (u : (Nat → Int) × (Nat → Int) × (Nat → Int)) => r = iZ (span G T (upZ L t (L t + x)) - span G T L) ∧ (∀ j, j < T → u.2.1 j = es G T (upZ L t (L t + x)) j) ∧ ∀ j, j < T → u.2.2 j = es G T L j) (fun u => [(mo, .inr (9, [.ref na, .ref nb, .ref nc, .ref nd, .int (bI (ms)), .int (nI mk), .ref ne, .int (nI my), .int (nI mt), .int (nI mp), .ref nf, .ref ng, .ref nh, .ref ni, .ref nj, .ref nl])), (na, .inl (ca 0, 442, .inl (zF sn))), (nb, .inl (ca 0, 442, .inl (zF u.1))), (nf, .inl (ca 0, 20, .inl (zF u.2.1))), (ni, .inl (ca 0, 20, .inl (zF u.2.2)))])) := by
  refine MM_of (cc := cX9_delays) (maxL := 5) (ret := (some .int)) (lv0 := [(0, .ref mo), (1, .int (nI t)), (2, .int (iZ x))]) RX9 (by decide) rfl rfl (Nat.le_of_ble_eq_true rfl) rfl ?_
  intro pG eV s mI args below meth cO hx hb hr hml hts hown hlocks hnm A hA H locs hsz hP hK hD hS Q hE ls hl
  have f7 := hts (.fieldLink RX9 7 "SlackPlanModel" "now" "[I") (List.mem_of_getElem? (i := 1) rfl)
  have inX9 : ∀ w ∈ u_ws RX9 TX9 16, w ∈ wsX9_delays := in_r _ [13, 14, 15, 16, 17, 18, 19, 20, 21, 22, 23, 24, 25, 26, 27, 28] rfl
  have f13 := hts (.fieldLink RX9 13 "SlackPlanModel" "then" "[I") (List.mem_of_getElem? (i := 4) rfl)
  have f34 := hts (.fieldLink RX9 34 "SlackPlanModel" "moved" "[I") (List.mem_of_getElem? (i := 2) rfl)
  have f25 := hts (.fieldLink RX9 25 "SlackPlanModel" "early" "[I") (List.mem_of_getElem? (i := 3) rfl)
  obtain ⟨hT, hC9, hL30, hNk, hG, hac, hGo, hEn, hE40⟩ := hV
  have hLk := L30_LOK hL30
  have hs0 := hM.1
  have hs1 := hM.2.1
  refine lv_aload_n hx hb dX9_delays_0 rfl (lv_at hl 0 rfl) ?_
  refine lv_aload_n hx hb dX9_delays_1 rfl (lv_at hl 0 rfl) ?_
  refine va_get (D := D) (ci := 9) (v := .ref na) (C := RX9) (T := TX9) (N := 16) hx hb hts inX9 hown hK hP 0 rfl rfl 0 (by decide) f7 (fun _ h9 => h9) rfl dX9_delays_2 ?_
  refine xk_i [(nb, .inl (ca 0, 442, .inl (zF sv))), (ni, .inl (ca 0, 20, .inl (zF mv)))] (fun u => [(mo, .inr (9, [.ref na, .ref nb, .ref nc, .ref nd, .int (bI (ms)), .int (nI mk), .ref ne, .int (nI my), .int (nI mt), .int (nI mp), .ref nf, .ref ng, .ref nh, .ref ni, .ref nj, .ref nl])), (na, .inl (ca 0, 442, .inl (zF sn))), (nb, .inl (ca 0, 442, .inl (zF sv))), (nf, .inl (ca 0, 20, .inl (zF u))), (ni, .inl (ca 0, 20, .inl (zF mv)))]) (xk_V (As := [.ref na]) (rest := []) ⟨hx, hb, hml, hown, hts⟩ (mX9_starts l D ca H.size mo na nb nc nd ne nf ng nh ni nj nl ms mk my mt mp na sn e T C L N G (by omega) hG hac hGo hM hLk) (cwV 1 hts gX9_delays_X9_starts rfl rfl rfl (by decide +kernel) ⟨Nat.le_of_ble_eq_true rfl, Nat.le_of_ble_eq_true rfl⟩) hK hP hD (va_recv (q := (RX9, TX9, 16)) hK hP (ci := 9) (q0 := 0) rfl rfl) [0, 3, 1] rfl rfl rfl hl.1 rfl (Nat.le_of_ble_eq_true rfl) dX9_delays_5 ⟨Nat.le_of_ble_eq_true rfl, Nat.le_of_ble_eq_true rfl⟩) hP hD hS hA [0, 3, 1] [2, 4] [2, 4, 0, 3, 1] rfl rfl rfl rfl (fun _ => rfl) rfl (fun r5 u5 H locs hw5 hP hD hS => ?_)
  obtain ⟨e15, hu5⟩ : ∃ z, z = u5 := ⟨_, rfl⟩
  subst hu5
  have hw5 : r5 = iZ (span G T L) ∧ ∀ j, j < T → e15 j = es G T L j := hw5
  have hP : va_P D vwCl [(mo, .inr (9, [.ref na, .ref nb, .ref nc, .ref nd, .int (bI (ms)), .int (nI mk), .ref ne, .int (nI my), .int (nI mt), .int (nI mp), .ref nf, .ref ng, .ref nh, .ref ni, .ref nj, .ref nl])), (na, .inl (ca 0, 442, .inl (zF sn))), (nb, .inl (ca 0, 442, .inl (zF sv))), (nf, .inl (ca 0, 20, .inl (zF e15))), (ni, .inl (ca 0, 20, .inl (zF mv)))] H := hP
  have hD : va_D A [(mo, .inr (9, [.ref na, .ref nb, .ref nc, .ref nd, .int (bI (ms)), .int (nI mk), .ref ne, .int (nI my), .int (nI mt), .int (nI mp), .ref nf, .ref ng, .ref nh, .ref ni, .ref nj, .ref nl])), (na, .inl (ca 0, 442, .inl (zF sn))), (nb, .inl (ca 0, 442, .inl (zF sv))), (nf, .inl (ca 0, 20, .inl (zF e15))), (ni, .inl (ca 0, 20, .inl (zF mv)))] := hD
  obtain ⟨hwr5, hv5⟩ := hw5
  subst hwr5
  refine lv_istore_n (lv' := [(3, .int (iZ (span G T L))), (0, .ref mo), (1, .int (nI t)), (2, .int (iZ x))]) hx hb dX9_delays_8 rfl hl (by decide) rfl (fun ls hl => ?_)
  refine lv_iconst (v := nI (0)) hx hb dX9_delays_9 (by decide) ?_
  refine lv_istore (lv' := [(4, .int (nI 0)), (3, .int (iZ (span G T L))), (0, .ref mo), (1, .int (nI t)), (2, .int (iZ x))]) hx hb dX9_delays_10 hl (by decide) rfl (fun ls hl => ?_)
  have L12 : ∀ (fu : Nat) (k : Nat) (m2 : Nat → Int), (k ≤ 20) → (m2 = rwF mv e15 k) → (20 - k) < fu → ∀ (H : Heap) (locs : List Loc), va_P D vwCl [(mo, .inr (9, [.ref na, .ref nb, .ref nc, .ref nd, .int (bI (ms)), .int (nI mk), .ref ne, .int (nI my), .int (nI mt), .int (nI mp), .ref nf, .ref ng, .ref nh, .ref ni, .ref nj, .ref nl])), (na, .inl (ca 0, 442, .inl (zF sn))), (nb, .inl (ca 0, 442, .inl (zF sv))), (nf, .inl (ca 0, 20, .inl (zF e15))), (ni, .inl (ca 0, 20, .inl (zF m2)))] H → va_D A [(mo, .inr (9, [.ref na, .ref nb, .ref nc, .ref nd, .int (bI (ms)), .int (nI mk), .ref ne, .int (nI my), .int (nI mt), .int (nI mp), .ref nf, .ref ng, .ref nh, .ref ni, .ref nj, .ref nl])), (na, .inl (ca 0, 442, .inl (zF sn))), (nb, .inl (ca 0, 442, .inl (zF sv))), (nf, .inl (ca 0, 20, .inl (zF e15))), (ni, .inl (ca 0, 20, .inl (zF m2)))] → va_S A s.heap H locs → ∀ ls : Array Slot, lv_has ls 5 [(4, .int (nI k)), (3, .int (iZ (span G T L))), (0, .ref mo), (1, .int (nI t)), (2, .int (iZ x))] → W pG l eV rX9_delays s mI args below meth cO H locs 0 0 Q (F0 mI 12 ls []) := by
    clear hP hD hS hl
    intro fu; induction fu with
    | zero => intro k m2 hk hm hmu; exact absurd hmu (Nat.not_lt_zero _)
    | succ n12 ih12 =>
      intro k m2 hk hm hmu12 H locs hP hD hS ls hl
      refine lv_iload hx hb dX9_delays_12 (lv_at hl 0 rfl) ?_
      refine lv_bipush (v := nI (20)) hx hb dX9_delays_14 (by decide) ?_
      refine lv_icmp_ge (tgt := 39) hx hb dX9_delays_16 (by decide) (fun h16 => ?_) (fun h16 => ?_)
      · skip
        have h16 := (cL (nI_toInt (by omega)) (nI_toInt (by omega))).mp h16
        refine lv_aload_n hx hb dX9_delays_39 rfl (lv_at hl 2 rfl) ?_
        refine va_get (D := D) (ci := 9) (v := .ref na) (C := RX9) (T := TX9) (N := 16) hx hb hts inX9 hown hK hP 0 rfl rfl 0 (by decide) f7 (fun _ h9 => h9) rfl dX9_delays_40 ?_
        refine lv_iconst (v := nI (0)) hx hb dX9_delays_43 (by decide) ?_
        refine lv_aload_n hx hb dX9_delays_44 rfl (lv_at hl 2 rfl) ?_
        refine va_get (D := D) (ci := 9) (v := .ref nb) (C := RX9) (T := TX9) (N := 16) hx hb hts inX9 hown hK hP 0 rfl rfl 1 (by decide) f13 (fun _ h9 => h9) rfl dX9_delays_45 ?_
        refine lv_iconst (v := nI (0)) hx hb dX9_delays_48 (by decide) ?_
        refine xk_v [(mo, .inr (9, [.ref na, .ref nb, .ref nc, .ref nd, .int (bI (ms)), .int (nI mk), .ref ne, .int (nI my), .int (nI mt), .int (nI mp), .ref nf, .ref ng, .ref nh, .ref ni, .ref nj, .ref nl])), (nf, .inl (ca 0, 20, .inl (zF e15))), (ni, .inl (ca 0, 20, .inl (zF m2)))] (fun u => [(mo, .inr (9, [.ref na, .ref nb, .ref nc, .ref nd, .int (bI (ms)), .int (nI mk), .ref ne, .int (nI my), .int (nI mt), .int (nI mp), .ref nf, .ref ng, .ref nh, .ref ni, .ref nj, .ref nl])), (na, .inl (ca 0, 442, .inl (zF sn))), (nb, .inl (ca 0, 442, .inl (zF (cpF sn 0 sv 0 442)))), (nf, .inl (ca 0, 20, .inl (zF e15))), (ni, .inl (ca 0, 20, .inl (zF m2)))]) (xk_S (As := [.ref na, .int (nI 0), .ref nb, .int (nI 0)]) (rest := []) ⟨hx, hb, hml, hown, hts⟩ (mX9_copies l D ca H.size na nb 442 442 sn sv 0 0 (by omega) (by omega)) (va_cwS 4 hts gX9_delays_X9_copies rfl rfl rfl (by decide +kernel) ⟨Nat.le_of_ble_eq_true rfl, Nat.le_of_ble_eq_true rfl⟩) hK hP hD [1, 2] rfl rfl rfl hl.1 rfl (Nat.le_of_ble_eq_true rfl) dX9_delays_49 ⟨Nat.le_of_ble_eq_true rfl, Nat.le_of_ble_eq_true rfl⟩) hP hD hS hA [1, 2] [0, 3, 4] [0, 3, 4, 1, 2] rfl rfl rfl rfl (fun _ => rfl) rfl (fun u49 H locs hw49 hP hD hS => ?_)
        have hw49 : True := hw49
        have hP : va_P D vwCl [(mo, .inr (9, [.ref na, .ref nb, .ref nc, .ref nd, .int (bI (ms)), .int (nI mk), .ref ne, .int (nI my), .int (nI mt), .int (nI mp), .ref nf, .ref ng, .ref nh, .ref ni, .ref nj, .ref nl])), (na, .inl (ca 0, 442, .inl (zF sn))), (nb, .inl (ca 0, 442, .inl (zF (cpF sn 0 sv 0 442)))), (nf, .inl (ca 0, 20, .inl (zF e15))), (ni, .inl (ca 0, 20, .inl (zF m2)))] H := hP
        have hD : va_D A [(mo, .inr (9, [.ref na, .ref nb, .ref nc, .ref nd, .int (bI (ms)), .int (nI mk), .ref ne, .int (nI my), .int (nI mt), .int (nI mp), .ref nf, .ref ng, .ref nh, .ref ni, .ref nj, .ref nl])), (na, .inl (ca 0, 442, .inl (zF sn))), (nb, .inl (ca 0, 442, .inl (zF (cpF sn 0 sv 0 442)))), (nf, .inl (ca 0, 20, .inl (zF e15))), (ni, .inl (ca 0, 20, .inl (zF m2)))] := hD
        refine lv_aload_n hx hb dX9_delays_52 rfl (lv_at hl 2 rfl) ?_
        refine va_get (D := D) (ci := 9) (v := .ref nb) (C := RX9) (T := TX9) (N := 16) hx hb hts inX9 hown hK hP 0 rfl rfl 1 (by decide) f13 (fun _ h9 => h9) rfl dX9_delays_53 ?_
        refine lv_iconst (v := nI (2)) hx hb dX9_delays_56 (by decide) ?_
        refine lv_iload_n hx hb dX9_delays_57 rfl (lv_at hl 3 rfl) ?_
        refine xr_iadd hx hb dX9_delays_58 ?_
        refine lv_dup2_11 hx hb dX9_delays_59 rfl rfl ?_
        refine xr_iald hx hb hK hP 2 0 rfl rfl (by omega) (Nat.le_of_ble_eq_true rfl) (v := iZ ((cpF sn 0 sv 0 442) (2 + t))) rfl dX9_delays_60 ?_
        refine xr_top (y := iZ (L t)) (congrArg iZ ((cp_at0 _ (by omega)).trans (hM.2.2.1 t ht).1)) ?_
        refine lv_iload_n hx hb dX9_delays_61 rfl (lv_at hl 4 rfl) ?_
        refine xr_iadd_zz hx hb dX9_delays_62 ?_
        refine xr_iast hx hb hK hP hD hS 2 0 rfl rfl (by omega) (Nat.le_of_ble_eq_true rfl) (zF (upZ (cpF sn 0 sv 0 442) (2 + t) ((L t) + x))) (fun _ _ => zF_up _ _ _ _) dX9_delays_63 (fun H locs hP hD hS => ?_)
        have hP : va_P D vwCl [(mo, .inr (9, [.ref na, .ref nb, .ref nc, .ref nd, .int (bI (ms)), .int (nI mk), .ref ne, .int (nI my), .int (nI mt), .int (nI mp), .ref nf, .ref ng, .ref nh, .ref ni, .ref nj, .ref nl])), (na, .inl (ca 0, 442, .inl (zF sn))), (nb, .inl (ca 0, 442, .inl (zF (upZ (cpF sn 0 sv 0 442) (2 + t) ((L t) + x))))), (nf, .inl (ca 0, 20, .inl (zF e15))), (ni, .inl (ca 0, 20, .inl (zF m2)))] H := hP
        have hD : va_D A [(mo, .inr (9, [.ref na, .ref nb, .ref nc, .ref nd, .int (bI (ms)), .int (nI mk), .ref ne, .int (nI my), .int (nI mt), .int (nI mp), .ref nf, .ref ng, .ref nh, .ref ni, .ref nj, .ref nl])), (na, .inl (ca 0, 442, .inl (zF sn))), (nb, .inl (ca 0, 442, .inl (zF (upZ (cpF sn 0 sv 0 442) (2 + t) ((L t) + x))))), (nf, .inl (ca 0, 20, .inl (zF e15))), (ni, .inl (ca 0, 20, .inl (zF m2)))] := hD
        refine lv_aload_n hx hb dX9_delays_64 rfl (lv_at hl 2 rfl) ?_
        refine lv_aload_n hx hb dX9_delays_65 rfl (lv_at hl 2 rfl) ?_
        refine va_get (D := D) (ci := 9) (v := .ref nb) (C := RX9) (T := TX9) (N := 16) hx hb hts inX9 hown hK hP 0 rfl rfl 1 (by decide) f13 (fun _ h9 => h9) rfl dX9_delays_66 ?_
        refine xk_i [(na, .inl (ca 0, 442, .inl (zF sn))), (ni, .inl (ca 0, 20, .inl (zF m2)))] (fun u => [(mo, .inr (9, [.ref na, .ref nb, .ref nc, .ref nd, .int (bI (ms)), .int (nI mk), .ref ne, .int (nI my), .int (nI mt), .int (nI mp), .ref nf, .ref ng, .ref nh, .ref ni, .ref nj, .ref nl])), (na, .inl (ca 0, 442, .inl (zF sn))), (nb, .inl (ca 0, 442, .inl (zF (upZ (cpF sn 0 sv 0 442) (2 + t) ((L t) + x))))), (nf, .inl (ca 0, 20, .inl (zF u))), (ni, .inl (ca 0, 20, .inl (zF m2)))]) (xk_V (As := [.ref nb]) (rest := []) ⟨hx, hb, hml, hown, hts⟩ (mX9_starts l D ca H.size mo na nb nc nd ne nf ng nh ni nj nl ms mk my mt mp nb (upZ (cpF sn 0 sv 0 442) (2 + t) ((L t) + x)) e15 T C (upZ L t (L t + x)) N G (by omega) hG hac hGo (MS_up2 (MS_cp hM hT) hT ht) (LOK_up hL30 ht hx9)) (cwV 1 hts gX9_delays_X9_starts rfl rfl rfl (by decide +kernel) ⟨Nat.le_of_ble_eq_true rfl, Nat.le_of_ble_eq_true rfl⟩) hK hP hD (va_recv (q := (RX9, TX9, 16)) hK hP (ci := 9) (q0 := 0) rfl rfl) [0, 3, 2] rfl rfl rfl hl.1 rfl (Nat.le_of_ble_eq_true rfl) dX9_delays_69 ⟨Nat.le_of_ble_eq_true rfl, Nat.le_of_ble_eq_true rfl⟩) hP hD hS hA [0, 3, 2] [1, 4] [2, 0, 4, 3, 1] rfl rfl rfl rfl (fun _ => rfl) rfl (fun r69 u69 H locs hw69 hP hD hS => ?_)
        obtain ⟨e169, hu69⟩ : ∃ z, z = u69 := ⟨_, rfl⟩
        subst hu69
        have hw69 : r69 = iZ (span G T (upZ L t (L t + x))) ∧ ∀ j, j < T → e169 j = es G T (upZ L t (L t + x)) j := hw69
        have hP : va_P D vwCl [(mo, .inr (9, [.ref na, .ref nb, .ref nc, .ref nd, .int (bI (ms)), .int (nI mk), .ref ne, .int (nI my), .int (nI mt), .int (nI mp), .ref nf, .ref ng, .ref nh, .ref ni, .ref nj, .ref nl])), (na, .inl (ca 0, 442, .inl (zF sn))), (nb, .inl (ca 0, 442, .inl (zF (upZ (cpF sn 0 sv 0 442) (2 + t) ((L t) + x))))), (nf, .inl (ca 0, 20, .inl (zF e169))), (ni, .inl (ca 0, 20, .inl (zF m2)))] H := hP
        have hD : va_D A [(mo, .inr (9, [.ref na, .ref nb, .ref nc, .ref nd, .int (bI (ms)), .int (nI mk), .ref ne, .int (nI my), .int (nI mt), .int (nI mp), .ref nf, .ref ng, .ref nh, .ref ni, .ref nj, .ref nl])), (na, .inl (ca 0, 442, .inl (zF sn))), (nb, .inl (ca 0, 442, .inl (zF (upZ (cpF sn 0 sv 0 442) (2 + t) ((L t) + x))))), (nf, .inl (ca 0, 20, .inl (zF e169))), (ni, .inl (ca 0, 20, .inl (zF m2)))] := hD
        obtain ⟨hwr69, hv69⟩ := hw69
        subst hwr69
        refine lv_iload_n hx hb dX9_delays_72 rfl (lv_at hl 1 rfl) ?_
        refine xr_isub_zz hx hb dX9_delays_73 ?_
        rw [← hE]
        exact xe_i ((upZ (cpF sn 0 sv 0 442) (2 + t) ((L t) + x)), e169, m2) hx hb hr hlocks hK hP hD hS (⟨rfl, hv69, fun j hj => by show m2 j = es G T L j; rw [hm]; unfold rwF; rw [if_pos (by omega)]; exact hv5 j hj⟩) dX9_delays_74
      · skip
        have h16 := (not_congr (cL (nI_toInt (by omega)) (nI_toInt (by omega)))).mp h16
        refine lv_aload_n hx hb dX9_delays_19 rfl (lv_at hl 2 rfl) ?_
        refine va_get (D := D) (ci := 9) (v := .ref ni) (C := RX9) (T := TX9) (N := 16) hx hb hts inX9 hown hK hP 0 rfl rfl 13 (by decide) f34 (fun _ h9 => h9) rfl dX9_delays_20 ?_
        refine lv_iload hx hb dX9_delays_23 (lv_at hl 0 rfl) ?_
        refine lv_aload_n hx hb dX9_delays_25 rfl (lv_at hl 2 rfl) ?_
        refine va_get (D := D) (ci := 9) (v := .ref nf) (C := RX9) (T := TX9) (N := 16) hx hb hts inX9 hown hK hP 0 rfl rfl 10 (by decide) f25 (fun _ h9 => h9) rfl dX9_delays_26 ?_
        refine lv_iload hx hb dX9_delays_29 (lv_at hl 0 rfl) ?_
        refine xr_iald hx hb hK hP 3 0 rfl rfl (by omega) (Nat.le_of_ble_eq_true rfl) (v := iZ (e15 k)) rfl dX9_delays_31 ?_
        refine xr_iast hx hb hK hP hD hS 4 0 rfl rfl (by omega) (Nat.le_of_ble_eq_true rfl) (zF (upZ m2 k (e15 k))) (fun _ _ => zF_up _ _ _ _) dX9_delays_32 (fun H locs hP hD hS => ?_)
        have hP : va_P D vwCl [(mo, .inr (9, [.ref na, .ref nb, .ref nc, .ref nd, .int (bI (ms)), .int (nI mk), .ref ne, .int (nI my), .int (nI mt), .int (nI mp), .ref nf, .ref ng, .ref nh, .ref ni, .ref nj, .ref nl])), (na, .inl (ca 0, 442, .inl (zF sn))), (nb, .inl (ca 0, 442, .inl (zF sv))), (nf, .inl (ca 0, 20, .inl (zF e15))), (ni, .inl (ca 0, 20, .inl (zF (upZ m2 k (e15 k)))))] H := hP
        have hD : va_D A [(mo, .inr (9, [.ref na, .ref nb, .ref nc, .ref nd, .int (bI (ms)), .int (nI mk), .ref ne, .int (nI my), .int (nI mt), .int (nI mp), .ref nf, .ref ng, .ref nh, .ref ni, .ref nj, .ref nl])), (na, .inl (ca 0, 442, .inl (zF sn))), (nb, .inl (ca 0, 442, .inl (zF sv))), (nf, .inl (ca 0, 20, .inl (zF e15))), (ni, .inl (ca 0, 20, .inl (zF (upZ m2 k (e15 k)))))] := hD
        refine lv_iinc (v := nI (k + 1)) (lv' := [(4, .int (nI (k + 1))), (3, .int (iZ (span G T L))), (0, .ref mo), (1, .int (nI t)), (2, .int (iZ x))]) hx hb dX9_delays_33 hl (k := 0) rfl (nI_add _ 1) (by decide) rfl (fun ls hl => ?_)
        refine lv_goto (tgt := 12) hx hb dX9_delays_36 (by decide) ?_
        exact ih12 (k + 1) (upZ m2 k (e15 k)) (by omega) (by rw [hm]; exact rwF_s) (by omega) _ _ hP hD hS _ (lv_sub hl [0, 1, 2, 3, 4] rfl)
  exact L12 _ 0 mv (by omega) rwF_0 (Nat.lt_succ_self _) _ _ hP hD hS _ (lv_sub hl [0, 1, 2, 3, 4] rfl)
def rX9_delayed : Room := { frames := 2, cells := 0, slots := 0, locals := 49 }
set_option maxHeartbeats 4000000 in
set_option maxRecDepth 100000 in
theorem mX9_delayed (l : Launch) (D : va_G) (ca : Nat → ClassId) (sz : Nat) (mo : Nat) (na : Nat) (nb : Nat) (nc : Nat) (nd : Nat) (ne : Nat) (nf : Nat) (ng : Nat) (nh : Nat) (ni : Nat) (nj : Nat) (nl : Nat) (ms : Bool) (mk : Nat) (my : Nat) (mt : Nat) (mp : Nat) (sn : Nat → Int) (sv : Nat → Int) (e : Nat → Int) (mv : Nat → Int) (T : Nat) (En : Int) (C : Int) (L : Nat → Int) (N : Nat → Int) (G : Nat → Nat → Int) (t : Int32) (p : Int32) (hV : PSV T En C L N G) (hM : MS sn T C L N G) : MM l yX9_delayed wsX9_delayed rX9_delayed D ca [.ref mo, .int (t), .int (p)] sz [(mo, .inr (9, [.ref na, .ref nb, .ref nc, .ref nd, .int (bI (ms)), .int (nI mk), .ref ne, .int (nI my), .int (nI mt), .int (nI mp), .ref nf, .ref ng, .ref nh, .ref ni, .ref nj, .ref nl])), (na, .inl (ca 0, 442, .inl (zF sn))), (nb, .inl (ca 0, 442, .inl (zF sv))), (nf, .inl (ca 0, 20, .inl (zF e))), (ni, .inl (ca 0, 20, .inl (zF mv)))] (QI D ca (fun (r : Int32) (u : Nat × (Nat → Int) × (Nat → Int) × (Nat → Int)) => u.1 = kDly T t p ∧ (kDly T t p = 0 → r = iZ (span G T (upZ L (tI t) (L (tI t) + p.toInt)) - span G T L) ∧ (∀ j, j < T → u.2.2.1 j = es G T (upZ L (tI t) (L (tI t) + p.toInt)) j) ∧ ∀ j, j < T → u.2.2.2 j = es G T L j)) (fun u => [(mo, .inr (9, [.ref na, .ref nb, .ref nc, .ref nd, .int (bI (ms)), .int (nI mk), .ref ne, .int (nI my), .int (nI u.1), .int (nI mp), .ref nf, .ref ng, .ref nh, .ref ni, .ref nj, .ref nl])), (na, .inl (ca 0, 442, .inl (zF sn))), (nb, .inl (ca 0, 442, .inl (zF u.2.1))), (nf, .inl (ca 0, 20, .inl (zF u.2.2.1))), (ni, .inl (ca 0, 20, .inl (zF u.2.2.2)))])) := by
  refine MM_of (cc := cX9_delayed) (maxL := 3) (ret := (some .int)) (lv0 := [(0, .ref mo), (1, .int (t)), (2, .int (p))]) RX9 (by decide) rfl rfl (Nat.le_of_ble_eq_true rfl) rfl ?_
  intro pG eV s mI args below meth cO hx hb hr hml hts hown hlocks hnm A hA H locs hsz hP hK hD hS Q hE ls hl
  have hV9 := hV
  obtain ⟨hT, hC9, hL30, hNk, hG, hac, hGo, hEn, hE40⟩ := hV
  have hLk := L30_LOK hL30
  have hs0 := hM.1
  have hs1 := hM.2.1
  refine lv_aload_n hx hb dX9_delayed_0 rfl (lv_at hl 0 rfl) ?_
  refine lv_iload_n hx hb dX9_delayed_1 rfl (lv_at hl 1 rfl) ?_
  refine xk_i [(nb, .inl (ca 0, 442, .inl (zF sv))), (nf, .inl (ca 0, 20, .inl (zF e))), (ni, .inl (ca 0, 20, .inl (zF mv)))] (fun u => [(mo, .inr (9, [.ref na, .ref nb, .ref nc, .ref nd, .int (bI (ms)), .int (nI mk), .ref ne, .int (nI my), .int (nI u), .int (nI mp), .ref nf, .ref ng, .ref nh, .ref ni, .ref nj, .ref nl])), (na, .inl (ca 0, 442, .inl (zF sn))), (nb, .inl (ca 0, 442, .inl (zF sv))), (nf, .inl (ca 0, 20, .inl (zF e))), (ni, .inl (ca 0, 20, .inl (zF mv)))]) (xk_V (As := [.int (t)]) (rest := []) ⟨hx, hb, hml, hown, hts⟩ (mX9_isTask l D ca H.size mo na nb nc nd ne nf ng nh ni nj nl ms mk my mt mp sn T t (by omega) hs0) (cwV 1 hts gX9_delayed_X9_isTask rfl rfl rfl (by decide +kernel) ⟨Nat.le_of_ble_eq_true rfl, Nat.le_of_ble_eq_true rfl⟩) hK hP hD (va_recv (q := (RX9, TX9, 16)) hK hP (ci := 9) (q0 := 0) rfl rfl) [0, 1] rfl rfl rfl hl.1 rfl (Nat.le_of_ble_eq_true rfl) dX9_delayed_2 ⟨Nat.le_of_ble_eq_true rfl, Nat.le_of_ble_eq_true rfl⟩) hP hD hS hA [0, 1] [2, 3, 4] [3, 4, 0, 1, 2] rfl rfl rfl rfl (fun _ => rfl) rfl (fun r2 u2 H locs hw2 hP hD hS => ?_)
  obtain ⟨t12, hu2⟩ : ∃ z, z = u2 := ⟨_, rfl⟩
  subst hu2
  have hw2 : r2 = bI (hasB T t) ∧ t12 = kTa T t := hw2
  have hP : va_P D vwCl [(mo, .inr (9, [.ref na, .ref nb, .ref nc, .ref nd, .int (bI (ms)), .int (nI mk), .ref ne, .int (nI my), .int (nI t12), .int (nI mp), .ref nf, .ref ng, .ref nh, .ref ni, .ref nj, .ref nl])), (na, .inl (ca 0, 442, .inl (zF sn))), (nb, .inl (ca 0, 442, .inl (zF sv))), (nf, .inl (ca 0, 20, .inl (zF e))), (ni, .inl (ca 0, 20, .inl (zF mv)))] H := hP
  have hD : va_D A [(mo, .inr (9, [.ref na, .ref nb, .ref nc, .ref nd, .int (bI (ms)), .int (nI mk), .ref ne, .int (nI my), .int (nI t12), .int (nI mp), .ref nf, .ref ng, .ref nh, .ref ni, .ref nj, .ref nl])), (na, .inl (ca 0, 442, .inl (zF sn))), (nb, .inl (ca 0, 442, .inl (zF sv))), (nf, .inl (ca 0, 20, .inl (zF e))), (ni, .inl (ca 0, 20, .inl (zF mv)))] := hD
  obtain ⟨hwr2, hv2⟩ := hw2
  subst hwr2
  refine lv_if_ne (tgt := 10) hx hb dX9_delayed_5 (by decide) (fun h5 => ?_) (fun h5 => ?_)
  · skip
    have h5 := bI_n0.mp h5
    obtain ⟨ht1, he1⟩ := hasB_ex h5
    have e9 : (t) = nI (tI t) := he1
    have hl : lv_has ls 3 [(0, .ref mo), (1, .int (nI (tI t))), (2, .int (p))] := by rw [← e9]; exact hl
    refine lv_iload_n hx hb dX9_delayed_10 rfl (lv_at hl 2 rfl) ?_
    refine lv_iconst (v := nI (0)) hx hb dX9_delayed_11 (by decide) ?_
    refine lv_bipush (v := nI (99)) hx hb dX9_delayed_12 (by decide) ?_
    refine xk_pi (xk_S (As := [.int (p), .int (nI 0), .int (nI 99)]) (rest := []) ⟨hx, hb, hml, hown, hts⟩ (mX9_in l D ca H.size p (nI (0)) (nI (99)) ) (va_cwS 3 hts gX9_delayed_X9_in rfl rfl rfl (by decide +kernel) ⟨Nat.le_of_ble_eq_true rfl, Nat.le_of_ble_eq_true rfl⟩) hK hP hD [] rfl rfl rfl hl.1 rfl (Nat.le_of_ble_eq_true rfl) dX9_delayed_14 ⟨Nat.le_of_ble_eq_true rfl, Nat.le_of_ble_eq_true rfl⟩) hP hD hS hA [] rfl ⟨rfl, rfl⟩ (fun r14 H locs hw14 hP hS => ?_)
    have hw14 : r14 = bI (inB p (nI (0)) (nI (99))) := hw14
    subst hw14
    refine lv_if_eq (tgt := 29) hx hb dX9_delayed_17 (by decide) (fun h17 => ?_) (fun h17 => ?_)
    · skip
      have h17 := bI_0.mp h17
      have h17 := (in_rngf (a := 0) (b := 99) (by omega) (by omega)).mp h17
      refine lv_aload_n hx hb dX9_delayed_29 rfl (lv_at hl 0 rfl) ?_
      refine lv_iconst (v := nI (2)) hx hb dX9_delayed_30 (by decide) ?_
      refine xk_i [(na, .inl (ca 0, 442, .inl (zF sn))), (nb, .inl (ca 0, 442, .inl (zF sv))), (nf, .inl (ca 0, 20, .inl (zF e))), (ni, .inl (ca 0, 20, .inl (zF mv)))] (fun u => [(mo, .inr (9, [.ref na, .ref nb, .ref nc, .ref nd, .int (bI (ms)), .int (nI mk), .ref ne, .int (nI my), .int (nI 2), .int (nI mp), .ref nf, .ref ng, .ref nh, .ref ni, .ref nj, .ref nl])), (na, .inl (ca 0, 442, .inl (zF sn))), (nb, .inl (ca 0, 442, .inl (zF sv))), (nf, .inl (ca 0, 20, .inl (zF e))), (ni, .inl (ca 0, 20, .inl (zF mv)))]) (xk_V (As := [.int (nI 2)]) (rest := []) ⟨hx, hb, hml, hown, hts⟩ (mX9_fails l D ca H.size mo na nb nc nd ne nf ng nh ni nj nl ms mk my t12 mp 2 ) (cwV 1 hts gX9_delayed_X9_fails rfl rfl rfl (by decide +kernel) ⟨Nat.le_of_ble_eq_true rfl, Nat.le_of_ble_eq_true rfl⟩) hK hP hD (va_recv (q := (RX9, TX9, 16)) hK hP (ci := 9) (q0 := 0) rfl rfl) [0] rfl rfl rfl hl.1 rfl (Nat.le_of_ble_eq_true rfl) dX9_delayed_31 ⟨Nat.le_of_ble_eq_true rfl, Nat.le_of_ble_eq_true rfl⟩) hP hD hS hA [0] [1, 2, 3, 4] [4, 0, 1, 2, 3] rfl rfl rfl rfl (fun _ => rfl) rfl (fun r31 u31 H locs hw31 hP hD hS => ?_)
      have hw31 : r31 = nI 0 := hw31
      have hP : va_P D vwCl [(mo, .inr (9, [.ref na, .ref nb, .ref nc, .ref nd, .int (bI (ms)), .int (nI mk), .ref ne, .int (nI my), .int (nI 2), .int (nI mp), .ref nf, .ref ng, .ref nh, .ref ni, .ref nj, .ref nl])), (na, .inl (ca 0, 442, .inl (zF sn))), (nb, .inl (ca 0, 442, .inl (zF sv))), (nf, .inl (ca 0, 20, .inl (zF e))), (ni, .inl (ca 0, 20, .inl (zF mv)))] H := hP
      have hD : va_D A [(mo, .inr (9, [.ref na, .ref nb, .ref nc, .ref nd, .int (bI (ms)), .int (nI mk), .ref ne, .int (nI my), .int (nI 2), .int (nI mp), .ref nf, .ref ng, .ref nh, .ref ni, .ref nj, .ref nl])), (na, .inl (ca 0, 442, .inl (zF sn))), (nb, .inl (ca 0, 442, .inl (zF sv))), (nf, .inl (ca 0, 20, .inl (zF e))), (ni, .inl (ca 0, 20, .inl (zF mv)))] := hD
      have hwr31 := hw31
      subst hwr31
      rw [← hE]
      exact xe_i (2, sv, e, mv) hx hb hr hlocks hK hP hD hS (⟨(kDly_2 h5 (by omega)).symm, fun h9 => absurd (h9.symm.trans (kDly_2 h5 (by omega))) (by decide)⟩) dX9_delayed_34
    · skip
      have h17 := bI_n0.mp h17
      have h17 := (in_rng (a := 0) (b := 99) (by omega) (by omega)).mp h17
      refine lv_aload_n hx hb dX9_delayed_20 rfl (lv_at hl 0 rfl) ?_
      refine lv_iload_n hx hb dX9_delayed_21 rfl (lv_at hl 1 rfl) ?_
      have e9 : (p) = iZ (p.toInt) := (iZ_toI p)
      have hl : lv_has ls 3 [(0, .ref mo), (1, .int (nI (tI t))), (2, .int (iZ p.toInt))] := by rw [← e9]; exact hl
      refine lv_iload_n hx hb dX9_delayed_22 rfl (lv_at hl 2 rfl) ?_
      refine xk_i [] (fun u => [(mo, .inr (9, [.ref na, .ref nb, .ref nc, .ref nd, .int (bI (ms)), .int (nI mk), .ref ne, .int (nI my), .int (nI t12), .int (nI mp), .ref nf, .ref ng, .ref nh, .ref ni, .ref nj, .ref nl])), (na, .inl (ca 0, 442, .inl (zF sn))), (nb, .inl (ca 0, 442, .inl (zF u.1))), (nf, .inl (ca 0, 20, .inl (zF u.2.1))), (ni, .inl (ca 0, 20, .inl (zF u.2.2)))]) (xk_V (As := [.int (nI (tI t)), .int (iZ p.toInt)]) (rest := []) ⟨hx, hb, hml, hown, hts⟩ (mX9_delays l D ca H.size mo na nb nc nd ne nf ng nh ni nj nl ms mk my t12 mp sn sv e mv T En C L N G (tI t) p.toInt hV9 hM ht1 (by omega)) (cwV 2 hts gX9_delayed_X9_delays rfl rfl rfl (by decide +kernel) ⟨Nat.le_of_ble_eq_true rfl, Nat.le_of_ble_eq_true rfl⟩) hK hP hD (va_recv (q := (RX9, TX9, 16)) hK hP (ci := 9) (q0 := 0) rfl rfl) [0, 1, 2, 3, 4] rfl rfl rfl hl.1 rfl (Nat.le_of_ble_eq_true rfl) dX9_delayed_23 ⟨Nat.le_of_ble_eq_true rfl, Nat.le_of_ble_eq_true rfl⟩) hP hD hS hA [0, 1, 2, 3, 4] [] [0, 1, 2, 3, 4] rfl rfl rfl rfl (fun _ => rfl) rfl (fun r23 u23 H locs hw23 hP hD hS => ?_)
      obtain ⟨sv123, e123, mv123⟩ := u23
      have hw23 : r23 = iZ (span G T (upZ L (tI t) (L (tI t) + p.toInt)) - span G T L) ∧ (∀ j, j < T → e123 j = es G T (upZ L (tI t) (L (tI t) + p.toInt)) j) ∧ ∀ j, j < T → mv123 j = es G T L j := hw23
      have hP : va_P D vwCl [(mo, .inr (9, [.ref na, .ref nb, .ref nc, .ref nd, .int (bI (ms)), .int (nI mk), .ref ne, .int (nI my), .int (nI t12), .int (nI mp), .ref nf, .ref ng, .ref nh, .ref ni, .ref nj, .ref nl])), (na, .inl (ca 0, 442, .inl (zF sn))), (nb, .inl (ca 0, 442, .inl (zF sv123))), (nf, .inl (ca 0, 20, .inl (zF e123))), (ni, .inl (ca 0, 20, .inl (zF mv123)))] H := hP
      have hD : va_D A [(mo, .inr (9, [.ref na, .ref nb, .ref nc, .ref nd, .int (bI (ms)), .int (nI mk), .ref ne, .int (nI my), .int (nI t12), .int (nI mp), .ref nf, .ref ng, .ref nh, .ref ni, .ref nj, .ref nl])), (na, .inl (ca 0, 442, .inl (zF sn))), (nb, .inl (ca 0, 442, .inl (zF sv123))), (nf, .inl (ca 0, 20, .inl (zF e123))), (ni, .inl (ca 0, 20, .inl (zF mv123)))] := hD
      obtain ⟨hwr23, hv23⟩ := hw23
      subst hwr23
      refine lv_goto (tgt := 34) hx hb dX9_delayed_26 (by decide) ?_
      rw [← hE]
      exact xe_i (t12, sv123, e123, mv123) hx hb hr hlocks hK hP hD hS (⟨(hv2.trans (kTa_t h5)).trans (kDly_0 (p := p) h5 (by omega)).symm, fun _ => ⟨rfl, hv23⟩⟩) dX9_delayed_34
  · skip
    have h5 := bI_0.mp h5
    refine lv_iconst (v := nI (0)) hx hb dX9_delayed_8 (by decide) ?_
    rw [← hE]
    exact xe_i (t12, sv, e, mv) hx hb hr hlocks hK hP hD hS (⟨hv2.trans ((kTa_f h5).trans (kDly_1 (p := p) h5).symm), fun h9 => absurd (h9.symm.trans (kDly_1 h5)) (by decide)⟩) dX9_delayed_9
def rX9_delayOfPlan : Room := { frames := 3, cells := 0, slots := 0, locals := 71 }
set_option maxHeartbeats 4000000 in
set_option maxRecDepth 100000 in
theorem mX9_delayOfPlan (l : Launch) (D : va_G) (ca : Nat → ClassId) (sz : Nat) (mo : Nat) (na : Nat) (nb : Nat) (nc : Nat) (nd : Nat) (ne : Nat) (nf : Nat) (ng : Nat) (nh : Nat) (ni : Nat) (nj : Nat) (nl : Nat) (ms : Bool) (mk : Nat) (my : Nat) (mt : Nat) (mp : Nat) (sn : Nat → Int) (sv : Nat → Int) (e : Nat → Int) (mv : Nat → Int) (T : Nat) (En : Int) (C : Int) (L : Nat → Int) (N : Nat → Int) (G : Nat → Nat → Int) (t : Int32) (p : Int32) (hV : PSV T En C L N G) (hM : MS sn T C L N G) : MM l yX9_delayOfPlan wsX9_delayOfPlan rX9_delayOfPlan D ca [.ref mo, .int (t), .int (p)] sz [(mo, .inr (9, [.ref na, .ref nb, .ref nc, .ref nd, .int (bI (ms)), .int (nI mk), .ref ne, .int (nI my), .int (nI mt), .int (nI mp), .ref nf, .ref ng, .ref nh, .ref ni, .ref nj, .ref nl])), (na, .inl (ca 0, 442, .inl (zF sn))), (nb, .inl (ca 0, 442, .inl (zF sv))), (nf, .inl (ca 0, 20, .inl (zF e))), (ni, .inl (ca 0, 20, .inl (zF mv)))] (QI D ca (fun (r : Int32) (u : Nat × (Nat → Int) × (Nat → Int) × (Nat → Int)) => u.1 = kDly T t p ∧ (kDly T t p = 0 → r = iZ (span G T (upZ L (tI t) (L (tI t) + p.toInt)) - span G T L) ∧ (∀ j, j < T → u.2.2.1 j = es G T (upZ L (tI t) (L (tI t) + p.toInt)) j) ∧ ∀ j, j < T → u.2.2.2 j = es G T L j)) (fun u => [(mo, .inr (9, [.ref na, .ref nb, .ref nc, .ref nd, .int (bI (ms)), .int (nI mk), .ref ne, .int (nI my), .int (nI u.1), .int (nI mp), .ref nf, .ref ng, .ref nh, .ref ni, .ref nj, .ref nl])), (na, .inl (ca 0, 442, .inl (zF sn))), (nb, .inl (ca 0, 442, .inl (zF u.2.1))), (nf, .inl (ca 0, 20, .inl (zF u.2.2.1))), (ni, .inl (ca 0, 20, .inl (zF u.2.2.2)))])) := by
  refine MM_of (cc := cX9_delayOfPlan) (maxL := 3) (ret := (some .int)) (lv0 := [(0, .ref mo), (1, .int (t)), (2, .int (p))]) RX9 (by decide) rfl rfl (Nat.le_of_ble_eq_true rfl) rfl ?_
  intro pG eV s mI args below meth cO hx hb hr hml hts hown hlocks hnm A hA H locs hsz hP hK hD hS Q hE ls hl
  refine lv_aload_n hx hb dX9_delayOfPlan_0 rfl (lv_at hl 0 rfl) ?_
  refine lv_iload_n hx hb dX9_delayOfPlan_1 rfl (lv_at hl 1 rfl) ?_
  refine lv_iload_n hx hb dX9_delayOfPlan_2 rfl (lv_at hl 2 rfl) ?_
  refine xk_i [] (fun u => [(mo, .inr (9, [.ref na, .ref nb, .ref nc, .ref nd, .int (bI (ms)), .int (nI mk), .ref ne, .int (nI my), .int (nI u.1), .int (nI mp), .ref nf, .ref ng, .ref nh, .ref ni, .ref nj, .ref nl])), (na, .inl (ca 0, 442, .inl (zF sn))), (nb, .inl (ca 0, 442, .inl (zF u.2.1))), (nf, .inl (ca 0, 20, .inl (zF u.2.2.1))), (ni, .inl (ca 0, 20, .inl (zF u.2.2.2)))]) (xk_V (As := [.int (t), .int (p)]) (rest := []) ⟨hx, hb, hml, hown, hts⟩ (mX9_delayed l D ca H.size mo na nb nc nd ne nf ng nh ni nj nl ms mk my mt mp sn sv e mv T En C L N G t p hV hM) (cwV 2 hts gX9_delayOfPlan_X9_delayed rfl rfl rfl (by decide +kernel) ⟨Nat.le_of_ble_eq_true rfl, Nat.le_of_ble_eq_true rfl⟩) hK hP hD (va_recv (q := (RX9, TX9, 16)) hK hP (ci := 9) (q0 := 0) rfl rfl) [0, 1, 2, 3, 4] rfl rfl rfl hl.1 rfl (Nat.le_of_ble_eq_true rfl) dX9_delayOfPlan_3 ⟨Nat.le_of_ble_eq_true rfl, Nat.le_of_ble_eq_true rfl⟩) hP hD hS hA [0, 1, 2, 3, 4] [] [0, 1, 2, 3, 4] rfl rfl rfl rfl (fun _ => rfl) rfl (fun r3 u3 H locs hw3 hP hD hS => ?_)
  obtain ⟨t13, sv13, e13, mv13⟩ := u3
  have hw3 : t13 = kDly T t p ∧ (kDly T t p = 0 → r3 = iZ (span G T (upZ L (tI t) (L (tI t) + p.toInt)) - span G T L) ∧ (∀ j, j < T → e13 j = es G T (upZ L (tI t) (L (tI t) + p.toInt)) j) ∧ ∀ j, j < T → mv13 j = es G T L j) := hw3
  have hP : va_P D vwCl [(mo, .inr (9, [.ref na, .ref nb, .ref nc, .ref nd, .int (bI (ms)), .int (nI mk), .ref ne, .int (nI my), .int (nI t13), .int (nI mp), .ref nf, .ref ng, .ref nh, .ref ni, .ref nj, .ref nl])), (na, .inl (ca 0, 442, .inl (zF sn))), (nb, .inl (ca 0, 442, .inl (zF sv13))), (nf, .inl (ca 0, 20, .inl (zF e13))), (ni, .inl (ca 0, 20, .inl (zF mv13)))] H := hP
  have hD : va_D A [(mo, .inr (9, [.ref na, .ref nb, .ref nc, .ref nd, .int (bI (ms)), .int (nI mk), .ref ne, .int (nI my), .int (nI t13), .int (nI mp), .ref nf, .ref ng, .ref nh, .ref ni, .ref nj, .ref nl])), (na, .inl (ca 0, 442, .inl (zF sn))), (nb, .inl (ca 0, 442, .inl (zF sv13))), (nf, .inl (ca 0, 20, .inl (zF e13))), (ni, .inl (ca 0, 20, .inl (zF mv13)))] := hD
  rw [← hE]
  exact xe_i (t13, sv13, e13, mv13) hx hb hr hlocks hK hP hD hS hw3 dX9_delayOfPlan_6
def rX9_delayBySlack : Room := { frames := 3, cells := 0, slots := 0, locals := 71 }
set_option maxHeartbeats 4000000 in
set_option maxRecDepth 100000 in
theorem mX9_delayBySlack (l : Launch) (D : va_G) (ca : Nat → ClassId) (sz : Nat) (mo : Nat) (na : Nat) (nb : Nat) (nc : Nat) (nd : Nat) (ne : Nat) (nf : Nat) (ng : Nat) (nh : Nat) (ni : Nat) (nj : Nat) (nl : Nat) (ms : Bool) (mk : Nat) (my : Nat) (mt : Nat) (mp : Nat) (sn : Nat → Int) (sv : Nat → Int) (e : Nat → Int) (mv : Nat → Int) (T : Nat) (En : Int) (C : Int) (L : Nat → Int) (N : Nat → Int) (G : Nat → Nat → Int) (t : Int32) (p : Int32) (hV : PSV T En C L N G) (hM : MS sn T C L N G) : MM l yX9_delayBySlack wsX9_delayBySlack rX9_delayBySlack D ca [.ref mo, .int (t), .int (p)] sz [(mo, .inr (9, [.ref na, .ref nb, .ref nc, .ref nd, .int (bI (ms)), .int (nI mk), .ref ne, .int (nI my), .int (nI mt), .int (nI mp), .ref nf, .ref ng, .ref nh, .ref ni, .ref nj, .ref nl])), (na, .inl (ca 0, 442, .inl (zF sn))), (nb, .inl (ca 0, 442, .inl (zF sv))), (nf, .inl (ca 0, 20, .inl (zF e))), (ni, .inl (ca 0, 20, .inl (zF mv)))] (QI D ca (fun (r : Int32) (u : Nat × (Nat → Int) × (Nat → Int) × (Nat → Int)) => u.1 = kDly T t p ∧ (kDly T t p = 0 → r = iZ (span G T (upZ L (tI t) (L (tI t) + p.toInt)) - span G T L) ∧ (∀ j, j < T → u.2.2.1 j = es G T (upZ L (tI t) (L (tI t) + p.toInt)) j) ∧ ∀ j, j < T → u.2.2.2 j = es G T L j)) (fun u => [(mo, .inr (9, [.ref na, .ref nb, .ref nc, .ref nd, .int (bI (ms)), .int (nI mk), .ref ne, .int (nI my), .int (nI u.1), .int (nI mp), .ref nf, .ref ng, .ref nh, .ref ni, .ref nj, .ref nl])), (na, .inl (ca 0, 442, .inl (zF sn))), (nb, .inl (ca 0, 442, .inl (zF u.2.1))), (nf, .inl (ca 0, 20, .inl (zF u.2.2.1))), (ni, .inl (ca 0, 20, .inl (zF u.2.2.2)))])) := by
  refine MM_of (cc := cX9_delayBySlack) (maxL := 3) (ret := (some .int)) (lv0 := [(0, .ref mo), (1, .int (t)), (2, .int (p))]) RX9 (by decide) rfl rfl (Nat.le_of_ble_eq_true rfl) rfl ?_
  intro pG eV s mI args below meth cO hx hb hr hml hts hown hlocks hnm A hA H locs hsz hP hK hD hS Q hE ls hl
  refine lv_aload_n hx hb dX9_delayBySlack_0 rfl (lv_at hl 0 rfl) ?_
  refine lv_iload_n hx hb dX9_delayBySlack_1 rfl (lv_at hl 1 rfl) ?_
  refine lv_iload_n hx hb dX9_delayBySlack_2 rfl (lv_at hl 2 rfl) ?_
  refine xk_i [] (fun u => [(mo, .inr (9, [.ref na, .ref nb, .ref nc, .ref nd, .int (bI (ms)), .int (nI mk), .ref ne, .int (nI my), .int (nI u.1), .int (nI mp), .ref nf, .ref ng, .ref nh, .ref ni, .ref nj, .ref nl])), (na, .inl (ca 0, 442, .inl (zF sn))), (nb, .inl (ca 0, 442, .inl (zF u.2.1))), (nf, .inl (ca 0, 20, .inl (zF u.2.2.1))), (ni, .inl (ca 0, 20, .inl (zF u.2.2.2)))]) (xk_V (As := [.int (t), .int (p)]) (rest := []) ⟨hx, hb, hml, hown, hts⟩ (mX9_delayed l D ca H.size mo na nb nc nd ne nf ng nh ni nj nl ms mk my mt mp sn sv e mv T En C L N G t p hV hM) (cwV 2 hts gX9_delayBySlack_X9_delayed rfl rfl rfl (by decide +kernel) ⟨Nat.le_of_ble_eq_true rfl, Nat.le_of_ble_eq_true rfl⟩) hK hP hD (va_recv (q := (RX9, TX9, 16)) hK hP (ci := 9) (q0 := 0) rfl rfl) [0, 1, 2, 3, 4] rfl rfl rfl hl.1 rfl (Nat.le_of_ble_eq_true rfl) dX9_delayBySlack_3 ⟨Nat.le_of_ble_eq_true rfl, Nat.le_of_ble_eq_true rfl⟩) hP hD hS hA [0, 1, 2, 3, 4] [] [0, 1, 2, 3, 4] rfl rfl rfl rfl (fun _ => rfl) rfl (fun r3 u3 H locs hw3 hP hD hS => ?_)
  obtain ⟨t13, sv13, e13, mv13⟩ := u3
  have hw3 : t13 = kDly T t p ∧ (kDly T t p = 0 → r3 = iZ (span G T (upZ L (tI t) (L (tI t) + p.toInt)) - span G T L) ∧ (∀ j, j < T → e13 j = es G T (upZ L (tI t) (L (tI t) + p.toInt)) j) ∧ ∀ j, j < T → mv13 j = es G T L j) := hw3
  have hP : va_P D vwCl [(mo, .inr (9, [.ref na, .ref nb, .ref nc, .ref nd, .int (bI (ms)), .int (nI mk), .ref ne, .int (nI my), .int (nI t13), .int (nI mp), .ref nf, .ref ng, .ref nh, .ref ni, .ref nj, .ref nl])), (na, .inl (ca 0, 442, .inl (zF sn))), (nb, .inl (ca 0, 442, .inl (zF sv13))), (nf, .inl (ca 0, 20, .inl (zF e13))), (ni, .inl (ca 0, 20, .inl (zF mv13)))] H := hP
  have hD : va_D A [(mo, .inr (9, [.ref na, .ref nb, .ref nc, .ref nd, .int (bI (ms)), .int (nI mk), .ref ne, .int (nI my), .int (nI t13), .int (nI mp), .ref nf, .ref ng, .ref nh, .ref ni, .ref nj, .ref nl])), (na, .inl (ca 0, 442, .inl (zF sn))), (nb, .inl (ca 0, 442, .inl (zF sv13))), (nf, .inl (ca 0, 20, .inl (zF e13))), (ni, .inl (ca 0, 20, .inl (zF mv13)))] := hD
  rw [← hE]
  exact xe_i (t13, sv13, e13, mv13) hx hb hr hlocks hK hP hD hS hw3 dX9_delayBySlack_6
def rX9_tasksMoved : Room := { frames := 3, cells := 0, slots := 0, locals := 71 }
set_option maxHeartbeats 4000000 in
set_option maxRecDepth 100000 in
theorem mX9_tasksMoved (l : Launch) (D : va_G) (ca : Nat → ClassId) (sz : Nat) (mo : Nat) (na : Nat) (nb : Nat) (nc : Nat) (nd : Nat) (ne : Nat) (nf : Nat) (ng : Nat) (nh : Nat) (ni : Nat) (nj : Nat) (nl : Nat) (ms : Bool) (mk : Nat) (my : Nat) (mt : Nat) (mp : Nat) (sn : Nat → Int) (sv : Nat → Int) (e : Nat → Int) (mv : Nat → Int) (T : Nat) (En : Int) (C : Int) (L : Nat → Int) (N : Nat → Int) (G : Nat → Nat → Int) (t : Int32) (p : Int32) (hV : PSV T En C L N G) (hM : MS sn T C L N G) : MM l yX9_tasksMoved wsX9_tasksMoved rX9_tasksMoved D ca [.ref mo, .int (t), .int (p)] sz [(mo, .inr (9, [.ref na, .ref nb, .ref nc, .ref nd, .int (bI (ms)), .int (nI mk), .ref ne, .int (nI my), .int (nI mt), .int (nI mp), .ref nf, .ref ng, .ref nh, .ref ni, .ref nj, .ref nl])), (na, .inl (ca 0, 442, .inl (zF sn))), (nb, .inl (ca 0, 442, .inl (zF sv))), (nf, .inl (ca 0, 20, .inl (zF e))), (ni, .inl (ca 0, 20, .inl (zF mv)))] (QI D ca (fun (r : Int32) (u : Nat × (Nat → Int) × (Nat → Int) × (Nat → Int)) => u.1 = kDly T t p ∧ (kDly T t p = 0 → r = nI (mvdN (es G T L) (es G T (upZ L (tI t) (L (tI t) + p.toInt))) (tI t) T))) (fun u => [(mo, .inr (9, [.ref na, .ref nb, .ref nc, .ref nd, .int (bI (ms)), .int (nI mk), .ref ne, .int (nI my), .int (nI u.1), .int (nI mp), .ref nf, .ref ng, .ref nh, .ref ni, .ref nj, .ref nl])), (na, .inl (ca 0, 442, .inl (zF sn))), (nb, .inl (ca 0, 442, .inl (zF u.2.1))), (nf, .inl (ca 0, 20, .inl (zF u.2.2.1))), (ni, .inl (ca 0, 20, .inl (zF u.2.2.2)))])) := by
  refine MM_of (cc := cX9_tasksMoved) (maxL := 5) (ret := (some .int)) (lv0 := [(0, .ref mo), (1, .int (t)), (2, .int (p))]) RX9 (by decide) rfl rfl (Nat.le_of_ble_eq_true rfl) rfl ?_
  intro pG eV s mI args below meth cO hx hb hr hml hts hown hlocks hnm A hA H locs hsz hP hK hD hS Q hE ls hl
  have f7 := hts (.fieldLink RX9 7 "SlackPlanModel" "now" "[I") (List.mem_of_getElem? (i := 1) rfl)
  have inX9 : ∀ w ∈ u_ws RX9 TX9 16, w ∈ wsX9_tasksMoved := in_r _ [33, 34, 35, 36, 37, 38, 39, 40, 41, 42, 43, 44, 45, 46, 47, 48] rfl
  have f44 := hts (.fieldLink RX9 44 "SlackPlanModel" "thrown" "I") (List.mem_of_getElem? (i := 2) rfl)
  have f25 := hts (.fieldLink RX9 25 "SlackPlanModel" "early" "[I") (List.mem_of_getElem? (i := 3) rfl)
  have f34 := hts (.fieldLink RX9 34 "SlackPlanModel" "moved" "[I") (List.mem_of_getElem? (i := 4) rfl)
  have hV9 := hV
  obtain ⟨hT, hC9, hL30, hNk, hG, hac, hGo, hEn, hE40⟩ := hV
  have hLk := L30_LOK hL30
  have hs0 := hM.1
  have hs1 := hM.2.1
  refine lv_aload_n hx hb dX9_tasksMoved_0 rfl (lv_at hl 0 rfl) ?_
  refine lv_iload_n hx hb dX9_tasksMoved_1 rfl (lv_at hl 1 rfl) ?_
  refine lv_iload_n hx hb dX9_tasksMoved_2 rfl (lv_at hl 2 rfl) ?_
  refine xk_i [] (fun u => [(mo, .inr (9, [.ref na, .ref nb, .ref nc, .ref nd, .int (bI (ms)), .int (nI mk), .ref ne, .int (nI my), .int (nI u.1), .int (nI mp), .ref nf, .ref ng, .ref nh, .ref ni, .ref nj, .ref nl])), (na, .inl (ca 0, 442, .inl (zF sn))), (nb, .inl (ca 0, 442, .inl (zF u.2.1))), (nf, .inl (ca 0, 20, .inl (zF u.2.2.1))), (ni, .inl (ca 0, 20, .inl (zF u.2.2.2)))]) (xk_V (As := [.int (t), .int (p)]) (rest := []) ⟨hx, hb, hml, hown, hts⟩ (mX9_delayed l D ca H.size mo na nb nc nd ne nf ng nh ni nj nl ms mk my mt mp sn sv e mv T En C L N G t p hV9 hM) (cwV 2 hts gX9_tasksMoved_X9_delayed rfl rfl rfl (by decide +kernel) ⟨Nat.le_of_ble_eq_true rfl, Nat.le_of_ble_eq_true rfl⟩) hK hP hD (va_recv (q := (RX9, TX9, 16)) hK hP (ci := 9) (q0 := 0) rfl rfl) [0, 1, 2, 3, 4] rfl rfl rfl hl.1 rfl (Nat.le_of_ble_eq_true rfl) dX9_tasksMoved_3 ⟨Nat.le_of_ble_eq_true rfl, Nat.le_of_ble_eq_true rfl⟩) hP hD hS hA [0, 1, 2, 3, 4] [] [0, 1, 2, 3, 4] rfl rfl rfl rfl (fun _ => rfl) rfl (fun r3 u3 H locs hw3 hP hD hS => ?_)
  obtain ⟨t13, sv13, e13, mv13⟩ := u3
  have hw3 : t13 = kDly T t p ∧ (kDly T t p = 0 → r3 = iZ (span G T (upZ L (tI t) (L (tI t) + p.toInt)) - span G T L) ∧ (∀ j, j < T → e13 j = es G T (upZ L (tI t) (L (tI t) + p.toInt)) j) ∧ ∀ j, j < T → mv13 j = es G T L j) := hw3
  have hP : va_P D vwCl [(mo, .inr (9, [.ref na, .ref nb, .ref nc, .ref nd, .int (bI (ms)), .int (nI mk), .ref ne, .int (nI my), .int (nI t13), .int (nI mp), .ref nf, .ref ng, .ref nh, .ref ni, .ref nj, .ref nl])), (na, .inl (ca 0, 442, .inl (zF sn))), (nb, .inl (ca 0, 442, .inl (zF sv13))), (nf, .inl (ca 0, 20, .inl (zF e13))), (ni, .inl (ca 0, 20, .inl (zF mv13)))] H := hP
  have hD : va_D A [(mo, .inr (9, [.ref na, .ref nb, .ref nc, .ref nd, .int (bI (ms)), .int (nI mk), .ref ne, .int (nI my), .int (nI t13), .int (nI mp), .ref nf, .ref ng, .ref nh, .ref ni, .ref nj, .ref nl])), (na, .inl (ca 0, 442, .inl (zF sn))), (nb, .inl (ca 0, 442, .inl (zF sv13))), (nf, .inl (ca 0, 20, .inl (zF e13))), (ni, .inl (ca 0, 20, .inl (zF mv13)))] := hD
  refine lv_pop hx hb dX9_tasksMoved_6 rfl ?_
  refine lv_iconst (v := nI (0)) hx hb dX9_tasksMoved_7 (by decide) ?_
  refine lv_istore_n (lv' := [(3, .int (nI 0)), (0, .ref mo), (1, .int (t)), (2, .int (p))]) hx hb dX9_tasksMoved_8 rfl hl (by decide) rfl (fun ls hl => ?_)
  refine lv_iconst (v := nI (0)) hx hb dX9_tasksMoved_9 (by decide) ?_
  refine lv_istore (lv' := [(4, .int (nI 0)), (3, .int (nI 0)), (0, .ref mo), (1, .int (t)), (2, .int (p))]) hx hb dX9_tasksMoved_10 hl (by decide) rfl (fun ls hl => ?_)
  have L12 : ∀ (fu : Nat) (k : Nat) (n : Nat), (k ≤ T) → (n = mvdN (es G T L) (es G T (upZ L (tI t) (L (tI t) + p.toInt))) T k ∨ ¬ kDly T t p = 0) → (T - k) < fu → ∀ (H : Heap) (locs : List Loc), va_P D vwCl [(mo, .inr (9, [.ref na, .ref nb, .ref nc, .ref nd, .int (bI (ms)), .int (nI mk), .ref ne, .int (nI my), .int (nI t13), .int (nI mp), .ref nf, .ref ng, .ref nh, .ref ni, .ref nj, .ref nl])), (na, .inl (ca 0, 442, .inl (zF sn))), (nb, .inl (ca 0, 442, .inl (zF sv13))), (nf, .inl (ca 0, 20, .inl (zF e13))), (ni, .inl (ca 0, 20, .inl (zF mv13)))] H → va_D A [(mo, .inr (9, [.ref na, .ref nb, .ref nc, .ref nd, .int (bI (ms)), .int (nI mk), .ref ne, .int (nI my), .int (nI t13), .int (nI mp), .ref nf, .ref ng, .ref nh, .ref ni, .ref nj, .ref nl])), (na, .inl (ca 0, 442, .inl (zF sn))), (nb, .inl (ca 0, 442, .inl (zF sv13))), (nf, .inl (ca 0, 20, .inl (zF e13))), (ni, .inl (ca 0, 20, .inl (zF mv13)))] → va_S A s.heap H locs → ∀ ls : Array Slot, lv_has ls 5 [(4, .int (nI k)), (3, .int (nI n)), (0, .ref mo), (1, .int (t)), (2, .int (p))] → W pG l eV rX9_tasksMoved s mI args below meth cO H locs 0 0 Q (F0 mI 12 ls []) := by
    clear hP hD hS hl
    intro fu; induction fu with
    | zero => intro k n hk hn hmu; exact absurd hmu (Nat.not_lt_zero _)
    | succ n12 ih12 =>
      intro k n hk hn hmu12 H locs hP hD hS ls hl
      refine lv_iload hx hb dX9_tasksMoved_12 (lv_at hl 0 rfl) ?_
      refine lv_aload_n hx hb dX9_tasksMoved_14 rfl (lv_at hl 2 rfl) ?_
      refine va_get (D := D) (ci := 9) (v := .ref na) (C := RX9) (T := TX9) (N := 16) hx hb hts inX9 hown hK hP 0 rfl rfl 0 (by decide) f7 (fun _ h9 => h9) rfl dX9_tasksMoved_15 ?_
      refine lv_iconst (v := nI (0)) hx hb dX9_tasksMoved_18 (by decide) ?_
      refine xr_iald hx hb hK hP 1 0 rfl rfl (by omega) (Nat.le_of_ble_eq_true rfl) (v := iZ (sn 0)) rfl dX9_tasksMoved_19 ?_
      refine lv_icmp_ge (tgt := 61) hx hb dX9_tasksMoved_20 (by decide) (fun h20 => ?_) (fun h20 => ?_)
      · skip
        have h20 := (cL (iZ_toInt (by omega) (by omega)) (nI_toInt (by omega))).mp h20
        refine lv_iload_n hx hb dX9_tasksMoved_61 rfl (lv_at hl 1 rfl) ?_
        rw [← hE]
        exact xe_i (t13, sv13, e13, mv13) hx hb hr hlocks hK hP hD hS (⟨hw3.1, fun hz9 => by rcases hn with hn | hn; (rw [hn, show k = T by omega, mvd_own (es_own hac (hasB_ex (kDly_z hz9).1).1).symm T (Nat.le_refl T)]); exact absurd hz9 hn⟩) dX9_tasksMoved_62
      · skip
        have h20 := (not_congr (cL (iZ_toInt (by omega) (by omega)) (nI_toInt (by omega)))).mp h20
        refine lv_aload_n hx hb dX9_tasksMoved_23 rfl (lv_at hl 2 rfl) ?_
        refine va_get (D := D) (ci := 9) (v := .int (nI t13)) (C := RX9) (T := TX9) (N := 16) hx hb hts inX9 hown hK hP 0 rfl rfl 8 (by decide) f44 (fun _ h9 => h9) rfl dX9_tasksMoved_24 ?_
        have hk9 := kDly_le T t p
        refine lv_if_ne (tgt := 61) hx hb dX9_tasksMoved_27 (by decide) (fun h27 => ?_) (fun h27 => ?_)
        · skip
          have h27 := (not_congr (cE (nI_toInt (by omega)) z0_toInt)).mp h27
          refine lv_iload_n hx hb dX9_tasksMoved_61 rfl (lv_at hl 1 rfl) ?_
          rw [← hE]
          exact xe_i (t13, sv13, e13, mv13) hx hb hr hlocks hK hP hD hS (⟨hw3.1, fun hz9 => absurd hz9 (by omega)⟩) dX9_tasksMoved_62
        · skip
          have h27 := (cE (nI_toInt (by omega)) z0_toInt).mp h27
          have hz9 : kDly T t p = 0 := by omega
          obtain ⟨hd1, hd2, hd3⟩ := hw3.2 hz9
          have hh9 : hasB T t = true ∧ 0 ≤ p.toInt ∧ p.toInt ≤ 99 := kDly_z hz9
          obtain ⟨ht1, he1⟩ := hasB_ex hh9.1
          refine lv_iload_n hx hb dX9_tasksMoved_30 rfl (lv_at hl 1 rfl) ?_
          refine lv_aload_n hx hb dX9_tasksMoved_31 rfl (lv_at hl 2 rfl) ?_
          refine va_get (D := D) (ci := 9) (v := .ref nf) (C := RX9) (T := TX9) (N := 16) hx hb hts inX9 hown hK hP 0 rfl rfl 10 (by decide) f25 (fun _ h9 => h9) rfl dX9_tasksMoved_32 ?_
          refine lv_iload hx hb dX9_tasksMoved_35 (lv_at hl 0 rfl) ?_
          refine xr_iald hx hb hK hP 3 0 rfl rfl (by omega) (Nat.le_of_ble_eq_true rfl) (v := iZ (e13 k)) rfl dX9_tasksMoved_37 ?_
          refine lv_aload_n hx hb dX9_tasksMoved_38 rfl (lv_at hl 2 rfl) ?_
          refine va_get (D := D) (ci := 9) (v := .ref ni) (C := RX9) (T := TX9) (N := 16) hx hb hts inX9 hown hK hP 0 rfl rfl 13 (by decide) f34 (fun _ h9 => h9) rfl dX9_tasksMoved_39 ?_
          refine lv_iload hx hb dX9_tasksMoved_42 (lv_at hl 0 rfl) ?_
          refine xr_iald hx hb hK hP 4 0 rfl rfl (by omega) (Nat.le_of_ble_eq_true rfl) (v := iZ (mv13 k)) rfl dX9_tasksMoved_44 ?_
          have hb1 := hd2 k (by omega)
          have hb2 := hd3 k (by omega)
          have hb3 := es_le hT hG hLk (show k < T by omega)
          have hb4 := es_0 (G := G) (T := T) (L := L) k
          have hb5 := es_le hT hG (LOK_up hL30 ht1 hh9.2) (show k < T by omega)
          have hb6 := es_0 (G := G) (T := T) (L := (upZ L (tI t) (L (tI t) + p.toInt))) k
          refine lv_icmp_le (tgt := 52) hx hb dX9_tasksMoved_45 (by decide) (fun h45 => ?_) (fun h45 => ?_)
          · skip
            have h45 := (cL (iZ_toInt (by omega) (by omega)) (iZ_toInt (by omega) (by omega))).mp h45
            refine lv_iconst (v := nI (0)) hx hb dX9_tasksMoved_52 (by decide) ?_
            refine xr_iadd hx hb dX9_tasksMoved_53 ?_
            refine lv_istore_n (lv' := [(3, .int (nI (n + 0))), (4, .int (nI k)), (0, .ref mo), (1, .int (t)), (2, .int (p))]) hx hb dX9_tasksMoved_54 rfl hl (by decide) rfl (fun ls hl => ?_)
            refine lv_iinc (v := nI (k + 1)) (lv' := [(4, .int (nI (k + 1))), (3, .int (nI (n + 0))), (0, .ref mo), (1, .int (t)), (2, .int (p))]) hx hb dX9_tasksMoved_55 hl (k := 1) rfl (nI_add _ 1) (by decide) rfl (fun ls hl => ?_)
            refine lv_goto (tgt := 12) hx hb dX9_tasksMoved_58 (by decide) ?_
            exact ih12 (k + 1) (n + 0) (by omega) (Or.inl (by rcases hn with hn | hn; (rw [mvdN, if_neg (by omega), Nat.add_zero]; exact hn); exact absurd hz9 hn)) (by omega) _ _ hP hD hS _ (lv_sub hl [0, 1, 2, 3, 4] rfl)
          · skip
            have h45 := (not_congr (cL (iZ_toInt (by omega) (by omega)) (iZ_toInt (by omega) (by omega)))).mp h45
            refine lv_iconst (v := nI (1)) hx hb dX9_tasksMoved_48 (by decide) ?_
            refine lv_goto (tgt := 53) hx hb dX9_tasksMoved_49 (by decide) ?_
            refine xr_iadd hx hb dX9_tasksMoved_53 ?_
            refine lv_istore_n (lv' := [(3, .int (nI (n + 1))), (4, .int (nI k)), (0, .ref mo), (1, .int (t)), (2, .int (p))]) hx hb dX9_tasksMoved_54 rfl hl (by decide) rfl (fun ls hl => ?_)
            refine lv_iinc (v := nI (k + 1)) (lv' := [(4, .int (nI (k + 1))), (3, .int (nI (n + 1))), (0, .ref mo), (1, .int (t)), (2, .int (p))]) hx hb dX9_tasksMoved_55 hl (k := 1) rfl (nI_add _ 1) (by decide) rfl (fun ls hl => ?_)
            refine lv_goto (tgt := 12) hx hb dX9_tasksMoved_58 (by decide) ?_
            exact ih12 (k + 1) (n + 1) (by omega) (Or.inl (by rcases hn with hn | hn; (rw [hn, mvdN, if_pos ⟨by omega, by omega⟩]); exact absurd hz9 hn)) (by omega) _ _ hP hD hS _ (lv_sub hl [0, 1, 2, 3, 4] rfl)
  exact L12 _ 0 0 (by omega) (Or.inl rfl) (Nat.lt_succ_self _) _ _ hP hD hS _ (lv_sub hl [0, 1, 2, 3, 4] rfl)
def rX9_scheduledStart : Room := { frames := 3, cells := 0, slots := 0, locals := 74 }
set_option maxHeartbeats 4000000 in
set_option maxRecDepth 100000 in
theorem mX9_scheduledStart (l : Launch) (D : va_G) (ca : Nat → ClassId) (sz : Nat) (mo : Nat) (na : Nat) (nb : Nat) (nc : Nat) (nd : Nat) (ne : Nat) (nf : Nat) (ng : Nat) (nh : Nat) (ni : Nat) (nj : Nat) (nl : Nat) (ms : Bool) (mk : Nat) (my : Nat) (mt : Nat) (mp : Nat) (sn : Nat → Int) (T : Nat) (En : Int) (C : Int) (L : Nat → Int) (N : Nat → Int) (G : Nat → Nat → Int) (e : Nat → Int) (f : Nat → Int) (st : Nat → Int) (t : Int32) (hV : PSV T En C L N G) (hM : MS sn T C L N G) : MM l yX9_scheduledStart wsX9_scheduledStart rX9_scheduledStart D ca [.ref mo, .int (t)] sz [(mo, .inr (9, [.ref na, .ref nb, .ref nc, .ref nd, .int (bI (ms)), .int (nI mk), .ref ne, .int (nI my), .int (nI mt), .int (nI mp), .ref nf, .ref ng, .ref nh, .ref ni, .ref nj, .ref nl])), (na, .inl (ca 0, 442, .inl (zF sn))), (nf, .inl (ca 0, 20, .inl (zF e))), (ng, .inl (ca 0, 20, .inl (zF f))), (nh, .inl (ca 0, 20, .inl (zF st)))] (QI D ca (fun (r : Int32) (u : Nat × (Nat → Int) × (Nat → Int) × (Nat → Int)) => u.1 = kSt T N C t ∧ (kSt T N C t = 0 → r = iZ (SCH G T L N (lst G T L) C T (tI t)))) (fun u => [(mo, .inr (9, [.ref na, .ref nb, .ref nc, .ref nd, .int (bI (ms)), .int (nI mk), .ref ne, .int (nI my), .int (nI u.1), .int (nI mp), .ref nf, .ref ng, .ref nh, .ref ni, .ref nj, .ref nl])), (na, .inl (ca 0, 442, .inl (zF sn))), (nf, .inl (ca 0, 20, .inl (zF u.2.1))), (ng, .inl (ca 0, 20, .inl (zF u.2.2.1))), (nh, .inl (ca 0, 20, .inl (zF u.2.2.2)))])) := by
  refine MM_of (cc := cX9_scheduledStart) (maxL := 2) (ret := (some .int)) (lv0 := [(0, .ref mo), (1, .int (t))]) RX9 (by decide) rfl rfl (Nat.le_of_ble_eq_true rfl) rfl ?_
  intro pG eV s mI args below meth cO hx hb hr hml hts hown hlocks hnm A hA H locs hsz hP hK hD hS Q hE ls hl
  have f7 := hts (.fieldLink RX9 7 "SlackPlanModel" "now" "[I") (List.mem_of_getElem? (i := 1) rfl)
  have inX9 : ∀ w ∈ u_ws RX9 TX9 16, w ∈ wsX9_scheduledStart := in_r _ [45, 46, 47, 48, 49, 50, 51, 52, 53, 54, 55, 56, 57, 58, 59, 60] rfl
  have f31 := hts (.fieldLink RX9 31 "SlackPlanModel" "start" "[I") (List.mem_of_getElem? (i := 2) rfl)
  obtain ⟨hT, hC9, hL30, hNk, hG, hac, hGo, hEn, hE40⟩ := hV
  have hLk := L30_LOK hL30
  have hs0 := hM.1
  have hs1 := hM.2.1
  refine lv_aload_n hx hb dX9_scheduledStart_0 rfl (lv_at hl 0 rfl) ?_
  refine lv_iload_n hx hb dX9_scheduledStart_1 rfl (lv_at hl 1 rfl) ?_
  refine xk_i [(nf, .inl (ca 0, 20, .inl (zF e))), (ng, .inl (ca 0, 20, .inl (zF f))), (nh, .inl (ca 0, 20, .inl (zF st)))] (fun u => [(mo, .inr (9, [.ref na, .ref nb, .ref nc, .ref nd, .int (bI (ms)), .int (nI mk), .ref ne, .int (nI my), .int (nI u), .int (nI mp), .ref nf, .ref ng, .ref nh, .ref ni, .ref nj, .ref nl])), (na, .inl (ca 0, 442, .inl (zF sn))), (nf, .inl (ca 0, 20, .inl (zF e))), (ng, .inl (ca 0, 20, .inl (zF f))), (nh, .inl (ca 0, 20, .inl (zF st)))]) (xk_V (As := [.int (t)]) (rest := []) ⟨hx, hb, hml, hown, hts⟩ (mX9_isTask l D ca H.size mo na nb nc nd ne nf ng nh ni nj nl ms mk my mt mp sn T t (by omega) hs0) (cwV 1 hts gX9_scheduledStart_X9_isTask rfl rfl rfl (by decide +kernel) ⟨Nat.le_of_ble_eq_true rfl, Nat.le_of_ble_eq_true rfl⟩) hK hP hD (va_recv (q := (RX9, TX9, 16)) hK hP (ci := 9) (q0 := 0) rfl rfl) [0, 1] rfl rfl rfl hl.1 rfl (Nat.le_of_ble_eq_true rfl) dX9_scheduledStart_2 ⟨Nat.le_of_ble_eq_true rfl, Nat.le_of_ble_eq_true rfl⟩) hP hD hS hA [0, 1] [2, 3, 4] [3, 4, 0, 1, 2] rfl rfl rfl rfl (fun _ => rfl) rfl (fun r2 u2 H locs hw2 hP hD hS => ?_)
  obtain ⟨t12, hu2⟩ : ∃ z, z = u2 := ⟨_, rfl⟩
  subst hu2
  have hw2 : r2 = bI (hasB T t) ∧ t12 = kTa T t := hw2
  have hP : va_P D vwCl [(mo, .inr (9, [.ref na, .ref nb, .ref nc, .ref nd, .int (bI (ms)), .int (nI mk), .ref ne, .int (nI my), .int (nI t12), .int (nI mp), .ref nf, .ref ng, .ref nh, .ref ni, .ref nj, .ref nl])), (na, .inl (ca 0, 442, .inl (zF sn))), (nf, .inl (ca 0, 20, .inl (zF e))), (ng, .inl (ca 0, 20, .inl (zF f))), (nh, .inl (ca 0, 20, .inl (zF st)))] H := hP
  have hD : va_D A [(mo, .inr (9, [.ref na, .ref nb, .ref nc, .ref nd, .int (bI (ms)), .int (nI mk), .ref ne, .int (nI my), .int (nI t12), .int (nI mp), .ref nf, .ref ng, .ref nh, .ref ni, .ref nj, .ref nl])), (na, .inl (ca 0, 442, .inl (zF sn))), (nf, .inl (ca 0, 20, .inl (zF e))), (ng, .inl (ca 0, 20, .inl (zF f))), (nh, .inl (ca 0, 20, .inl (zF st)))] := hD
  obtain ⟨hwr2, hv2⟩ := hw2
  subst hwr2
  refine lv_if_ne (tgt := 10) hx hb dX9_scheduledStart_5 (by decide) (fun h5 => ?_) (fun h5 => ?_)
  · skip
    have h5 := bI_n0.mp h5
    obtain ⟨ht1, he1⟩ := hasB_ex h5
    have e9 : (t) = nI (tI t) := he1
    have hl : lv_has ls 2 [(0, .ref mo), (1, .int (nI (tI t)))] := by rw [← e9]; exact hl
    refine lv_aload_n hx hb dX9_scheduledStart_10 rfl (lv_at hl 0 rfl) ?_
    refine lv_aload_n hx hb dX9_scheduledStart_11 rfl (lv_at hl 0 rfl) ?_
    refine va_get (D := D) (ci := 9) (v := .ref na) (C := RX9) (T := TX9) (N := 16) hx hb hts inX9 hown hK hP 0 rfl rfl 0 (by decide) f7 (fun _ h9 => h9) rfl dX9_scheduledStart_12 ?_
    refine xk_i [] (fun u => [(mo, .inr (9, [.ref na, .ref nb, .ref nc, .ref nd, .int (bI (ms)), .int (nI mk), .ref ne, .int (nI my), .int (nI t12), .int (nI mp), .ref nf, .ref ng, .ref nh, .ref ni, .ref nj, .ref nl])), (na, .inl (ca 0, 442, .inl (zF sn))), (nf, .inl (ca 0, 20, .inl (zF u.1))), (ng, .inl (ca 0, 20, .inl (zF u.2.1))), (nh, .inl (ca 0, 20, .inl (zF u.2.2)))]) (xk_V (As := [.ref na]) (rest := []) ⟨hx, hb, hml, hown, hts⟩ (mX9_plans l D ca H.size mo na nb nc nd ne nf ng nh ni nj nl ms mk my t12 mp na sn e f st T C L N G (by omega) hG hac hGo hM hL30 hNk hC9) (cwV 1 hts gX9_scheduledStart_X9_plans rfl rfl rfl (by decide +kernel) ⟨Nat.le_of_ble_eq_true rfl, Nat.le_of_ble_eq_true rfl⟩) hK hP hD (va_recv (q := (RX9, TX9, 16)) hK hP (ci := 9) (q0 := 0) rfl rfl) [0, 2, 3, 4, 1] rfl rfl rfl hl.1 rfl (Nat.le_of_ble_eq_true rfl) dX9_scheduledStart_15 ⟨Nat.le_of_ble_eq_true rfl, Nat.le_of_ble_eq_true rfl⟩) hP hD hS hA [0, 2, 3, 4, 1] [] [0, 4, 1, 2, 3] rfl rfl rfl rfl (fun _ => rfl) rfl (fun r15 u15 H locs hw15 hP hD hS => ?_)
    obtain ⟨e115, f115, st115⟩ := u15
    have hw15 : r15 = iZ (plR G T L N C) ∧ (nOK N C T = true → ∀ t, t < T → st115 t = SCH G T L N (lst G T L) C T t ∧ -1 ≤ st115 t ∧ st115 t ≤ 1000) ∧ -1 ≤ plR G T L N C ∧ plR G T L N C ≤ 900 := hw15
    have hP : va_P D vwCl [(mo, .inr (9, [.ref na, .ref nb, .ref nc, .ref nd, .int (bI (ms)), .int (nI mk), .ref ne, .int (nI my), .int (nI t12), .int (nI mp), .ref nf, .ref ng, .ref nh, .ref ni, .ref nj, .ref nl])), (na, .inl (ca 0, 442, .inl (zF sn))), (nf, .inl (ca 0, 20, .inl (zF e115))), (ng, .inl (ca 0, 20, .inl (zF f115))), (nh, .inl (ca 0, 20, .inl (zF st115)))] H := hP
    have hD : va_D A [(mo, .inr (9, [.ref na, .ref nb, .ref nc, .ref nd, .int (bI (ms)), .int (nI mk), .ref ne, .int (nI my), .int (nI t12), .int (nI mp), .ref nf, .ref ng, .ref nh, .ref ni, .ref nj, .ref nl])), (na, .inl (ca 0, 442, .inl (zF sn))), (nf, .inl (ca 0, 20, .inl (zF e115))), (ng, .inl (ca 0, 20, .inl (zF f115))), (nh, .inl (ca 0, 20, .inl (zF st115)))] := hD
    obtain ⟨hwr15, hv15⟩ := hw15
    subst hwr15
    have hq9 := hv15.2
    refine lv_if_ge (tgt := 29) hx hb dX9_scheduledStart_18 (by decide) (fun h18 => ?_) (fun h18 => ?_)
    · skip
      have h18 := (cL z0_toInt (iZ_toInt (by omega) (by omega))).mp h18
      refine lv_aload_n hx hb dX9_scheduledStart_29 rfl (lv_at hl 0 rfl) ?_
      refine va_get (D := D) (ci := 9) (v := .ref nh) (C := RX9) (T := TX9) (N := 16) hx hb hts inX9 hown hK hP 0 rfl rfl 12 (by decide) f31 (fun _ h9 => h9) rfl dX9_scheduledStart_30 ?_
      refine lv_iload_n hx hb dX9_scheduledStart_33 rfl (lv_at hl 1 rfl) ?_
      refine xr_iald hx hb hK hP 4 0 rfl rfl (by omega) (Nat.le_of_ble_eq_true rfl) (v := iZ (st115 (tI t))) rfl dX9_scheduledStart_34 ?_
      have h9 := (plR_t (show 0 ≤ plR G T L N C by omega)).1
      rw [← hE]
      exact xe_i (t12, e115, f115, st115) hx hb hr hlocks hK hP hD hS (⟨hv2.trans ((kTa_t h5).trans (kSt_0 h5 h9).symm), fun _ => congrArg iZ (hv15.1 h9 _ ht1).1⟩) dX9_scheduledStart_35
    · skip
      have h18 := (not_congr (cL z0_toInt (iZ_toInt (by omega) (by omega)))).mp h18
      refine lv_aload_n hx hb dX9_scheduledStart_21 rfl (lv_at hl 0 rfl) ?_
      refine lv_iconst (v := nI (2)) hx hb dX9_scheduledStart_22 (by decide) ?_
      refine xk_i [(na, .inl (ca 0, 442, .inl (zF sn))), (nf, .inl (ca 0, 20, .inl (zF e115))), (ng, .inl (ca 0, 20, .inl (zF f115))), (nh, .inl (ca 0, 20, .inl (zF st115)))] (fun u => [(mo, .inr (9, [.ref na, .ref nb, .ref nc, .ref nd, .int (bI (ms)), .int (nI mk), .ref ne, .int (nI my), .int (nI 2), .int (nI mp), .ref nf, .ref ng, .ref nh, .ref ni, .ref nj, .ref nl])), (na, .inl (ca 0, 442, .inl (zF sn))), (nf, .inl (ca 0, 20, .inl (zF e115))), (ng, .inl (ca 0, 20, .inl (zF f115))), (nh, .inl (ca 0, 20, .inl (zF st115)))]) (xk_V (As := [.int (nI 2)]) (rest := []) ⟨hx, hb, hml, hown, hts⟩ (mX9_fails l D ca H.size mo na nb nc nd ne nf ng nh ni nj nl ms mk my t12 mp 2 ) (cwV 1 hts gX9_scheduledStart_X9_fails rfl rfl rfl (by decide +kernel) ⟨Nat.le_of_ble_eq_true rfl, Nat.le_of_ble_eq_true rfl⟩) hK hP hD (va_recv (q := (RX9, TX9, 16)) hK hP (ci := 9) (q0 := 0) rfl rfl) [0] rfl rfl rfl hl.1 rfl (Nat.le_of_ble_eq_true rfl) dX9_scheduledStart_23 ⟨Nat.le_of_ble_eq_true rfl, Nat.le_of_ble_eq_true rfl⟩) hP hD hS hA [0] [1, 2, 3, 4] [4, 0, 1, 2, 3] rfl rfl rfl rfl (fun _ => rfl) rfl (fun r23 u23 H locs hw23 hP hD hS => ?_)
      have hw23 : r23 = nI 0 := hw23
      have hP : va_P D vwCl [(mo, .inr (9, [.ref na, .ref nb, .ref nc, .ref nd, .int (bI (ms)), .int (nI mk), .ref ne, .int (nI my), .int (nI 2), .int (nI mp), .ref nf, .ref ng, .ref nh, .ref ni, .ref nj, .ref nl])), (na, .inl (ca 0, 442, .inl (zF sn))), (nf, .inl (ca 0, 20, .inl (zF e115))), (ng, .inl (ca 0, 20, .inl (zF f115))), (nh, .inl (ca 0, 20, .inl (zF st115)))] H := hP
      have hD : va_D A [(mo, .inr (9, [.ref na, .ref nb, .ref nc, .ref nd, .int (bI (ms)), .int (nI mk), .ref ne, .int (nI my), .int (nI 2), .int (nI mp), .ref nf, .ref ng, .ref nh, .ref ni, .ref nj, .ref nl])), (na, .inl (ca 0, 442, .inl (zF sn))), (nf, .inl (ca 0, 20, .inl (zF e115))), (ng, .inl (ca 0, 20, .inl (zF f115))), (nh, .inl (ca 0, 20, .inl (zF st115)))] := hD
      have hwr23 := hw23
      subst hwr23
      refine lv_goto (tgt := 35) hx hb dX9_scheduledStart_26 (by decide) ?_
      have hp9 := plR_f (show plR G T L N C < 0 by omega)
      rw [← hE]
      exact xe_i (2, e115, f115, st115) hx hb hr hlocks hK hP hD hS (⟨(kSt_2 h5 hp9).symm, fun h9 => absurd (h9.symm.trans (kSt_2 h5 hp9)) (by decide)⟩) dX9_scheduledStart_35
  · skip
    have h5 := bI_0.mp h5
    refine lv_iconst (v := nI (0)) hx hb dX9_scheduledStart_8 (by decide) ?_
    rw [← hE]
    exact xe_i (t12, e, f, st) hx hb hr hlocks hK hP hD hS (⟨hv2.trans ((kTa_f h5).trans (kSt_1 h5).symm), fun h9 => absurd (h9.symm.trans (kSt_1 h5)) (by decide)⟩) dX9_scheduledStart_9
def rX9_crewsOn : Room := { frames := 3, cells := 0, slots := 0, locals := 74 }
set_option maxHeartbeats 4000000 in
set_option maxRecDepth 100000 in
theorem mX9_crewsOn (l : Launch) (D : va_G) (ca : Nat → ClassId) (sz : Nat) (mo : Nat) (na : Nat) (nb : Nat) (nc : Nat) (nd : Nat) (ne : Nat) (nf : Nat) (ng : Nat) (nh : Nat) (ni : Nat) (nj : Nat) (nl : Nat) (ms : Bool) (mk : Nat) (my : Nat) (mt : Nat) (mp : Nat) (sn : Nat → Int) (T : Nat) (En : Int) (C : Int) (L : Nat → Int) (N : Nat → Int) (G : Nat → Nat → Int) (e : Nat → Int) (f : Nat → Int) (st : Nat → Int) (p : Int32) (hV : PSV T En C L N G) (hM : MS sn T C L N G) : MM l yX9_crewsOn wsX9_crewsOn rX9_crewsOn D ca [.ref mo, .int (p)] sz [(mo, .inr (9, [.ref na, .ref nb, .ref nc, .ref nd, .int (bI (ms)), .int (nI mk), .ref ne, .int (nI my), .int (nI mt), .int (nI mp), .ref nf, .ref ng, .ref nh, .ref ni, .ref nj, .ref nl])), (na, .inl (ca 0, 442, .inl (zF sn))), (nf, .inl (ca 0, 20, .inl (zF e))), (ng, .inl (ca 0, 20, .inl (zF f))), (nh, .inl (ca 0, 20, .inl (zF st)))] (QI D ca (fun (r : Int32) (u : Nat × (Nat → Int) × (Nat → Int) × (Nat → Int)) => u.1 = kOn T N C p ∧ (kOn T N C p = 0 → r = iZ (bsy L N (SCH G T L N (lst G T L) C T) p.toInt T))) (fun u => [(mo, .inr (9, [.ref na, .ref nb, .ref nc, .ref nd, .int (bI (ms)), .int (nI mk), .ref ne, .int (nI my), .int (nI u.1), .int (nI mp), .ref nf, .ref ng, .ref nh, .ref ni, .ref nj, .ref nl])), (na, .inl (ca 0, 442, .inl (zF sn))), (nf, .inl (ca 0, 20, .inl (zF u.2.1))), (ng, .inl (ca 0, 20, .inl (zF u.2.2.1))), (nh, .inl (ca 0, 20, .inl (zF u.2.2.2)))])) := by
  refine MM_of (cc := cX9_crewsOn) (maxL := 2) (ret := (some .int)) (lv0 := [(0, .ref mo), (1, .int (p))]) RX9 (by decide) rfl rfl (Nat.le_of_ble_eq_true rfl) rfl ?_
  intro pG eV s mI args below meth cO hx hb hr hml hts hown hlocks hnm A hA H locs hsz hP hK hD hS Q hE ls hl
  have f44 := hts (.fieldLink RX9 44 "SlackPlanModel" "thrown" "I") (List.mem_of_getElem? (i := 1) rfl)
  have inX9 : ∀ w ∈ u_ws RX9 TX9 16, w ∈ wsX9_crewsOn := in_r _ [41, 42, 43, 44, 45, 46, 47, 48, 49, 50, 51, 52, 53, 54, 55, 56] rfl
  have f7 := hts (.fieldLink RX9 7 "SlackPlanModel" "now" "[I") (List.mem_of_getElem? (i := 2) rfl)
  obtain ⟨hT, hC9, hL30, hNk, hG, hac, hGo, hEn, hE40⟩ := hV
  have hLk := L30_LOK hL30
  have hs0 := hM.1
  have hs1 := hM.2.1
  refine lv_aload_n hx hb dX9_crewsOn_0 rfl (lv_at hl 0 rfl) ?_
  refine lv_iconst (v := nI (0)) hx hb dX9_crewsOn_1 (by decide) ?_
  refine va_put (D := D) (ci := 9) (v := .int (nI 0)) (ty := .int) (C := RX9) (T := TX9) (N := 16) hx hb hts inX9 tyX9 tyX9_ok nmX9 hown hK hP hD hS 0 rfl rfl 8 (by decide) f44 (fun _ h9 => h9) rfl (by decide +kernel) rfl rfl (Nat.le_of_ble_eq_true rfl) dX9_crewsOn_2 (fun H locs hP hD hS => ?_)
  have hP : va_P D vwCl [(mo, .inr (9, [.ref na, .ref nb, .ref nc, .ref nd, .int (bI (ms)), .int (nI mk), .ref ne, .int (nI my), .int (nI 0), .int (nI mp), .ref nf, .ref ng, .ref nh, .ref ni, .ref nj, .ref nl])), (na, .inl (ca 0, 442, .inl (zF sn))), (nf, .inl (ca 0, 20, .inl (zF e))), (ng, .inl (ca 0, 20, .inl (zF f))), (nh, .inl (ca 0, 20, .inl (zF st)))] H := hP
  have hD : va_D A [(mo, .inr (9, [.ref na, .ref nb, .ref nc, .ref nd, .int (bI (ms)), .int (nI mk), .ref ne, .int (nI my), .int (nI 0), .int (nI mp), .ref nf, .ref ng, .ref nh, .ref ni, .ref nj, .ref nl])), (na, .inl (ca 0, 442, .inl (zF sn))), (nf, .inl (ca 0, 20, .inl (zF e))), (ng, .inl (ca 0, 20, .inl (zF f))), (nh, .inl (ca 0, 20, .inl (zF st)))] := hD
  refine lv_iload_n hx hb dX9_crewsOn_5 rfl (lv_at hl 1 rfl) ?_
  refine lv_iconst (v := nI (0)) hx hb dX9_crewsOn_6 (by decide) ?_
  refine lv_sipush (v := nI (999)) hx hb dX9_crewsOn_7 (by decide) ?_
  refine xk_pi (xk_S (As := [.int (p), .int (nI 0), .int (nI 999)]) (rest := []) ⟨hx, hb, hml, hown, hts⟩ (mX9_in l D ca H.size p (nI (0)) (nI (999)) ) (va_cwS 3 hts gX9_crewsOn_X9_in rfl rfl rfl (by decide +kernel) ⟨Nat.le_of_ble_eq_true rfl, Nat.le_of_ble_eq_true rfl⟩) hK hP hD [] rfl rfl rfl hl.1 rfl (Nat.le_of_ble_eq_true rfl) dX9_crewsOn_10 ⟨Nat.le_of_ble_eq_true rfl, Nat.le_of_ble_eq_true rfl⟩) hP hD hS hA [] rfl ⟨rfl, rfl⟩ (fun r10 H locs hw10 hP hS => ?_)
  have hw10 : r10 = bI (inB p (nI (0)) (nI (999))) := hw10
  subst hw10
  refine lv_if_ne (tgt := 22) hx hb dX9_crewsOn_13 (by decide) (fun h13 => ?_) (fun h13 => ?_)
  · skip
    have h13 := bI_n0.mp h13
    have h13 := (in_rng (a := 0) (b := 999) (by omega) (by omega)).mp h13
    refine lv_aload_n hx hb dX9_crewsOn_22 rfl (lv_at hl 0 rfl) ?_
    refine lv_aload_n hx hb dX9_crewsOn_23 rfl (lv_at hl 0 rfl) ?_
    refine va_get (D := D) (ci := 9) (v := .ref na) (C := RX9) (T := TX9) (N := 16) hx hb hts inX9 hown hK hP 0 rfl rfl 0 (by decide) f7 (fun _ h9 => h9) rfl dX9_crewsOn_24 ?_
    refine xk_i [] (fun u => [(mo, .inr (9, [.ref na, .ref nb, .ref nc, .ref nd, .int (bI (ms)), .int (nI mk), .ref ne, .int (nI my), .int (nI 0), .int (nI mp), .ref nf, .ref ng, .ref nh, .ref ni, .ref nj, .ref nl])), (na, .inl (ca 0, 442, .inl (zF sn))), (nf, .inl (ca 0, 20, .inl (zF u.1))), (ng, .inl (ca 0, 20, .inl (zF u.2.1))), (nh, .inl (ca 0, 20, .inl (zF u.2.2)))]) (xk_V (As := [.ref na]) (rest := []) ⟨hx, hb, hml, hown, hts⟩ (mX9_plans l D ca H.size mo na nb nc nd ne nf ng nh ni nj nl ms mk my 0 mp na sn e f st T C L N G (by omega) hG hac hGo hM hL30 hNk hC9) (cwV 1 hts gX9_crewsOn_X9_plans rfl rfl rfl (by decide +kernel) ⟨Nat.le_of_ble_eq_true rfl, Nat.le_of_ble_eq_true rfl⟩) hK hP hD (va_recv (q := (RX9, TX9, 16)) hK hP (ci := 9) (q0 := 0) rfl rfl) [0, 2, 3, 4, 1] rfl rfl rfl hl.1 rfl (Nat.le_of_ble_eq_true rfl) dX9_crewsOn_27 ⟨Nat.le_of_ble_eq_true rfl, Nat.le_of_ble_eq_true rfl⟩) hP hD hS hA [0, 2, 3, 4, 1] [] [0, 4, 1, 2, 3] rfl rfl rfl rfl (fun _ => rfl) rfl (fun r27 u27 H locs hw27 hP hD hS => ?_)
    obtain ⟨e127, f127, st127⟩ := u27
    have hw27 : r27 = iZ (plR G T L N C) ∧ (nOK N C T = true → ∀ t, t < T → st127 t = SCH G T L N (lst G T L) C T t ∧ -1 ≤ st127 t ∧ st127 t ≤ 1000) ∧ -1 ≤ plR G T L N C ∧ plR G T L N C ≤ 900 := hw27
    have hP : va_P D vwCl [(mo, .inr (9, [.ref na, .ref nb, .ref nc, .ref nd, .int (bI (ms)), .int (nI mk), .ref ne, .int (nI my), .int (nI 0), .int (nI mp), .ref nf, .ref ng, .ref nh, .ref ni, .ref nj, .ref nl])), (na, .inl (ca 0, 442, .inl (zF sn))), (nf, .inl (ca 0, 20, .inl (zF e127))), (ng, .inl (ca 0, 20, .inl (zF f127))), (nh, .inl (ca 0, 20, .inl (zF st127)))] H := hP
    have hD : va_D A [(mo, .inr (9, [.ref na, .ref nb, .ref nc, .ref nd, .int (bI (ms)), .int (nI mk), .ref ne, .int (nI my), .int (nI 0), .int (nI mp), .ref nf, .ref ng, .ref nh, .ref ni, .ref nj, .ref nl])), (na, .inl (ca 0, 442, .inl (zF sn))), (nf, .inl (ca 0, 20, .inl (zF e127))), (ng, .inl (ca 0, 20, .inl (zF f127))), (nh, .inl (ca 0, 20, .inl (zF st127)))] := hD
    obtain ⟨hwr27, hv27⟩ := hw27
    subst hwr27
    have hq9 := hv27.2
    refine lv_if_ge (tgt := 41) hx hb dX9_crewsOn_30 (by decide) (fun h30 => ?_) (fun h30 => ?_)
    · skip
      have h30 := (cL z0_toInt (iZ_toInt (by omega) (by omega))).mp h30
      have h9 := (plR_t (show 0 ≤ plR G T L N C by omega)).1
      refine lv_aload_n hx hb dX9_crewsOn_41 rfl (lv_at hl 0 rfl) ?_
      refine lv_aload_n hx hb dX9_crewsOn_42 rfl (lv_at hl 0 rfl) ?_
      refine va_get (D := D) (ci := 9) (v := .ref na) (C := RX9) (T := TX9) (N := 16) hx hb hts inX9 hown hK hP 0 rfl rfl 0 (by decide) f7 (fun _ h9 => h9) rfl dX9_crewsOn_43 ?_
      have e9 : (p) = nI (p.toInt.toNat) := (by rw [iZ_n, show ((p.toInt.toNat : Nat) : Int) = p.toInt by omega]; exact iZ_toI p)
      have hl : lv_has ls 2 [(0, .ref mo), (1, .int (nI p.toInt.toNat))] := by rw [← e9]; exact hl
      refine lv_iload_n hx hb dX9_crewsOn_46 rfl (lv_at hl 1 rfl) ?_
      refine xk_pi (xk_V (As := [.ref na, .int (nI p.toInt.toNat)]) (rest := []) ⟨hx, hb, hml, hown, hts⟩ (mX9_busy l D ca H.size mo na nb nc nd ne nf ng nh ni nj nl ms mk my 0 mp na sn st127 T C L N G p.toInt.toNat (by omega) hM (fun j hj => (hv27.1 h9 j hj).2) (by omega) hL30 hNk) (cwV 2 hts gX9_crewsOn_X9_busy rfl rfl rfl (by decide +kernel) ⟨Nat.le_of_ble_eq_true rfl, Nat.le_of_ble_eq_true rfl⟩) hK hP hD (va_recv (q := (RX9, TX9, 16)) hK hP (ci := 9) (q0 := 0) rfl rfl) [0, 4, 1] rfl rfl rfl hl.1 rfl (Nat.le_of_ble_eq_true rfl) dX9_crewsOn_47 ⟨Nat.le_of_ble_eq_true rfl, Nat.le_of_ble_eq_true rfl⟩) hP hD hS hA [0, 4, 1] rfl ⟨rfl, rfl⟩ (fun r47 H locs hw47 hP hS => ?_)
      have hw47 : r47 = iZ (bsy L N st127 (p.toInt.toNat : Int) T) := hw47
      subst hw47
      rw [← hE]
      exact xe_i (0, e127, f127, st127) hx hb hr hlocks hK hP hD hS (⟨(kOn_0 (p := p) (by omega) h9).symm, fun _ => congrArg iZ (by rw [show ((p.toInt.toNat : Nat) : Int) = p.toInt by omega]; exact bsy_cong (fun j hj => (hv27.1 h9 j hj).1))⟩) dX9_crewsOn_50
    · skip
      have h30 := (not_congr (cL z0_toInt (iZ_toInt (by omega) (by omega)))).mp h30
      refine lv_aload_n hx hb dX9_crewsOn_33 rfl (lv_at hl 0 rfl) ?_
      refine lv_iconst (v := nI (2)) hx hb dX9_crewsOn_34 (by decide) ?_
      refine xk_i [(na, .inl (ca 0, 442, .inl (zF sn))), (nf, .inl (ca 0, 20, .inl (zF e127))), (ng, .inl (ca 0, 20, .inl (zF f127))), (nh, .inl (ca 0, 20, .inl (zF st127)))] (fun u => [(mo, .inr (9, [.ref na, .ref nb, .ref nc, .ref nd, .int (bI (ms)), .int (nI mk), .ref ne, .int (nI my), .int (nI 2), .int (nI mp), .ref nf, .ref ng, .ref nh, .ref ni, .ref nj, .ref nl])), (na, .inl (ca 0, 442, .inl (zF sn))), (nf, .inl (ca 0, 20, .inl (zF e127))), (ng, .inl (ca 0, 20, .inl (zF f127))), (nh, .inl (ca 0, 20, .inl (zF st127)))]) (xk_V (As := [.int (nI 2)]) (rest := []) ⟨hx, hb, hml, hown, hts⟩ (mX9_fails l D ca H.size mo na nb nc nd ne nf ng nh ni nj nl ms mk my 0 mp 2 ) (cwV 1 hts gX9_crewsOn_X9_fails rfl rfl rfl (by decide +kernel) ⟨Nat.le_of_ble_eq_true rfl, Nat.le_of_ble_eq_true rfl⟩) hK hP hD (va_recv (q := (RX9, TX9, 16)) hK hP (ci := 9) (q0 := 0) rfl rfl) [0] rfl rfl rfl hl.1 rfl (Nat.le_of_ble_eq_true rfl) dX9_crewsOn_35 ⟨Nat.le_of_ble_eq_true rfl, Nat.le_of_ble_eq_true rfl⟩) hP hD hS hA [0] [1, 2, 3, 4] [4, 0, 1, 2, 3] rfl rfl rfl rfl (fun _ => rfl) rfl (fun r35 u35 H locs hw35 hP hD hS => ?_)
      have hw35 : r35 = nI 0 := hw35
      have hP : va_P D vwCl [(mo, .inr (9, [.ref na, .ref nb, .ref nc, .ref nd, .int (bI (ms)), .int (nI mk), .ref ne, .int (nI my), .int (nI 2), .int (nI mp), .ref nf, .ref ng, .ref nh, .ref ni, .ref nj, .ref nl])), (na, .inl (ca 0, 442, .inl (zF sn))), (nf, .inl (ca 0, 20, .inl (zF e127))), (ng, .inl (ca 0, 20, .inl (zF f127))), (nh, .inl (ca 0, 20, .inl (zF st127)))] H := hP
      have hD : va_D A [(mo, .inr (9, [.ref na, .ref nb, .ref nc, .ref nd, .int (bI (ms)), .int (nI mk), .ref ne, .int (nI my), .int (nI 2), .int (nI mp), .ref nf, .ref ng, .ref nh, .ref ni, .ref nj, .ref nl])), (na, .inl (ca 0, 442, .inl (zF sn))), (nf, .inl (ca 0, 20, .inl (zF e127))), (ng, .inl (ca 0, 20, .inl (zF f127))), (nh, .inl (ca 0, 20, .inl (zF st127)))] := hD
      have hwr35 := hw35
      subst hwr35
      refine lv_goto (tgt := 50) hx hb dX9_crewsOn_38 (by decide) ?_
      have hp9 := plR_f (show plR G T L N C < 0 by omega)
      rw [← hE]
      exact xe_i (2, e127, f127, st127) hx hb hr hlocks hK hP hD hS (⟨(kOn_2 (p := p) (by omega) hp9).symm, fun h9 => absurd (h9.symm.trans (kOn_2 (by omega) hp9)) (by decide)⟩) dX9_crewsOn_50
  · skip
    have h13 := bI_0.mp h13
    have h13 := (in_rngf (a := 0) (b := 999) (by omega) (by omega)).mp h13
    refine lv_aload_n hx hb dX9_crewsOn_16 rfl (lv_at hl 0 rfl) ?_
    refine lv_iconst (v := nI (1)) hx hb dX9_crewsOn_17 (by decide) ?_
    refine xk_i [(na, .inl (ca 0, 442, .inl (zF sn))), (nf, .inl (ca 0, 20, .inl (zF e))), (ng, .inl (ca 0, 20, .inl (zF f))), (nh, .inl (ca 0, 20, .inl (zF st)))] (fun u => [(mo, .inr (9, [.ref na, .ref nb, .ref nc, .ref nd, .int (bI (ms)), .int (nI mk), .ref ne, .int (nI my), .int (nI 1), .int (nI mp), .ref nf, .ref ng, .ref nh, .ref ni, .ref nj, .ref nl])), (na, .inl (ca 0, 442, .inl (zF sn))), (nf, .inl (ca 0, 20, .inl (zF e))), (ng, .inl (ca 0, 20, .inl (zF f))), (nh, .inl (ca 0, 20, .inl (zF st)))]) (xk_V (As := [.int (nI 1)]) (rest := []) ⟨hx, hb, hml, hown, hts⟩ (mX9_fails l D ca H.size mo na nb nc nd ne nf ng nh ni nj nl ms mk my 0 mp 1 ) (cwV 1 hts gX9_crewsOn_X9_fails rfl rfl rfl (by decide +kernel) ⟨Nat.le_of_ble_eq_true rfl, Nat.le_of_ble_eq_true rfl⟩) hK hP hD (va_recv (q := (RX9, TX9, 16)) hK hP (ci := 9) (q0 := 0) rfl rfl) [0] rfl rfl rfl hl.1 rfl (Nat.le_of_ble_eq_true rfl) dX9_crewsOn_18 ⟨Nat.le_of_ble_eq_true rfl, Nat.le_of_ble_eq_true rfl⟩) hP hD hS hA [0] [1, 2, 3, 4] [4, 0, 1, 2, 3] rfl rfl rfl rfl (fun _ => rfl) rfl (fun r18 u18 H locs hw18 hP hD hS => ?_)
    have hw18 : r18 = nI 0 := hw18
    have hP : va_P D vwCl [(mo, .inr (9, [.ref na, .ref nb, .ref nc, .ref nd, .int (bI (ms)), .int (nI mk), .ref ne, .int (nI my), .int (nI 1), .int (nI mp), .ref nf, .ref ng, .ref nh, .ref ni, .ref nj, .ref nl])), (na, .inl (ca 0, 442, .inl (zF sn))), (nf, .inl (ca 0, 20, .inl (zF e))), (ng, .inl (ca 0, 20, .inl (zF f))), (nh, .inl (ca 0, 20, .inl (zF st)))] H := hP
    have hD : va_D A [(mo, .inr (9, [.ref na, .ref nb, .ref nc, .ref nd, .int (bI (ms)), .int (nI mk), .ref ne, .int (nI my), .int (nI 1), .int (nI mp), .ref nf, .ref ng, .ref nh, .ref ni, .ref nj, .ref nl])), (na, .inl (ca 0, 442, .inl (zF sn))), (nf, .inl (ca 0, 20, .inl (zF e))), (ng, .inl (ca 0, 20, .inl (zF f))), (nh, .inl (ca 0, 20, .inl (zF st)))] := hD
    have hwr18 := hw18
    subst hwr18
    rw [← hE]
    exact xe_i (1, e, f, st) hx hb hr hlocks hK hP hD hS (⟨(kOn_1 (by omega)).symm, fun h9 => absurd (h9.symm.trans (kOn_1 (by omega))) (by decide)⟩) dX9_crewsOn_21
def rX9_scheduleLength : Room := { frames := 3, cells := 0, slots := 0, locals := 74 }
set_option maxHeartbeats 4000000 in
set_option maxRecDepth 100000 in
theorem mX9_scheduleLength (l : Launch) (D : va_G) (ca : Nat → ClassId) (sz : Nat) (mo : Nat) (na : Nat) (nb : Nat) (nc : Nat) (nd : Nat) (ne : Nat) (nf : Nat) (ng : Nat) (nh : Nat) (ni : Nat) (nj : Nat) (nl : Nat) (ms : Bool) (mk : Nat) (my : Nat) (mt : Nat) (mp : Nat) (sn : Nat → Int) (T : Nat) (En : Int) (C : Int) (L : Nat → Int) (N : Nat → Int) (G : Nat → Nat → Int) (e : Nat → Int) (f : Nat → Int) (st : Nat → Int) (hV : PSV T En C L N G) (hM : MS sn T C L N G) : MM l yX9_scheduleLength wsX9_scheduleLength rX9_scheduleLength D ca [.ref mo] sz [(mo, .inr (9, [.ref na, .ref nb, .ref nc, .ref nd, .int (bI (ms)), .int (nI mk), .ref ne, .int (nI my), .int (nI mt), .int (nI mp), .ref nf, .ref ng, .ref nh, .ref ni, .ref nj, .ref nl])), (na, .inl (ca 0, 442, .inl (zF sn))), (nf, .inl (ca 0, 20, .inl (zF e))), (ng, .inl (ca 0, 20, .inl (zF f))), (nh, .inl (ca 0, 20, .inl (zF st)))] (QI D ca (fun (r : Int32) (u : Nat × (Nat → Int) × (Nat → Int) × (Nat → Int)) => u.1 = kSch T N C ∧ (kSch T N C = 0 → r = iZ (slE L (SCH G T L N (lst G T L) C T) T))) (fun u => [(mo, .inr (9, [.ref na, .ref nb, .ref nc, .ref nd, .int (bI (ms)), .int (nI mk), .ref ne, .int (nI my), .int (nI u.1), .int (nI mp), .ref nf, .ref ng, .ref nh, .ref ni, .ref nj, .ref nl])), (na, .inl (ca 0, 442, .inl (zF sn))), (nf, .inl (ca 0, 20, .inl (zF u.2.1))), (ng, .inl (ca 0, 20, .inl (zF u.2.2.1))), (nh, .inl (ca 0, 20, .inl (zF u.2.2.2)))])) := by
  refine MM_of (cc := cX9_scheduleLength) (maxL := 2) (ret := (some .int)) (lv0 := [(0, .ref mo)]) RX9 (by decide) rfl rfl (Nat.le_of_ble_eq_true rfl) rfl ?_
  intro pG eV s mI args below meth cO hx hb hr hml hts hown hlocks hnm A hA H locs hsz hP hK hD hS Q hE ls hl
  have f44 := hts (.fieldLink RX9 44 "SlackPlanModel" "thrown" "I") (List.mem_of_getElem? (i := 1) rfl)
  have inX9 : ∀ w ∈ u_ws RX9 TX9 16, w ∈ wsX9_scheduleLength := in_r _ [38, 39, 40, 41, 42, 43, 44, 45, 46, 47, 48, 49, 50, 51, 52, 53] rfl
  have f7 := hts (.fieldLink RX9 7 "SlackPlanModel" "now" "[I") (List.mem_of_getElem? (i := 2) rfl)
  obtain ⟨hT, hC9, hL30, hNk, hG, hac, hGo, hEn, hE40⟩ := hV
  have hLk := L30_LOK hL30
  have hs0 := hM.1
  have hs1 := hM.2.1
  refine lv_aload_n hx hb dX9_scheduleLength_0 rfl (lv_at hl 0 rfl) ?_
  refine lv_iconst (v := nI (0)) hx hb dX9_scheduleLength_1 (by decide) ?_
  refine va_put (D := D) (ci := 9) (v := .int (nI 0)) (ty := .int) (C := RX9) (T := TX9) (N := 16) hx hb hts inX9 tyX9 tyX9_ok nmX9 hown hK hP hD hS 0 rfl rfl 8 (by decide) f44 (fun _ h9 => h9) rfl (by decide +kernel) rfl rfl (Nat.le_of_ble_eq_true rfl) dX9_scheduleLength_2 (fun H locs hP hD hS => ?_)
  have hP : va_P D vwCl [(mo, .inr (9, [.ref na, .ref nb, .ref nc, .ref nd, .int (bI (ms)), .int (nI mk), .ref ne, .int (nI my), .int (nI 0), .int (nI mp), .ref nf, .ref ng, .ref nh, .ref ni, .ref nj, .ref nl])), (na, .inl (ca 0, 442, .inl (zF sn))), (nf, .inl (ca 0, 20, .inl (zF e))), (ng, .inl (ca 0, 20, .inl (zF f))), (nh, .inl (ca 0, 20, .inl (zF st)))] H := hP
  have hD : va_D A [(mo, .inr (9, [.ref na, .ref nb, .ref nc, .ref nd, .int (bI (ms)), .int (nI mk), .ref ne, .int (nI my), .int (nI 0), .int (nI mp), .ref nf, .ref ng, .ref nh, .ref ni, .ref nj, .ref nl])), (na, .inl (ca 0, 442, .inl (zF sn))), (nf, .inl (ca 0, 20, .inl (zF e))), (ng, .inl (ca 0, 20, .inl (zF f))), (nh, .inl (ca 0, 20, .inl (zF st)))] := hD
  refine lv_aload_n hx hb dX9_scheduleLength_5 rfl (lv_at hl 0 rfl) ?_
  refine lv_aload_n hx hb dX9_scheduleLength_6 rfl (lv_at hl 0 rfl) ?_
  refine va_get (D := D) (ci := 9) (v := .ref na) (C := RX9) (T := TX9) (N := 16) hx hb hts inX9 hown hK hP 0 rfl rfl 0 (by decide) f7 (fun _ h9 => h9) rfl dX9_scheduleLength_7 ?_
  refine xk_i [] (fun u => [(mo, .inr (9, [.ref na, .ref nb, .ref nc, .ref nd, .int (bI (ms)), .int (nI mk), .ref ne, .int (nI my), .int (nI 0), .int (nI mp), .ref nf, .ref ng, .ref nh, .ref ni, .ref nj, .ref nl])), (na, .inl (ca 0, 442, .inl (zF sn))), (nf, .inl (ca 0, 20, .inl (zF u.1))), (ng, .inl (ca 0, 20, .inl (zF u.2.1))), (nh, .inl (ca 0, 20, .inl (zF u.2.2)))]) (xk_V (As := [.ref na]) (rest := []) ⟨hx, hb, hml, hown, hts⟩ (mX9_plans l D ca H.size mo na nb nc nd ne nf ng nh ni nj nl ms mk my 0 mp na sn e f st T C L N G (by omega) hG hac hGo hM hL30 hNk hC9) (cwV 1 hts gX9_scheduleLength_X9_plans rfl rfl rfl (by decide +kernel) ⟨Nat.le_of_ble_eq_true rfl, Nat.le_of_ble_eq_true rfl⟩) hK hP hD (va_recv (q := (RX9, TX9, 16)) hK hP (ci := 9) (q0 := 0) rfl rfl) [0, 2, 3, 4, 1] rfl rfl rfl hl.1 rfl (Nat.le_of_ble_eq_true rfl) dX9_scheduleLength_10 ⟨Nat.le_of_ble_eq_true rfl, Nat.le_of_ble_eq_true rfl⟩) hP hD hS hA [0, 2, 3, 4, 1] [] [0, 4, 1, 2, 3] rfl rfl rfl rfl (fun _ => rfl) rfl (fun r10 u10 H locs hw10 hP hD hS => ?_)
  obtain ⟨e110, f110, st110⟩ := u10
  have hw10 : r10 = iZ (plR G T L N C) ∧ (nOK N C T = true → ∀ t, t < T → st110 t = SCH G T L N (lst G T L) C T t ∧ -1 ≤ st110 t ∧ st110 t ≤ 1000) ∧ -1 ≤ plR G T L N C ∧ plR G T L N C ≤ 900 := hw10
  have hP : va_P D vwCl [(mo, .inr (9, [.ref na, .ref nb, .ref nc, .ref nd, .int (bI (ms)), .int (nI mk), .ref ne, .int (nI my), .int (nI 0), .int (nI mp), .ref nf, .ref ng, .ref nh, .ref ni, .ref nj, .ref nl])), (na, .inl (ca 0, 442, .inl (zF sn))), (nf, .inl (ca 0, 20, .inl (zF e110))), (ng, .inl (ca 0, 20, .inl (zF f110))), (nh, .inl (ca 0, 20, .inl (zF st110)))] H := hP
  have hD : va_D A [(mo, .inr (9, [.ref na, .ref nb, .ref nc, .ref nd, .int (bI (ms)), .int (nI mk), .ref ne, .int (nI my), .int (nI 0), .int (nI mp), .ref nf, .ref ng, .ref nh, .ref ni, .ref nj, .ref nl])), (na, .inl (ca 0, 442, .inl (zF sn))), (nf, .inl (ca 0, 20, .inl (zF e110))), (ng, .inl (ca 0, 20, .inl (zF f110))), (nh, .inl (ca 0, 20, .inl (zF st110)))] := hD
  obtain ⟨hwr10, hv10⟩ := hw10
  subst hwr10
  refine lv_istore_n (lv' := [(1, .int (iZ (plR G T L N C))), (0, .ref mo)]) hx hb dX9_scheduleLength_13 rfl hl (by decide) rfl (fun ls hl => ?_)
  refine lv_iload_n hx hb dX9_scheduleLength_14 rfl (lv_at hl 0 rfl) ?_
  have hq9 := hv10.2
  refine lv_if_ge (tgt := 26) hx hb dX9_scheduleLength_15 (by decide) (fun h15 => ?_) (fun h15 => ?_)
  · skip
    have h15 := (cL z0_toInt (iZ_toInt (by omega) (by omega))).mp h15
    refine lv_iload_n hx hb dX9_scheduleLength_26 rfl (lv_at hl 0 rfl) ?_
    have h9 := plR_t (show 0 ≤ plR G T L N C by omega)
    rw [← hE]
    exact xe_i (0, e110, f110, st110) hx hb hr hlocks hK hP hD hS (⟨(kSch_0 h9.1).symm, fun _ => congrArg iZ h9.2⟩) dX9_scheduleLength_27
  · skip
    have h15 := (not_congr (cL z0_toInt (iZ_toInt (by omega) (by omega)))).mp h15
    refine lv_aload_n hx hb dX9_scheduleLength_18 rfl (lv_at hl 1 rfl) ?_
    refine lv_iconst (v := nI (1)) hx hb dX9_scheduleLength_19 (by decide) ?_
    refine xk_i [(na, .inl (ca 0, 442, .inl (zF sn))), (nf, .inl (ca 0, 20, .inl (zF e110))), (ng, .inl (ca 0, 20, .inl (zF f110))), (nh, .inl (ca 0, 20, .inl (zF st110)))] (fun u => [(mo, .inr (9, [.ref na, .ref nb, .ref nc, .ref nd, .int (bI (ms)), .int (nI mk), .ref ne, .int (nI my), .int (nI 1), .int (nI mp), .ref nf, .ref ng, .ref nh, .ref ni, .ref nj, .ref nl])), (na, .inl (ca 0, 442, .inl (zF sn))), (nf, .inl (ca 0, 20, .inl (zF e110))), (ng, .inl (ca 0, 20, .inl (zF f110))), (nh, .inl (ca 0, 20, .inl (zF st110)))]) (xk_V (As := [.int (nI 1)]) (rest := []) ⟨hx, hb, hml, hown, hts⟩ (mX9_fails l D ca H.size mo na nb nc nd ne nf ng nh ni nj nl ms mk my 0 mp 1 ) (cwV 1 hts gX9_scheduleLength_X9_fails rfl rfl rfl (by decide +kernel) ⟨Nat.le_of_ble_eq_true rfl, Nat.le_of_ble_eq_true rfl⟩) hK hP hD (va_recv (q := (RX9, TX9, 16)) hK hP (ci := 9) (q0 := 0) rfl rfl) [0] rfl rfl rfl hl.1 rfl (Nat.le_of_ble_eq_true rfl) dX9_scheduleLength_20 ⟨Nat.le_of_ble_eq_true rfl, Nat.le_of_ble_eq_true rfl⟩) hP hD hS hA [0] [1, 2, 3, 4] [4, 0, 1, 2, 3] rfl rfl rfl rfl (fun _ => rfl) rfl (fun r20 u20 H locs hw20 hP hD hS => ?_)
    have hw20 : r20 = nI 0 := hw20
    have hP : va_P D vwCl [(mo, .inr (9, [.ref na, .ref nb, .ref nc, .ref nd, .int (bI (ms)), .int (nI mk), .ref ne, .int (nI my), .int (nI 1), .int (nI mp), .ref nf, .ref ng, .ref nh, .ref ni, .ref nj, .ref nl])), (na, .inl (ca 0, 442, .inl (zF sn))), (nf, .inl (ca 0, 20, .inl (zF e110))), (ng, .inl (ca 0, 20, .inl (zF f110))), (nh, .inl (ca 0, 20, .inl (zF st110)))] H := hP
    have hD : va_D A [(mo, .inr (9, [.ref na, .ref nb, .ref nc, .ref nd, .int (bI (ms)), .int (nI mk), .ref ne, .int (nI my), .int (nI 1), .int (nI mp), .ref nf, .ref ng, .ref nh, .ref ni, .ref nj, .ref nl])), (na, .inl (ca 0, 442, .inl (zF sn))), (nf, .inl (ca 0, 20, .inl (zF e110))), (ng, .inl (ca 0, 20, .inl (zF f110))), (nh, .inl (ca 0, 20, .inl (zF st110)))] := hD
    have hwr20 := hw20
    subst hwr20
    refine lv_goto (tgt := 27) hx hb dX9_scheduleLength_23 (by decide) ?_
    have hp9 := plR_f (show plR G T L N C < 0 by omega)
    rw [← hE]
    exact xe_i (1, e110, f110, st110) hx hb hr hlocks hK hP hD hS (⟨(kSch_1 hp9).symm, fun h9 => absurd (h9.symm.trans (kSch_1 hp9)) (by decide)⟩) dX9_scheduleLength_27
def rX9_workByDays : Room := { frames := 3, cells := 0, slots := 0, locals := 74 }
set_option maxHeartbeats 4000000 in
set_option maxRecDepth 100000 in
theorem mX9_workByDays (l : Launch) (D : va_G) (ca : Nat → ClassId) (sz : Nat) (mo : Nat) (na : Nat) (nb : Nat) (nc : Nat) (nd : Nat) (ne : Nat) (nf : Nat) (ng : Nat) (nh : Nat) (ni : Nat) (nj : Nat) (nl : Nat) (ms : Bool) (mk : Nat) (my : Nat) (mt : Nat) (mp : Nat) (sn : Nat → Int) (T : Nat) (En : Int) (C : Int) (L : Nat → Int) (N : Nat → Int) (G : Nat → Nat → Int) (e : Nat → Int) (f : Nat → Int) (st : Nat → Int) (hV : PSV T En C L N G) (hM : MS sn T C L N G) : MM l yX9_workByDays wsX9_workByDays rX9_workByDays D ca [.ref mo] sz [(mo, .inr (9, [.ref na, .ref nb, .ref nc, .ref nd, .int (bI (ms)), .int (nI mk), .ref ne, .int (nI my), .int (nI mt), .int (nI mp), .ref nf, .ref ng, .ref nh, .ref ni, .ref nj, .ref nl])), (na, .inl (ca 0, 442, .inl (zF sn))), (nf, .inl (ca 0, 20, .inl (zF e))), (ng, .inl (ca 0, 20, .inl (zF f))), (nh, .inl (ca 0, 20, .inl (zF st)))] (QI D ca (fun (r : Int32) (u : Nat × (Nat → Int) × (Nat → Int) × (Nat → Int)) => u.1 = kSch T N C ∧ (kSch T N C = 0 → r = iZ (sumW L N T))) (fun u => [(mo, .inr (9, [.ref na, .ref nb, .ref nc, .ref nd, .int (bI (ms)), .int (nI mk), .ref ne, .int (nI my), .int (nI u.1), .int (nI mp), .ref nf, .ref ng, .ref nh, .ref ni, .ref nj, .ref nl])), (na, .inl (ca 0, 442, .inl (zF sn))), (nf, .inl (ca 0, 20, .inl (zF u.2.1))), (ng, .inl (ca 0, 20, .inl (zF u.2.2.1))), (nh, .inl (ca 0, 20, .inl (zF u.2.2.2)))])) := by
  refine MM_of (cc := cX9_workByDays) (maxL := 1) (ret := (some .int)) (lv0 := [(0, .ref mo)]) RX9 (by decide) rfl rfl (Nat.le_of_ble_eq_true rfl) rfl ?_
  intro pG eV s mI args below meth cO hx hb hr hml hts hown hlocks hnm A hA H locs hsz hP hK hD hS Q hE ls hl
  have f44 := hts (.fieldLink RX9 44 "SlackPlanModel" "thrown" "I") (List.mem_of_getElem? (i := 1) rfl)
  have inX9 : ∀ w ∈ u_ws RX9 TX9 16, w ∈ wsX9_workByDays := in_r _ [42, 43, 44, 45, 46, 47, 48, 49, 50, 51, 52, 53, 54, 55, 56, 57] rfl
  have f7 := hts (.fieldLink RX9 7 "SlackPlanModel" "now" "[I") (List.mem_of_getElem? (i := 2) rfl)
  obtain ⟨hT, hC9, hL30, hNk, hG, hac, hGo, hEn, hE40⟩ := hV
  have hLk := L30_LOK hL30
  have hs0 := hM.1
  have hs1 := hM.2.1
  refine lv_aload_n hx hb dX9_workByDays_0 rfl (lv_at hl 0 rfl) ?_
  refine lv_iconst (v := nI (0)) hx hb dX9_workByDays_1 (by decide) ?_
  refine va_put (D := D) (ci := 9) (v := .int (nI 0)) (ty := .int) (C := RX9) (T := TX9) (N := 16) hx hb hts inX9 tyX9 tyX9_ok nmX9 hown hK hP hD hS 0 rfl rfl 8 (by decide) f44 (fun _ h9 => h9) rfl (by decide +kernel) rfl rfl (Nat.le_of_ble_eq_true rfl) dX9_workByDays_2 (fun H locs hP hD hS => ?_)
  have hP : va_P D vwCl [(mo, .inr (9, [.ref na, .ref nb, .ref nc, .ref nd, .int (bI (ms)), .int (nI mk), .ref ne, .int (nI my), .int (nI 0), .int (nI mp), .ref nf, .ref ng, .ref nh, .ref ni, .ref nj, .ref nl])), (na, .inl (ca 0, 442, .inl (zF sn))), (nf, .inl (ca 0, 20, .inl (zF e))), (ng, .inl (ca 0, 20, .inl (zF f))), (nh, .inl (ca 0, 20, .inl (zF st)))] H := hP
  have hD : va_D A [(mo, .inr (9, [.ref na, .ref nb, .ref nc, .ref nd, .int (bI (ms)), .int (nI mk), .ref ne, .int (nI my), .int (nI 0), .int (nI mp), .ref nf, .ref ng, .ref nh, .ref ni, .ref nj, .ref nl])), (na, .inl (ca 0, 442, .inl (zF sn))), (nf, .inl (ca 0, 20, .inl (zF e))), (ng, .inl (ca 0, 20, .inl (zF f))), (nh, .inl (ca 0, 20, .inl (zF st)))] := hD
  refine lv_aload_n hx hb dX9_workByDays_5 rfl (lv_at hl 0 rfl) ?_
  refine lv_aload_n hx hb dX9_workByDays_6 rfl (lv_at hl 0 rfl) ?_
  refine va_get (D := D) (ci := 9) (v := .ref na) (C := RX9) (T := TX9) (N := 16) hx hb hts inX9 hown hK hP 0 rfl rfl 0 (by decide) f7 (fun _ h9 => h9) rfl dX9_workByDays_7 ?_
  refine xk_i [] (fun u => [(mo, .inr (9, [.ref na, .ref nb, .ref nc, .ref nd, .int (bI (ms)), .int (nI mk), .ref ne, .int (nI my), .int (nI 0), .int (nI mp), .ref nf, .ref ng, .ref nh, .ref ni, .ref nj, .ref nl])), (na, .inl (ca 0, 442, .inl (zF sn))), (nf, .inl (ca 0, 20, .inl (zF u.1))), (ng, .inl (ca 0, 20, .inl (zF u.2.1))), (nh, .inl (ca 0, 20, .inl (zF u.2.2)))]) (xk_V (As := [.ref na]) (rest := []) ⟨hx, hb, hml, hown, hts⟩ (mX9_plans l D ca H.size mo na nb nc nd ne nf ng nh ni nj nl ms mk my 0 mp na sn e f st T C L N G (by omega) hG hac hGo hM hL30 hNk hC9) (cwV 1 hts gX9_workByDays_X9_plans rfl rfl rfl (by decide +kernel) ⟨Nat.le_of_ble_eq_true rfl, Nat.le_of_ble_eq_true rfl⟩) hK hP hD (va_recv (q := (RX9, TX9, 16)) hK hP (ci := 9) (q0 := 0) rfl rfl) [0, 2, 3, 4, 1] rfl rfl rfl hl.1 rfl (Nat.le_of_ble_eq_true rfl) dX9_workByDays_10 ⟨Nat.le_of_ble_eq_true rfl, Nat.le_of_ble_eq_true rfl⟩) hP hD hS hA [0, 2, 3, 4, 1] [] [0, 4, 1, 2, 3] rfl rfl rfl rfl (fun _ => rfl) rfl (fun r10 u10 H locs hw10 hP hD hS => ?_)
  obtain ⟨e110, f110, st110⟩ := u10
  have hw10 : r10 = iZ (plR G T L N C) ∧ (nOK N C T = true → ∀ t, t < T → st110 t = SCH G T L N (lst G T L) C T t ∧ -1 ≤ st110 t ∧ st110 t ≤ 1000) ∧ -1 ≤ plR G T L N C ∧ plR G T L N C ≤ 900 := hw10
  have hP : va_P D vwCl [(mo, .inr (9, [.ref na, .ref nb, .ref nc, .ref nd, .int (bI (ms)), .int (nI mk), .ref ne, .int (nI my), .int (nI 0), .int (nI mp), .ref nf, .ref ng, .ref nh, .ref ni, .ref nj, .ref nl])), (na, .inl (ca 0, 442, .inl (zF sn))), (nf, .inl (ca 0, 20, .inl (zF e110))), (ng, .inl (ca 0, 20, .inl (zF f110))), (nh, .inl (ca 0, 20, .inl (zF st110)))] H := hP
  have hD : va_D A [(mo, .inr (9, [.ref na, .ref nb, .ref nc, .ref nd, .int (bI (ms)), .int (nI mk), .ref ne, .int (nI my), .int (nI 0), .int (nI mp), .ref nf, .ref ng, .ref nh, .ref ni, .ref nj, .ref nl])), (na, .inl (ca 0, 442, .inl (zF sn))), (nf, .inl (ca 0, 20, .inl (zF e110))), (ng, .inl (ca 0, 20, .inl (zF f110))), (nh, .inl (ca 0, 20, .inl (zF st110)))] := hD
  obtain ⟨hwr10, hv10⟩ := hw10
  subst hwr10
  have hq9 := hv10.2
  refine lv_if_ge (tgt := 24) hx hb dX9_workByDays_13 (by decide) (fun h13 => ?_) (fun h13 => ?_)
  · skip
    have h13 := (cL z0_toInt (iZ_toInt (by omega) (by omega))).mp h13
    refine lv_aload_n hx hb dX9_workByDays_24 rfl (lv_at hl 0 rfl) ?_
    refine xk_pi (xk_V (As := []) (rest := []) ⟨hx, hb, hml, hown, hts⟩ (mX9_allWork l D ca H.size mo na nb nc nd ne nf ng nh ni nj nl ms mk my 0 mp sn T C L N G (by omega) hM) (cwV 0 hts gX9_workByDays_X9_allWork rfl rfl rfl (by decide +kernel) ⟨Nat.le_of_ble_eq_true rfl, Nat.le_of_ble_eq_true rfl⟩) hK hP hD (va_recv (q := (RX9, TX9, 16)) hK hP (ci := 9) (q0 := 0) rfl rfl) [0, 1] rfl rfl rfl hl.1 rfl (Nat.le_of_ble_eq_true rfl) dX9_workByDays_25 ⟨Nat.le_of_ble_eq_true rfl, Nat.le_of_ble_eq_true rfl⟩) hP hD hS hA [0, 1] rfl ⟨rfl, rfl⟩ (fun r25 H locs hw25 hP hS => ?_)
    have hw25 : r25 = iZ (sumW L N T) := hw25
    subst hw25
    have h9 := plR_t (show 0 ≤ plR G T L N C by omega)
    rw [← hE]
    exact xe_i (0, e110, f110, st110) hx hb hr hlocks hK hP hD hS (⟨(kSch_0 h9.1).symm, fun _ => rfl⟩) dX9_workByDays_28
  · skip
    have h13 := (not_congr (cL z0_toInt (iZ_toInt (by omega) (by omega)))).mp h13
    refine lv_aload_n hx hb dX9_workByDays_16 rfl (lv_at hl 0 rfl) ?_
    refine lv_iconst (v := nI (1)) hx hb dX9_workByDays_17 (by decide) ?_
    refine xk_i [(na, .inl (ca 0, 442, .inl (zF sn))), (nf, .inl (ca 0, 20, .inl (zF e110))), (ng, .inl (ca 0, 20, .inl (zF f110))), (nh, .inl (ca 0, 20, .inl (zF st110)))] (fun u => [(mo, .inr (9, [.ref na, .ref nb, .ref nc, .ref nd, .int (bI (ms)), .int (nI mk), .ref ne, .int (nI my), .int (nI 1), .int (nI mp), .ref nf, .ref ng, .ref nh, .ref ni, .ref nj, .ref nl])), (na, .inl (ca 0, 442, .inl (zF sn))), (nf, .inl (ca 0, 20, .inl (zF e110))), (ng, .inl (ca 0, 20, .inl (zF f110))), (nh, .inl (ca 0, 20, .inl (zF st110)))]) (xk_V (As := [.int (nI 1)]) (rest := []) ⟨hx, hb, hml, hown, hts⟩ (mX9_fails l D ca H.size mo na nb nc nd ne nf ng nh ni nj nl ms mk my 0 mp 1 ) (cwV 1 hts gX9_workByDays_X9_fails rfl rfl rfl (by decide +kernel) ⟨Nat.le_of_ble_eq_true rfl, Nat.le_of_ble_eq_true rfl⟩) hK hP hD (va_recv (q := (RX9, TX9, 16)) hK hP (ci := 9) (q0 := 0) rfl rfl) [0] rfl rfl rfl hl.1 rfl (Nat.le_of_ble_eq_true rfl) dX9_workByDays_18 ⟨Nat.le_of_ble_eq_true rfl, Nat.le_of_ble_eq_true rfl⟩) hP hD hS hA [0] [1, 2, 3, 4] [4, 0, 1, 2, 3] rfl rfl rfl rfl (fun _ => rfl) rfl (fun r18 u18 H locs hw18 hP hD hS => ?_)
    have hw18 : r18 = nI 0 := hw18
    have hP : va_P D vwCl [(mo, .inr (9, [.ref na, .ref nb, .ref nc, .ref nd, .int (bI (ms)), .int (nI mk), .ref ne, .int (nI my), .int (nI 1), .int (nI mp), .ref nf, .ref ng, .ref nh, .ref ni, .ref nj, .ref nl])), (na, .inl (ca 0, 442, .inl (zF sn))), (nf, .inl (ca 0, 20, .inl (zF e110))), (ng, .inl (ca 0, 20, .inl (zF f110))), (nh, .inl (ca 0, 20, .inl (zF st110)))] H := hP
    have hD : va_D A [(mo, .inr (9, [.ref na, .ref nb, .ref nc, .ref nd, .int (bI (ms)), .int (nI mk), .ref ne, .int (nI my), .int (nI 1), .int (nI mp), .ref nf, .ref ng, .ref nh, .ref ni, .ref nj, .ref nl])), (na, .inl (ca 0, 442, .inl (zF sn))), (nf, .inl (ca 0, 20, .inl (zF e110))), (ng, .inl (ca 0, 20, .inl (zF f110))), (nh, .inl (ca 0, 20, .inl (zF st110)))] := hD
    have hwr18 := hw18
    subst hwr18
    refine lv_goto (tgt := 28) hx hb dX9_workByDays_21 (by decide) ?_
    have hp9 := plR_f (show plR G T L N C < 0 by omega)
    rw [← hE]
    exact xe_i (1, e110, f110, st110) hx hb hr hlocks hK hP hD hS (⟨(kSch_1 hp9).symm, fun h9 => absurd (h9.symm.trans (kSch_1 hp9)) (by decide)⟩) dX9_workByDays_28
def rX9_usage : Room := { frames := 3, cells := 0, slots := 0, locals := 74 }
set_option maxHeartbeats 4000000 in
set_option maxRecDepth 100000 in
theorem mX9_usage (l : Launch) (D : va_G) (ca : Nat → ClassId) (sz : Nat) (mo : Nat) (na : Nat) (nb : Nat) (nc : Nat) (nd : Nat) (ne : Nat) (nf : Nat) (ng : Nat) (nh : Nat) (ni : Nat) (nj : Nat) (nl : Nat) (ms : Bool) (mk : Nat) (my : Nat) (mt : Nat) (mp : Nat) (sn : Nat → Int) (T : Nat) (En : Int) (C : Int) (L : Nat → Int) (N : Nat → Int) (G : Nat → Nat → Int) (e : Nat → Int) (f : Nat → Int) (st : Nat → Int) (hV : PSV T En C L N G) (hM : MS sn T C L N G) : MM l yX9_usage wsX9_usage rX9_usage D ca [.ref mo] sz [(mo, .inr (9, [.ref na, .ref nb, .ref nc, .ref nd, .int (bI (ms)), .int (nI mk), .ref ne, .int (nI my), .int (nI mt), .int (nI mp), .ref nf, .ref ng, .ref nh, .ref ni, .ref nj, .ref nl])), (na, .inl (ca 0, 442, .inl (zF sn))), (nf, .inl (ca 0, 20, .inl (zF e))), (ng, .inl (ca 0, 20, .inl (zF f))), (nh, .inl (ca 0, 20, .inl (zF st)))] (QD D ca (fun (r : UInt64) (u : Nat × (Nat → Int) × (Nat → Int) × (Nat → Int)) => u.1 = kSch T N C ∧ (kSch T N C = 0 → r = usV (sumW L N T) (slE L (SCH G T L N (lst G T L) C T) T * C))) (fun u => [(mo, .inr (9, [.ref na, .ref nb, .ref nc, .ref nd, .int (bI (ms)), .int (nI mk), .ref ne, .int (nI my), .int (nI u.1), .int (nI mp), .ref nf, .ref ng, .ref nh, .ref ni, .ref nj, .ref nl])), (na, .inl (ca 0, 442, .inl (zF sn))), (nf, .inl (ca 0, 20, .inl (zF u.2.1))), (ng, .inl (ca 0, 20, .inl (zF u.2.2.1))), (nh, .inl (ca 0, 20, .inl (zF u.2.2.2)))])) := by
  refine MM_of (cc := cX9_usage) (maxL := 2) (ret := (some .double)) (lv0 := [(0, .ref mo)]) RX9 (by decide) rfl rfl (Nat.le_of_ble_eq_true rfl) rfl ?_
  intro pG eV s mI args below meth cO hx hb hr hml hts hown hlocks hnm A hA H locs hsz hP hK hD hS Q hE ls hl
  have f44 := hts (.fieldLink RX9 44 "SlackPlanModel" "thrown" "I") (List.mem_of_getElem? (i := 1) rfl)
  have inX9 : ∀ w ∈ u_ws RX9 TX9 16, w ∈ wsX9_usage := in_r _ [42, 43, 44, 45, 46, 47, 48, 49, 50, 51, 52, 53, 54, 55, 56, 57] rfl
  have f7 := hts (.fieldLink RX9 7 "SlackPlanModel" "now" "[I") (List.mem_of_getElem? (i := 2) rfl)
  obtain ⟨hT, hC9, hL30, hNk, hG, hac, hGo, hEn, hE40⟩ := hV
  have hLk := L30_LOK hL30
  have hs0 := hM.1
  have hs1 := hM.2.1
  refine lv_aload_n hx hb dX9_usage_0 rfl (lv_at hl 0 rfl) ?_
  refine lv_iconst (v := nI (0)) hx hb dX9_usage_1 (by decide) ?_
  refine va_put (D := D) (ci := 9) (v := .int (nI 0)) (ty := .int) (C := RX9) (T := TX9) (N := 16) hx hb hts inX9 tyX9 tyX9_ok nmX9 hown hK hP hD hS 0 rfl rfl 8 (by decide) f44 (fun _ h9 => h9) rfl (by decide +kernel) rfl rfl (Nat.le_of_ble_eq_true rfl) dX9_usage_2 (fun H locs hP hD hS => ?_)
  have hP : va_P D vwCl [(mo, .inr (9, [.ref na, .ref nb, .ref nc, .ref nd, .int (bI (ms)), .int (nI mk), .ref ne, .int (nI my), .int (nI 0), .int (nI mp), .ref nf, .ref ng, .ref nh, .ref ni, .ref nj, .ref nl])), (na, .inl (ca 0, 442, .inl (zF sn))), (nf, .inl (ca 0, 20, .inl (zF e))), (ng, .inl (ca 0, 20, .inl (zF f))), (nh, .inl (ca 0, 20, .inl (zF st)))] H := hP
  have hD : va_D A [(mo, .inr (9, [.ref na, .ref nb, .ref nc, .ref nd, .int (bI (ms)), .int (nI mk), .ref ne, .int (nI my), .int (nI 0), .int (nI mp), .ref nf, .ref ng, .ref nh, .ref ni, .ref nj, .ref nl])), (na, .inl (ca 0, 442, .inl (zF sn))), (nf, .inl (ca 0, 20, .inl (zF e))), (ng, .inl (ca 0, 20, .inl (zF f))), (nh, .inl (ca 0, 20, .inl (zF st)))] := hD
  refine lv_aload_n hx hb dX9_usage_5 rfl (lv_at hl 0 rfl) ?_
  refine lv_aload_n hx hb dX9_usage_6 rfl (lv_at hl 0 rfl) ?_
  refine va_get (D := D) (ci := 9) (v := .ref na) (C := RX9) (T := TX9) (N := 16) hx hb hts inX9 hown hK hP 0 rfl rfl 0 (by decide) f7 (fun _ h9 => h9) rfl dX9_usage_7 ?_
  refine xk_i [] (fun u => [(mo, .inr (9, [.ref na, .ref nb, .ref nc, .ref nd, .int (bI (ms)), .int (nI mk), .ref ne, .int (nI my), .int (nI 0), .int (nI mp), .ref nf, .ref ng, .ref nh, .ref ni, .ref nj, .ref nl])), (na, .inl (ca 0, 442, .inl (zF sn))), (nf, .inl (ca 0, 20, .inl (zF u.1))), (ng, .inl (ca 0, 20, .inl (zF u.2.1))), (nh, .inl (ca 0, 20, .inl (zF u.2.2)))]) (xk_V (As := [.ref na]) (rest := []) ⟨hx, hb, hml, hown, hts⟩ (mX9_plans l D ca H.size mo na nb nc nd ne nf ng nh ni nj nl ms mk my 0 mp na sn e f st T C L N G (by omega) hG hac hGo hM hL30 hNk hC9) (cwV 1 hts gX9_usage_X9_plans rfl rfl rfl (by decide +kernel) ⟨Nat.le_of_ble_eq_true rfl, Nat.le_of_ble_eq_true rfl⟩) hK hP hD (va_recv (q := (RX9, TX9, 16)) hK hP (ci := 9) (q0 := 0) rfl rfl) [0, 2, 3, 4, 1] rfl rfl rfl hl.1 rfl (Nat.le_of_ble_eq_true rfl) dX9_usage_10 ⟨Nat.le_of_ble_eq_true rfl, Nat.le_of_ble_eq_true rfl⟩) hP hD hS hA [0, 2, 3, 4, 1] [] [0, 4, 1, 2, 3] rfl rfl rfl rfl (fun _ => rfl) rfl (fun r10 u10 H locs hw10 hP hD hS => ?_)
  obtain ⟨e110, f110, st110⟩ := u10
  have hw10 : r10 = iZ (plR G T L N C) ∧ (nOK N C T = true → ∀ t, t < T → st110 t = SCH G T L N (lst G T L) C T t ∧ -1 ≤ st110 t ∧ st110 t ≤ 1000) ∧ -1 ≤ plR G T L N C ∧ plR G T L N C ≤ 900 := hw10
  have hP : va_P D vwCl [(mo, .inr (9, [.ref na, .ref nb, .ref nc, .ref nd, .int (bI (ms)), .int (nI mk), .ref ne, .int (nI my), .int (nI 0), .int (nI mp), .ref nf, .ref ng, .ref nh, .ref ni, .ref nj, .ref nl])), (na, .inl (ca 0, 442, .inl (zF sn))), (nf, .inl (ca 0, 20, .inl (zF e110))), (ng, .inl (ca 0, 20, .inl (zF f110))), (nh, .inl (ca 0, 20, .inl (zF st110)))] H := hP
  have hD : va_D A [(mo, .inr (9, [.ref na, .ref nb, .ref nc, .ref nd, .int (bI (ms)), .int (nI mk), .ref ne, .int (nI my), .int (nI 0), .int (nI mp), .ref nf, .ref ng, .ref nh, .ref ni, .ref nj, .ref nl])), (na, .inl (ca 0, 442, .inl (zF sn))), (nf, .inl (ca 0, 20, .inl (zF e110))), (ng, .inl (ca 0, 20, .inl (zF f110))), (nh, .inl (ca 0, 20, .inl (zF st110)))] := hD
  obtain ⟨hwr10, hv10⟩ := hw10
  subst hwr10
  refine lv_istore_n (lv' := [(1, .int (iZ (plR G T L N C))), (0, .ref mo)]) hx hb dX9_usage_13 rfl hl (by decide) rfl (fun ls hl => ?_)
  refine lv_iload_n hx hb dX9_usage_14 rfl (lv_at hl 0 rfl) ?_
  have hq9 := hv10.2
  refine lv_if_ge (tgt := 25) hx hb dX9_usage_15 (by decide) (fun h15 => ?_) (fun h15 => ?_)
  · skip
    have h15 := (cL z0_toInt (iZ_toInt (by omega) (by omega))).mp h15
    have h9 := plR_t (show 0 ≤ plR G T L N C by omega)
    have hm9 := mul_rng2 (a := plR G T L N C) (c := C) (by omega) (by omega)
    refine lv_iload_n hx hb dX9_usage_25 rfl (lv_at hl 0 rfl) ?_
    refine lv_if_ne (tgt := 33) hx hb dX9_usage_26 (by decide) (fun h26 => ?_) (fun h26 => ?_)
    · skip
      have h26 := (not_congr (cE (iZ_toInt (by omega) (by omega)) z0_toInt)).mp h26
      refine lv_aload_n hx hb dX9_usage_33 rfl (lv_at hl 1 rfl) ?_
      refine xk_pi (xk_V (As := []) (rest := []) ⟨hx, hb, hml, hown, hts⟩ (mX9_allWork l D ca H.size mo na nb nc nd ne nf ng nh ni nj nl ms mk my 0 mp sn T C L N G (by omega) hM) (cwV 0 hts gX9_usage_X9_allWork rfl rfl rfl (by decide +kernel) ⟨Nat.le_of_ble_eq_true rfl, Nat.le_of_ble_eq_true rfl⟩) hK hP hD (va_recv (q := (RX9, TX9, 16)) hK hP (ci := 9) (q0 := 0) rfl rfl) [0, 1] rfl rfl rfl hl.1 rfl (Nat.le_of_ble_eq_true rfl) dX9_usage_34 ⟨Nat.le_of_ble_eq_true rfl, Nat.le_of_ble_eq_true rfl⟩) hP hD hS hA [0, 1] rfl ⟨rfl, rfl⟩ (fun r34 H locs hw34 hP hS => ?_)
      have hw34 : r34 = iZ (sumW L N T) := hw34
      subst hw34
      refine lv_i2d hx hb dX9_usage_37 ?_
      refine lv_iload_n hx hb dX9_usage_38 rfl (lv_at hl 0 rfl) ?_
      refine lv_aload_n hx hb dX9_usage_39 rfl (lv_at hl 1 rfl) ?_
      refine va_get (D := D) (ci := 9) (v := .ref na) (C := RX9) (T := TX9) (N := 16) hx hb hts inX9 hown hK hP 0 rfl rfl 0 (by decide) f7 (fun _ h9 => h9) rfl dX9_usage_40 ?_
      refine lv_iconst (v := nI (1)) hx hb dX9_usage_43 (by decide) ?_
      refine xr_iald hx hb hK hP 1 0 rfl rfl (by omega) (Nat.le_of_ble_eq_true rfl) (v := iZ (sn 1)) rfl dX9_usage_44 ?_
      refine xr_top (y := iZ (C)) (congrArg iZ hs1) ?_
      refine xr_imul_zz hx hb dX9_usage_45 ?_
      have hs9 := sumW_rng hT hL30 hNk
      have hddiv : vf_n64 (FP.ddiv (FP.i2d (iZ (sumW L N T))) (FP.i2d (iZ (plR G T L N C * C)))) := by rw [show iZ (sumW L N T) = nI (sumW L N T).toNat by rw [iZ_n]; exact congrArg iZ (by omega), show iZ (plR G T L N C * C) = nI (plR G T L N C * C).toNat by rw [iZ_n]; exact congrArg iZ (by omega)]; exact ddiv_ok (by omega) (by omega) (by omega)
      refine lv_i2d hx hb dX9_usage_46 ?_
      refine lv_ddiv hx hb dX9_usage_47 hddiv ?_
      rw [← hE]
      exact xe_d (0, e110, f110, st110) hx hb hr hlocks hK hP hD hS (⟨(kSch_0 h9.1).symm, fun _ => by unfold usV; rw [← h9.2, if_neg (by omega)]⟩) dX9_usage_48
    · skip
      have h26 := (cE (iZ_toInt (by omega) (by omega)) z0_toInt).mp h26
      refine lv_dconst0 hx hb dX9_usage_29 ?_
      refine lv_goto (tgt := 48) hx hb dX9_usage_30 (by decide) ?_
      rw [← hE]
      exact xe_d (0, e110, f110, st110) hx hb hr hlocks hK hP hD hS (⟨(kSch_0 h9.1).symm, fun _ => by unfold usV; rw [← h9.2, if_pos (by omega)]⟩) dX9_usage_48
  · skip
    have h15 := (not_congr (cL z0_toInt (iZ_toInt (by omega) (by omega)))).mp h15
    refine lv_aload_n hx hb dX9_usage_18 rfl (lv_at hl 1 rfl) ?_
    refine lv_iconst (v := nI (1)) hx hb dX9_usage_19 (by decide) ?_
    refine xk_i [(na, .inl (ca 0, 442, .inl (zF sn))), (nf, .inl (ca 0, 20, .inl (zF e110))), (ng, .inl (ca 0, 20, .inl (zF f110))), (nh, .inl (ca 0, 20, .inl (zF st110)))] (fun u => [(mo, .inr (9, [.ref na, .ref nb, .ref nc, .ref nd, .int (bI (ms)), .int (nI mk), .ref ne, .int (nI my), .int (nI 1), .int (nI mp), .ref nf, .ref ng, .ref nh, .ref ni, .ref nj, .ref nl])), (na, .inl (ca 0, 442, .inl (zF sn))), (nf, .inl (ca 0, 20, .inl (zF e110))), (ng, .inl (ca 0, 20, .inl (zF f110))), (nh, .inl (ca 0, 20, .inl (zF st110)))]) (xk_V (As := [.int (nI 1)]) (rest := []) ⟨hx, hb, hml, hown, hts⟩ (mX9_fails l D ca H.size mo na nb nc nd ne nf ng nh ni nj nl ms mk my 0 mp 1 ) (cwV 1 hts gX9_usage_X9_fails rfl rfl rfl (by decide +kernel) ⟨Nat.le_of_ble_eq_true rfl, Nat.le_of_ble_eq_true rfl⟩) hK hP hD (va_recv (q := (RX9, TX9, 16)) hK hP (ci := 9) (q0 := 0) rfl rfl) [0] rfl rfl rfl hl.1 rfl (Nat.le_of_ble_eq_true rfl) dX9_usage_20 ⟨Nat.le_of_ble_eq_true rfl, Nat.le_of_ble_eq_true rfl⟩) hP hD hS hA [0] [1, 2, 3, 4] [4, 0, 1, 2, 3] rfl rfl rfl rfl (fun _ => rfl) rfl (fun r20 u20 H locs hw20 hP hD hS => ?_)
    have hw20 : r20 = nI 0 := hw20
    have hP : va_P D vwCl [(mo, .inr (9, [.ref na, .ref nb, .ref nc, .ref nd, .int (bI (ms)), .int (nI mk), .ref ne, .int (nI my), .int (nI 1), .int (nI mp), .ref nf, .ref ng, .ref nh, .ref ni, .ref nj, .ref nl])), (na, .inl (ca 0, 442, .inl (zF sn))), (nf, .inl (ca 0, 20, .inl (zF e110))), (ng, .inl (ca 0, 20, .inl (zF f110))), (nh, .inl (ca 0, 20, .inl (zF st110)))] H := hP
    have hD : va_D A [(mo, .inr (9, [.ref na, .ref nb, .ref nc, .ref nd, .int (bI (ms)), .int (nI mk), .ref ne, .int (nI my), .int (nI 1), .int (nI mp), .ref nf, .ref ng, .ref nh, .ref ni, .ref nj, .ref nl])), (na, .inl (ca 0, 442, .inl (zF sn))), (nf, .inl (ca 0, 20, .inl (zF e110))), (ng, .inl (ca 0, 20, .inl (zF f110))), (nh, .inl (ca 0, 20, .inl (zF st110)))] := hD
    have hwr20 := hw20
    subst hwr20
    refine lv_i2d hx hb dX9_usage_23 ?_
    have hp9 := plR_f (show plR G T L N C < 0 by omega)
    rw [← hE]
    exact xe_d (1, e110, f110, st110) hx hb hr hlocks hK hP hD hS (⟨(kSch_1 hp9).symm, fun h9 => absurd (h9.symm.trans (kSch_1 hp9)) (by decide)⟩) dX9_usage_24
def rX9_leastCrews : Room := { frames := 3, cells := 0, slots := 0, locals := 74 }
set_option maxHeartbeats 4000000 in
set_option maxRecDepth 100000 in
theorem mX9_leastCrews (l : Launch) (D : va_G) (ca : Nat → ClassId) (sz : Nat) (mo : Nat) (na : Nat) (nb : Nat) (nc : Nat) (nd : Nat) (ne : Nat) (nf : Nat) (ng : Nat) (nh : Nat) (ni : Nat) (nj : Nat) (nl : Nat) (ms : Bool) (mk : Nat) (my : Nat) (mt : Nat) (mp : Nat) (sn : Nat → Int) (sv : Nat → Int) (e : Nat → Int) (f : Nat → Int) (st : Nat → Int) (T : Nat) (En : Int) (C : Int) (L : Nat → Int) (N : Nat → Int) (G : Nat → Nat → Int) (hV : PSV T En C L N G) (hM : MS sn T C L N G) : MM l yX9_leastCrews wsX9_leastCrews rX9_leastCrews D ca [.ref mo] sz [(mo, .inr (9, [.ref na, .ref nb, .ref nc, .ref nd, .int (bI (ms)), .int (nI mk), .ref ne, .int (nI my), .int (nI mt), .int (nI mp), .ref nf, .ref ng, .ref nh, .ref ni, .ref nj, .ref nl])), (na, .inl (ca 0, 442, .inl (zF sn))), (nb, .inl (ca 0, 442, .inl (zF sv))), (nf, .inl (ca 0, 20, .inl (zF e))), (ng, .inl (ca 0, 20, .inl (zF f))), (nh, .inl (ca 0, 20, .inl (zF st)))] (QI D ca (fun (r : Int32) (u : Nat × (Nat → Int) × (Nat → Int) × (Nat → Int) × (Nat → Int)) => u.1 = kO (lcr G T L N (span G T L) (lst G T L) 9) ∧ ∀ c9, lcr G T L N (span G T L) (lst G T L) 9 = some c9 → r = nI c9) (fun u => [(mo, .inr (9, [.ref na, .ref nb, .ref nc, .ref nd, .int (bI (ms)), .int (nI mk), .ref ne, .int (nI my), .int (nI u.1), .int (nI mp), .ref nf, .ref ng, .ref nh, .ref ni, .ref nj, .ref nl])), (na, .inl (ca 0, 442, .inl (zF sn))), (nb, .inl (ca 0, 442, .inl (zF u.2.1))), (nf, .inl (ca 0, 20, .inl (zF u.2.2.1))), (ng, .inl (ca 0, 20, .inl (zF u.2.2.2.1))), (nh, .inl (ca 0, 20, .inl (zF u.2.2.2.2)))])) := by
  refine MM_of (cc := cX9_leastCrews) (maxL := 4) (ret := (some .int)) (lv0 := [(0, .ref mo)]) RX9 (by decide) rfl rfl (Nat.le_of_ble_eq_true rfl) rfl ?_
  intro pG eV s mI args below meth cO hx hb hr hml hts hown hlocks hnm A hA H locs hsz hP hK hD hS Q hE ls hl
  have f44 := hts (.fieldLink RX9 44 "SlackPlanModel" "thrown" "I") (List.mem_of_getElem? (i := 1) rfl)
  have inX9 : ∀ w ∈ u_ws RX9 TX9 16, w ∈ wsX9_leastCrews := in_r _ [42, 43, 44, 45, 46, 47, 48, 49, 50, 51, 52, 53, 54, 55, 56, 57] rfl
  have f7 := hts (.fieldLink RX9 7 "SlackPlanModel" "now" "[I") (List.mem_of_getElem? (i := 2) rfl)
  have f13 := hts (.fieldLink RX9 13 "SlackPlanModel" "then" "[I") (List.mem_of_getElem? (i := 3) rfl)
  obtain ⟨hT, hC9, hL30, hNk, hG, hac, hGo, hEn, hE40⟩ := hV
  have hLk := L30_LOK hL30
  have hs0 := hM.1
  have hs1 := hM.2.1
  refine lv_aload_n hx hb dX9_leastCrews_0 rfl (lv_at hl 0 rfl) ?_
  refine lv_iconst (v := nI (0)) hx hb dX9_leastCrews_1 (by decide) ?_
  refine va_put (D := D) (ci := 9) (v := .int (nI 0)) (ty := .int) (C := RX9) (T := TX9) (N := 16) hx hb hts inX9 tyX9 tyX9_ok nmX9 hown hK hP hD hS 0 rfl rfl 8 (by decide) f44 (fun _ h9 => h9) rfl (by decide +kernel) rfl rfl (Nat.le_of_ble_eq_true rfl) dX9_leastCrews_2 (fun H locs hP hD hS => ?_)
  have hP : va_P D vwCl [(mo, .inr (9, [.ref na, .ref nb, .ref nc, .ref nd, .int (bI (ms)), .int (nI mk), .ref ne, .int (nI my), .int (nI 0), .int (nI mp), .ref nf, .ref ng, .ref nh, .ref ni, .ref nj, .ref nl])), (na, .inl (ca 0, 442, .inl (zF sn))), (nb, .inl (ca 0, 442, .inl (zF sv))), (nf, .inl (ca 0, 20, .inl (zF e))), (ng, .inl (ca 0, 20, .inl (zF f))), (nh, .inl (ca 0, 20, .inl (zF st)))] H := hP
  have hD : va_D A [(mo, .inr (9, [.ref na, .ref nb, .ref nc, .ref nd, .int (bI (ms)), .int (nI mk), .ref ne, .int (nI my), .int (nI 0), .int (nI mp), .ref nf, .ref ng, .ref nh, .ref ni, .ref nj, .ref nl])), (na, .inl (ca 0, 442, .inl (zF sn))), (nb, .inl (ca 0, 442, .inl (zF sv))), (nf, .inl (ca 0, 20, .inl (zF e))), (ng, .inl (ca 0, 20, .inl (zF f))), (nh, .inl (ca 0, 20, .inl (zF st)))] := hD
  refine lv_aload_n hx hb dX9_leastCrews_5 rfl (lv_at hl 0 rfl) ?_
  refine lv_aload_n hx hb dX9_leastCrews_6 rfl (lv_at hl 0 rfl) ?_
  refine va_get (D := D) (ci := 9) (v := .ref na) (C := RX9) (T := TX9) (N := 16) hx hb hts inX9 hown hK hP 0 rfl rfl 0 (by decide) f7 (fun _ h9 => h9) rfl dX9_leastCrews_7 ?_
  refine xk_i [(nb, .inl (ca 0, 442, .inl (zF sv))), (ng, .inl (ca 0, 20, .inl (zF f))), (nh, .inl (ca 0, 20, .inl (zF st)))] (fun u => [(mo, .inr (9, [.ref na, .ref nb, .ref nc, .ref nd, .int (bI (ms)), .int (nI mk), .ref ne, .int (nI my), .int (nI 0), .int (nI mp), .ref nf, .ref ng, .ref nh, .ref ni, .ref nj, .ref nl])), (na, .inl (ca 0, 442, .inl (zF sn))), (nb, .inl (ca 0, 442, .inl (zF sv))), (nf, .inl (ca 0, 20, .inl (zF u))), (ng, .inl (ca 0, 20, .inl (zF f))), (nh, .inl (ca 0, 20, .inl (zF st)))]) (xk_V (As := [.ref na]) (rest := []) ⟨hx, hb, hml, hown, hts⟩ (mX9_starts l D ca H.size mo na nb nc nd ne nf ng nh ni nj nl ms mk my 0 mp na sn e T C L N G (by omega) hG hac hGo hM hLk) (cwV 1 hts gX9_leastCrews_X9_starts rfl rfl rfl (by decide +kernel) ⟨Nat.le_of_ble_eq_true rfl, Nat.le_of_ble_eq_true rfl⟩) hK hP hD (va_recv (q := (RX9, TX9, 16)) hK hP (ci := 9) (q0 := 0) rfl rfl) [0, 3, 1] rfl rfl rfl hl.1 rfl (Nat.le_of_ble_eq_true rfl) dX9_leastCrews_10 ⟨Nat.le_of_ble_eq_true rfl, Nat.le_of_ble_eq_true rfl⟩) hP hD hS hA [0, 3, 1] [2, 4, 5] [3, 5, 0, 4, 1, 2] rfl rfl rfl rfl (fun _ => rfl) rfl (fun r10 u10 H locs hw10 hP hD hS => ?_)
  obtain ⟨e110, hu10⟩ : ∃ z, z = u10 := ⟨_, rfl⟩
  subst hu10
  have hw10 : r10 = iZ (span G T L) ∧ ∀ j, j < T → e110 j = es G T L j := hw10
  have hP : va_P D vwCl [(mo, .inr (9, [.ref na, .ref nb, .ref nc, .ref nd, .int (bI (ms)), .int (nI mk), .ref ne, .int (nI my), .int (nI 0), .int (nI mp), .ref nf, .ref ng, .ref nh, .ref ni, .ref nj, .ref nl])), (na, .inl (ca 0, 442, .inl (zF sn))), (nb, .inl (ca 0, 442, .inl (zF sv))), (nf, .inl (ca 0, 20, .inl (zF e110))), (ng, .inl (ca 0, 20, .inl (zF f))), (nh, .inl (ca 0, 20, .inl (zF st)))] H := hP
  have hD : va_D A [(mo, .inr (9, [.ref na, .ref nb, .ref nc, .ref nd, .int (bI (ms)), .int (nI mk), .ref ne, .int (nI my), .int (nI 0), .int (nI mp), .ref nf, .ref ng, .ref nh, .ref ni, .ref nj, .ref nl])), (na, .inl (ca 0, 442, .inl (zF sn))), (nb, .inl (ca 0, 442, .inl (zF sv))), (nf, .inl (ca 0, 20, .inl (zF e110))), (ng, .inl (ca 0, 20, .inl (zF f))), (nh, .inl (ca 0, 20, .inl (zF st)))] := hD
  obtain ⟨hwr10, hv10⟩ := hw10
  subst hwr10
  refine lv_istore_n (lv' := [(1, .int (iZ (span G T L))), (0, .ref mo)]) hx hb dX9_leastCrews_13 rfl hl (by decide) rfl (fun ls hl => ?_)
  refine lv_aload_n hx hb dX9_leastCrews_14 rfl (lv_at hl 1 rfl) ?_
  refine va_get (D := D) (ci := 9) (v := .ref na) (C := RX9) (T := TX9) (N := 16) hx hb hts inX9 hown hK hP 0 rfl rfl 0 (by decide) f7 (fun _ h9 => h9) rfl dX9_leastCrews_15 ?_
  refine lv_iconst (v := nI (0)) hx hb dX9_leastCrews_18 (by decide) ?_
  refine lv_aload_n hx hb dX9_leastCrews_19 rfl (lv_at hl 1 rfl) ?_
  refine va_get (D := D) (ci := 9) (v := .ref nb) (C := RX9) (T := TX9) (N := 16) hx hb hts inX9 hown hK hP 0 rfl rfl 1 (by decide) f13 (fun _ h9 => h9) rfl dX9_leastCrews_20 ?_
  refine lv_iconst (v := nI (0)) hx hb dX9_leastCrews_23 (by decide) ?_
  refine xk_v [(mo, .inr (9, [.ref na, .ref nb, .ref nc, .ref nd, .int (bI (ms)), .int (nI mk), .ref ne, .int (nI my), .int (nI 0), .int (nI mp), .ref nf, .ref ng, .ref nh, .ref ni, .ref nj, .ref nl])), (nf, .inl (ca 0, 20, .inl (zF e110))), (ng, .inl (ca 0, 20, .inl (zF f))), (nh, .inl (ca 0, 20, .inl (zF st)))] (fun u => [(mo, .inr (9, [.ref na, .ref nb, .ref nc, .ref nd, .int (bI (ms)), .int (nI mk), .ref ne, .int (nI my), .int (nI 0), .int (nI mp), .ref nf, .ref ng, .ref nh, .ref ni, .ref nj, .ref nl])), (na, .inl (ca 0, 442, .inl (zF sn))), (nb, .inl (ca 0, 442, .inl (zF (cpF sn 0 sv 0 442)))), (nf, .inl (ca 0, 20, .inl (zF e110))), (ng, .inl (ca 0, 20, .inl (zF f))), (nh, .inl (ca 0, 20, .inl (zF st)))]) (xk_S (As := [.ref na, .int (nI 0), .ref nb, .int (nI 0)]) (rest := []) ⟨hx, hb, hml, hown, hts⟩ (mX9_copies l D ca H.size na nb 442 442 sn sv 0 0 (by omega) (by omega)) (va_cwS 4 hts gX9_leastCrews_X9_copies rfl rfl rfl (by decide +kernel) ⟨Nat.le_of_ble_eq_true rfl, Nat.le_of_ble_eq_true rfl⟩) hK hP hD [1, 2] rfl rfl rfl hl.1 rfl (Nat.le_of_ble_eq_true rfl) dX9_leastCrews_24 ⟨Nat.le_of_ble_eq_true rfl, Nat.le_of_ble_eq_true rfl⟩) hP hD hS hA [1, 2] [0, 3, 4, 5] [0, 4, 5, 1, 2, 3] rfl rfl rfl rfl (fun _ => rfl) rfl (fun u24 H locs hw24 hP hD hS => ?_)
  have hw24 : True := hw24
  have hP : va_P D vwCl [(mo, .inr (9, [.ref na, .ref nb, .ref nc, .ref nd, .int (bI (ms)), .int (nI mk), .ref ne, .int (nI my), .int (nI 0), .int (nI mp), .ref nf, .ref ng, .ref nh, .ref ni, .ref nj, .ref nl])), (na, .inl (ca 0, 442, .inl (zF sn))), (nb, .inl (ca 0, 442, .inl (zF (cpF sn 0 sv 0 442)))), (nf, .inl (ca 0, 20, .inl (zF e110))), (ng, .inl (ca 0, 20, .inl (zF f))), (nh, .inl (ca 0, 20, .inl (zF st)))] H := hP
  have hD : va_D A [(mo, .inr (9, [.ref na, .ref nb, .ref nc, .ref nd, .int (bI (ms)), .int (nI mk), .ref ne, .int (nI my), .int (nI 0), .int (nI mp), .ref nf, .ref ng, .ref nh, .ref ni, .ref nj, .ref nl])), (na, .inl (ca 0, 442, .inl (zF sn))), (nb, .inl (ca 0, 442, .inl (zF (cpF sn 0 sv 0 442)))), (nf, .inl (ca 0, 20, .inl (zF e110))), (ng, .inl (ca 0, 20, .inl (zF f))), (nh, .inl (ca 0, 20, .inl (zF st)))] := hD
  refine lv_iconst (v := nI (1)) hx hb dX9_leastCrews_27 (by decide) ?_
  refine lv_istore_n (lv' := [(2, .int (nI 1)), (1, .int (iZ (span G T L))), (0, .ref mo)]) hx hb dX9_leastCrews_28 rfl hl (by decide) rfl (fun ls hl => ?_)
  have L29 : ∀ (fu : Nat) (cr : Nat) (sv2 : Nat → Int) (e2 : Nat → Int) (f2 : Nat → Int) (st2 : Nat → Int) (c0 : Int), (1 ≤ cr ∧ cr ≤ 10) → (MS sv2 T c0 L N G) → (lcr G T L N (span G T L) (lst G T L) 9 = lcr G T L N (span G T L) (lst G T L) (10 - cr)) → (10 - cr) < fu → ∀ (H : Heap) (locs : List Loc), va_P D vwCl [(mo, .inr (9, [.ref na, .ref nb, .ref nc, .ref nd, .int (bI (ms)), .int (nI mk), .ref ne, .int (nI my), .int (nI 0), .int (nI mp), .ref nf, .ref ng, .ref nh, .ref ni, .ref nj, .ref nl])), (na, .inl (ca 0, 442, .inl (zF sn))), (nb, .inl (ca 0, 442, .inl (zF sv2))), (nf, .inl (ca 0, 20, .inl (zF e2))), (ng, .inl (ca 0, 20, .inl (zF f2))), (nh, .inl (ca 0, 20, .inl (zF st2)))] H → va_D A [(mo, .inr (9, [.ref na, .ref nb, .ref nc, .ref nd, .int (bI (ms)), .int (nI mk), .ref ne, .int (nI my), .int (nI 0), .int (nI mp), .ref nf, .ref ng, .ref nh, .ref ni, .ref nj, .ref nl])), (na, .inl (ca 0, 442, .inl (zF sn))), (nb, .inl (ca 0, 442, .inl (zF sv2))), (nf, .inl (ca 0, 20, .inl (zF e2))), (ng, .inl (ca 0, 20, .inl (zF f2))), (nh, .inl (ca 0, 20, .inl (zF st2)))] → va_S A s.heap H locs → ∀ ls : Array Slot, lv_has ls 4 [(2, .int (nI cr)), (1, .int (iZ (span G T L))), (0, .ref mo)] → W pG l eV rX9_leastCrews s mI args below meth cO H locs 0 0 Q (F0 mI 29 ls []) := by
    clear hP hD hS hl
    intro fu; induction fu with
    | zero => intro cr sv2 e2 f2 st2 c0 hcr hMS hlc hmu; exact absurd hmu (Nat.not_lt_zero _)
    | succ n29 ih29 =>
      intro cr sv2 e2 f2 st2 c0 hcr hMS hlc hmu29 H locs hP hD hS ls hl
      refine lv_iload_n hx hb dX9_leastCrews_29 rfl (lv_at hl 0 rfl) ?_
      refine lv_bipush (v := nI (9)) hx hb dX9_leastCrews_30 (by decide) ?_
      refine lv_icmp_gt (tgt := 68) hx hb dX9_leastCrews_32 (by decide) (fun h32 => ?_) (fun h32 => ?_)
      · skip
        have h32 := (cT (nI_toInt (by omega)) (nI_toInt (by omega))).mp h32
        refine lv_aload_n hx hb dX9_leastCrews_68 rfl (lv_at hl 2 rfl) ?_
        refine lv_iconst (v := nI (1)) hx hb dX9_leastCrews_69 (by decide) ?_
        refine xk_i [(na, .inl (ca 0, 442, .inl (zF sn))), (nb, .inl (ca 0, 442, .inl (zF sv2))), (nf, .inl (ca 0, 20, .inl (zF e2))), (ng, .inl (ca 0, 20, .inl (zF f2))), (nh, .inl (ca 0, 20, .inl (zF st2)))] (fun u => [(mo, .inr (9, [.ref na, .ref nb, .ref nc, .ref nd, .int (bI (ms)), .int (nI mk), .ref ne, .int (nI my), .int (nI 1), .int (nI mp), .ref nf, .ref ng, .ref nh, .ref ni, .ref nj, .ref nl])), (na, .inl (ca 0, 442, .inl (zF sn))), (nb, .inl (ca 0, 442, .inl (zF sv2))), (nf, .inl (ca 0, 20, .inl (zF e2))), (ng, .inl (ca 0, 20, .inl (zF f2))), (nh, .inl (ca 0, 20, .inl (zF st2)))]) (xk_V (As := [.int (nI 1)]) (rest := []) ⟨hx, hb, hml, hown, hts⟩ (mX9_fails l D ca H.size mo na nb nc nd ne nf ng nh ni nj nl ms mk my 0 mp 1 ) (cwV 1 hts gX9_leastCrews_X9_fails rfl rfl rfl (by decide +kernel) ⟨Nat.le_of_ble_eq_true rfl, Nat.le_of_ble_eq_true rfl⟩) hK hP hD (va_recv (q := (RX9, TX9, 16)) hK hP (ci := 9) (q0 := 0) rfl rfl) [0] rfl rfl rfl hl.1 rfl (Nat.le_of_ble_eq_true rfl) dX9_leastCrews_70 ⟨Nat.le_of_ble_eq_true rfl, Nat.le_of_ble_eq_true rfl⟩) hP hD hS hA [0] [1, 2, 3, 4, 5] [5, 0, 1, 2, 3, 4] rfl rfl rfl rfl (fun _ => rfl) rfl (fun r70 u70 H locs hw70 hP hD hS => ?_)
        have hw70 : r70 = nI 0 := hw70
        have hP : va_P D vwCl [(mo, .inr (9, [.ref na, .ref nb, .ref nc, .ref nd, .int (bI (ms)), .int (nI mk), .ref ne, .int (nI my), .int (nI 1), .int (nI mp), .ref nf, .ref ng, .ref nh, .ref ni, .ref nj, .ref nl])), (na, .inl (ca 0, 442, .inl (zF sn))), (nb, .inl (ca 0, 442, .inl (zF sv2))), (nf, .inl (ca 0, 20, .inl (zF e2))), (ng, .inl (ca 0, 20, .inl (zF f2))), (nh, .inl (ca 0, 20, .inl (zF st2)))] H := hP
        have hD : va_D A [(mo, .inr (9, [.ref na, .ref nb, .ref nc, .ref nd, .int (bI (ms)), .int (nI mk), .ref ne, .int (nI my), .int (nI 1), .int (nI mp), .ref nf, .ref ng, .ref nh, .ref ni, .ref nj, .ref nl])), (na, .inl (ca 0, 442, .inl (zF sn))), (nb, .inl (ca 0, 442, .inl (zF sv2))), (nf, .inl (ca 0, 20, .inl (zF e2))), (ng, .inl (ca 0, 20, .inl (zF f2))), (nh, .inl (ca 0, 20, .inl (zF st2)))] := hD
        have hwr70 := hw70
        subst hwr70
        have h8 : lcr G T L N (span G T L) (lst G T L) 9 = none := by rw [hlc, show 10 - cr = 0 by omega]; rfl
        rw [← hE]
        exact xe_i (1, sv2, e2, f2, st2) hx hb hr hlocks hK hP hD hS (⟨by rw [h8]; rfl, fun c9 h7 => by rw [h8] at h7; cases h7⟩) dX9_leastCrews_73
      · skip
        have h32 := (not_congr (cT (nI_toInt (by omega)) (nI_toInt (by omega)))).mp h32
        refine lv_aload_n hx hb dX9_leastCrews_35 rfl (lv_at hl 2 rfl) ?_
        refine va_get (D := D) (ci := 9) (v := .ref nb) (C := RX9) (T := TX9) (N := 16) hx hb hts inX9 hown hK hP 0 rfl rfl 1 (by decide) f13 (fun _ h9 => h9) rfl dX9_leastCrews_36 ?_
        refine lv_iconst (v := nI (1)) hx hb dX9_leastCrews_39 (by decide) ?_
        refine lv_iload_n hx hb dX9_leastCrews_40 rfl (lv_at hl 0 rfl) ?_
        refine xr_iast hx hb hK hP hD hS 2 0 rfl rfl (by omega) (Nat.le_of_ble_eq_true rfl) (zF (upZ sv2 1 ((cr : Nat) : Int))) (fun _ _ => zF_upn _ _ _ _) dX9_leastCrews_41 (fun H locs hP hD hS => ?_)
        have hP : va_P D vwCl [(mo, .inr (9, [.ref na, .ref nb, .ref nc, .ref nd, .int (bI (ms)), .int (nI mk), .ref ne, .int (nI my), .int (nI 0), .int (nI mp), .ref nf, .ref ng, .ref nh, .ref ni, .ref nj, .ref nl])), (na, .inl (ca 0, 442, .inl (zF sn))), (nb, .inl (ca 0, 442, .inl (zF (upZ sv2 1 ((cr : Nat) : Int))))), (nf, .inl (ca 0, 20, .inl (zF e2))), (ng, .inl (ca 0, 20, .inl (zF f2))), (nh, .inl (ca 0, 20, .inl (zF st2)))] H := hP
        have hD : va_D A [(mo, .inr (9, [.ref na, .ref nb, .ref nc, .ref nd, .int (bI (ms)), .int (nI mk), .ref ne, .int (nI my), .int (nI 0), .int (nI mp), .ref nf, .ref ng, .ref nh, .ref ni, .ref nj, .ref nl])), (na, .inl (ca 0, 442, .inl (zF sn))), (nb, .inl (ca 0, 442, .inl (zF (upZ sv2 1 ((cr : Nat) : Int))))), (nf, .inl (ca 0, 20, .inl (zF e2))), (ng, .inl (ca 0, 20, .inl (zF f2))), (nh, .inl (ca 0, 20, .inl (zF st2)))] := hD
        refine lv_aload_n hx hb dX9_leastCrews_42 rfl (lv_at hl 2 rfl) ?_
        refine lv_aload_n hx hb dX9_leastCrews_43 rfl (lv_at hl 2 rfl) ?_
        refine va_get (D := D) (ci := 9) (v := .ref nb) (C := RX9) (T := TX9) (N := 16) hx hb hts inX9 hown hK hP 0 rfl rfl 1 (by decide) f13 (fun _ h9 => h9) rfl dX9_leastCrews_44 ?_
        refine xk_i [(na, .inl (ca 0, 442, .inl (zF sn)))] (fun u => [(mo, .inr (9, [.ref na, .ref nb, .ref nc, .ref nd, .int (bI (ms)), .int (nI mk), .ref ne, .int (nI my), .int (nI 0), .int (nI mp), .ref nf, .ref ng, .ref nh, .ref ni, .ref nj, .ref nl])), (na, .inl (ca 0, 442, .inl (zF sn))), (nb, .inl (ca 0, 442, .inl (zF (upZ sv2 1 ((cr : Nat) : Int))))), (nf, .inl (ca 0, 20, .inl (zF u.1))), (ng, .inl (ca 0, 20, .inl (zF u.2.1))), (nh, .inl (ca 0, 20, .inl (zF u.2.2)))]) (xk_V (As := [.ref nb]) (rest := []) ⟨hx, hb, hml, hown, hts⟩ (mX9_plans l D ca H.size mo na nb nc nd ne nf ng nh ni nj nl ms mk my 0 mp nb (upZ sv2 1 ((cr : Nat) : Int)) e2 f2 st2 T ((cr : Nat) : Int) L N G (by omega) hG hac hGo (MS_up1 hMS) hL30 hNk (by omega)) (cwV 1 hts gX9_leastCrews_X9_plans rfl rfl rfl (by decide +kernel) ⟨Nat.le_of_ble_eq_true rfl, Nat.le_of_ble_eq_true rfl⟩) hK hP hD (va_recv (q := (RX9, TX9, 16)) hK hP (ci := 9) (q0 := 0) rfl rfl) [0, 3, 4, 5, 2] rfl rfl rfl hl.1 rfl (Nat.le_of_ble_eq_true rfl) dX9_leastCrews_47 ⟨Nat.le_of_ble_eq_true rfl, Nat.le_of_ble_eq_true rfl⟩) hP hD hS hA [0, 3, 4, 5, 2] [1] [1, 0, 5, 2, 3, 4] rfl rfl rfl rfl (fun _ => rfl) rfl (fun r47 u47 H locs hw47 hP hD hS => ?_)
        obtain ⟨e147, f147, st147⟩ := u47
        have hw47 : r47 = iZ (plR G T L N ((cr : Nat) : Int)) ∧ (nOK N ((cr : Nat) : Int) T = true → ∀ t, t < T → st147 t = SCH G T L N (lst G T L) ((cr : Nat) : Int) T t ∧ -1 ≤ st147 t ∧ st147 t ≤ 1000) ∧ -1 ≤ plR G T L N ((cr : Nat) : Int) ∧ plR G T L N ((cr : Nat) : Int) ≤ 900 := hw47
        have hP : va_P D vwCl [(mo, .inr (9, [.ref na, .ref nb, .ref nc, .ref nd, .int (bI (ms)), .int (nI mk), .ref ne, .int (nI my), .int (nI 0), .int (nI mp), .ref nf, .ref ng, .ref nh, .ref ni, .ref nj, .ref nl])), (na, .inl (ca 0, 442, .inl (zF sn))), (nb, .inl (ca 0, 442, .inl (zF (upZ sv2 1 ((cr : Nat) : Int))))), (nf, .inl (ca 0, 20, .inl (zF e147))), (ng, .inl (ca 0, 20, .inl (zF f147))), (nh, .inl (ca 0, 20, .inl (zF st147)))] H := hP
        have hD : va_D A [(mo, .inr (9, [.ref na, .ref nb, .ref nc, .ref nd, .int (bI (ms)), .int (nI mk), .ref ne, .int (nI my), .int (nI 0), .int (nI mp), .ref nf, .ref ng, .ref nh, .ref ni, .ref nj, .ref nl])), (na, .inl (ca 0, 442, .inl (zF sn))), (nb, .inl (ca 0, 442, .inl (zF (upZ sv2 1 ((cr : Nat) : Int))))), (nf, .inl (ca 0, 20, .inl (zF e147))), (ng, .inl (ca 0, 20, .inl (zF f147))), (nh, .inl (ca 0, 20, .inl (zF st147)))] := hD
        obtain ⟨hwr47, hv47⟩ := hw47
        subst hwr47
        refine lv_istore_n (lv' := [(3, .int (iZ (plR G T L N ((cr : Nat) : Int)))), (2, .int (nI cr)), (1, .int (iZ (span G T L))), (0, .ref mo)]) hx hb dX9_leastCrews_50 rfl hl (by decide) rfl (fun ls hl => ?_)
        have hq9 := hv47.2
        have hsp1 := span_le hT hG hLk
        have hsp0 := span_0 (G := G) (T := T) (L := L)
        refine lv_iload_n hx hb dX9_leastCrews_51 rfl (lv_at hl 0 rfl) ?_
        refine lv_if_lt (tgt := 62) hx hb dX9_leastCrews_52 (by decide) (fun h52 => ?_) (fun h52 => ?_)
        · skip
          have h52 := (cT (iZ_toInt (by omega) (by omega)) z0_toInt).mp h52
          refine lv_iinc (v := nI (cr + 1)) (lv' := [(2, .int (nI (cr + 1))), (3, .int (iZ (plR G T L N ((cr : Nat) : Int)))), (1, .int (iZ (span G T L))), (0, .ref mo)]) hx hb dX9_leastCrews_62 hl (k := 1) rfl (nI_add _ 1) (by decide) rfl (fun ls hl => ?_)
          refine lv_goto (tgt := 29) hx hb dX9_leastCrews_65 (by decide) ?_
          exact ih29 (cr + 1) (upZ sv2 1 ((cr : Nat) : Int)) e147 f147 st147 ((cr : Nat) : Int) (by omega) (MS_up1 hMS) (hlc.trans (lcr_no hcr (by omega) (by rintro ⟨h9, h8⟩; have h7 := plR_f (show plR G T L N ((cr : Nat) : Int) < 0 by omega); rw [h7] at h9; cases h9))) (by omega) _ _ hP hD hS _ (lv_sub hl [0, 2, 3] rfl)
        · skip
          have h52 := (not_congr (cT (iZ_toInt (by omega) (by omega)) z0_toInt)).mp h52
          refine lv_iload_n hx hb dX9_leastCrews_55 rfl (lv_at hl 0 rfl) ?_
          refine lv_iload_n hx hb dX9_leastCrews_56 rfl (lv_at hl 2 rfl) ?_
          refine lv_icmp_gt (tgt := 62) hx hb dX9_leastCrews_57 (by decide) (fun h57 => ?_) (fun h57 => ?_)
          · skip
            have h57 := (cT (iZ_toInt (by omega) (by omega)) (iZ_toInt (by omega) (by omega))).mp h57
            refine lv_iinc (v := nI (cr + 1)) (lv' := [(2, .int (nI (cr + 1))), (3, .int (iZ (plR G T L N ((cr : Nat) : Int)))), (1, .int (iZ (span G T L))), (0, .ref mo)]) hx hb dX9_leastCrews_62 hl (k := 1) rfl (nI_add _ 1) (by decide) rfl (fun ls hl => ?_)
            refine lv_goto (tgt := 29) hx hb dX9_leastCrews_65 (by decide) ?_
            exact ih29 (cr + 1) (upZ sv2 1 ((cr : Nat) : Int)) e147 f147 st147 ((cr : Nat) : Int) (by omega) (MS_up1 hMS) (hlc.trans (lcr_no hcr (by omega) (by rintro ⟨h9, h8⟩; have h7 := (plR_t (show 0 ≤ plR G T L N ((cr : Nat) : Int) by omega)).2; omega))) (by omega) _ _ hP hD hS _ (lv_sub hl [0, 2, 3] rfl)
          · skip
            have h57 := (not_congr (cT (iZ_toInt (by omega) (by omega)) (iZ_toInt (by omega) (by omega)))).mp h57
            refine lv_iload_n hx hb dX9_leastCrews_60 rfl (lv_at hl 1 rfl) ?_
            have h9 := plR_t (show 0 ≤ plR G T L N ((cr : Nat) : Int) by omega)
            have h8 := hlc.trans (lcr_y hcr (by omega) h9.1 (by omega))
            rw [← hE]
            exact xe_i (0, (upZ sv2 1 ((cr : Nat) : Int)), e147, f147, st147) hx hb hr hlocks hK hP hD hS (⟨by rw [h8]; rfl, fun c9 h7 => by rw [h8] at h7; cases h7; rfl⟩) dX9_leastCrews_61
  exact L29 _ 1 (cpF sn 0 sv 0 442) e110 f st C (by omega) (MS_cp hM hT) rfl (Nat.lt_succ_self _) _ _ hP hD hS _ (lv_sub hl [0, 1, 2] rfl)

