def rX9_next : Room := { frames := 1, cells := 0, slots := 0, locals := 22 }
set_option maxHeartbeats 4000000 in
set_option maxRecDepth 100000 in
theorem mX9_next (l : Launch) (D : va_G) (ca : Nat → ClassId) (sz : Nat) (mo : Nat) (na : Nat) (nb : Nat) (nc : Nat) (nd : Nat) (ne : Nat) (nf : Nat) (ng : Nat) (nh : Nat) (ni : Nat) (nj : Nat) (nl : Nat) (ms : Bool) (mk : Nat) (my : Nat) (mt : Nat) (mp : Nat) (sg : Nat → Int) (lo : Nat) (hi : Nat) (dd : Nat) (hmy : my ≤ 60) (hsg : ∀ j, j < 60 → 0 ≤ sg j ∧ sg j ≤ 65535) (hmp : mp ≤ my) (hhi : hi = lo + dd ∧ hi ≤ 60000) : MM l yX9_next wsX9_next rX9_next D ca [.ref mo, .int (nI lo), .int (nI hi)] sz [(mo, .inr (9, [.ref na, .ref nb, .ref nc, .ref nd, .int (bI (ms)), .int (nI mk), .ref ne, .int (nI my), .int (nI mt), .int (nI mp), .ref nf, .ref ng, .ref nh, .ref ni, .ref nj, .ref nl])), (ne, .inl (ca 0, 60, .inl (zF sg)))] (QI D ca (fun (r : Int32) (u : Nat) => r = iZ (rdV sg my mp lo 0 dd) ∧ u = rdP sg my mp lo 0 dd) (fun u => [(mo, .inr (9, [.ref na, .ref nb, .ref nc, .ref nd, .int (bI (ms)), .int (nI mk), .ref ne, .int (nI my), .int (nI mt), .int (nI u), .ref nf, .ref ng, .ref nh, .ref ni, .ref nj, .ref nl])), (ne, .inl (ca 0, 60, .inl (zF sg)))])) := by
  refine MM_of (cc := cX9_next) (maxL := 3) (ret := (some .int)) (lv0 := [(0, .ref mo), (1, .int (nI lo)), (2, .int (nI hi))]) RX9 (by decide) rfl rfl (Nat.le_of_ble_eq_true rfl) rfl ?_
  intro pG eV s mI args below meth cO hx hb hr hml hts hown hlocks hnm A hA H locs hsz hP hK hD hS Q hE ls hl
  have f105 := hts (.fieldLink RX9 105 "SlackPlanModel" "at" "I") (List.mem_of_getElem? (i := 1) rfl)
  have inX9 : ∀ w ∈ u_ws RX9 TX9 16, w ∈ wsX9_next := in_r _ [8, 9, 10, 11, 12, 13, 14, 15, 16, 17, 18, 19, 20, 21, 22, 23] rfl
  have f108 := hts (.fieldLink RX9 108 "SlackPlanModel" "typed" "I") (List.mem_of_getElem? (i := 2) rfl)
  have f22 := hts (.fieldLink RX9 22 "SlackPlanModel" "text" "[I") (List.mem_of_getElem? (i := 3) rfl)
  refine lv_aload_n hx hb dX9_next_0 rfl (lv_at hl 0 rfl) ?_
  refine va_get (D := D) (ci := 9) (v := .int (nI mp)) (C := RX9) (T := TX9) (N := 16) hx hb hts inX9 hown hK hP 0 rfl rfl 9 (by decide) f105 (fun _ h9 => h9) rfl dX9_next_1 ?_
  refine lv_aload_n hx hb dX9_next_4 rfl (lv_at hl 0 rfl) ?_
  refine va_get (D := D) (ci := 9) (v := .int (nI my)) (C := RX9) (T := TX9) (N := 16) hx hb hts inX9 hown hK hP 0 rfl rfl 7 (by decide) f108 (fun _ h9 => h9) rfl dX9_next_5 ?_
  refine lv_icmp_ge (tgt := 52) hx hb dX9_next_8 (by decide) (fun h8 => ?_) (fun h8 => ?_)
  · skip
    have h8 := (cL (nI_toInt (by omega)) (nI_toInt (by omega))).mp h8
    refine lv_iconst (v := iZ (-1)) hx hb dX9_next_52 (by decide) ?_
    rw [← hE]
    exact xe_i (mp) hx hb hr hlocks hK hP hD hS (rd_f (by omega)) dX9_next_53
  · skip
    have h8 := (not_congr (cL (nI_toInt (by omega)) (nI_toInt (by omega)))).mp h8
    refine lv_aload_n hx hb dX9_next_11 rfl (lv_at hl 0 rfl) ?_
    refine va_get (D := D) (ci := 9) (v := .ref ne) (C := RX9) (T := TX9) (N := 16) hx hb hts inX9 hown hK hP 0 rfl rfl 6 (by decide) f22 (fun _ h9 => h9) rfl dX9_next_12 ?_
    refine lv_aload_n hx hb dX9_next_15 rfl (lv_at hl 0 rfl) ?_
    refine va_get (D := D) (ci := 9) (v := .int (nI mp)) (C := RX9) (T := TX9) (N := 16) hx hb hts inX9 hown hK hP 0 rfl rfl 9 (by decide) f105 (fun _ h9 => h9) rfl dX9_next_16 ?_
    refine xr_iald hx hb hK hP 1 0 rfl rfl (by omega) (Nat.le_of_ble_eq_true rfl) (v := iZ (sg mp)) rfl dX9_next_19 ?_
    refine lv_iload_n hx hb dX9_next_20 rfl (lv_at hl 1 rfl) ?_
    refine lv_iload_n hx hb dX9_next_21 rfl (lv_at hl 2 rfl) ?_
    refine xk_pi (xk_S (As := [.int (iZ (sg mp)), .int (nI lo), .int (nI hi)]) (rest := []) ⟨hx, hb, hml, hown, hts⟩ (mX9_in l D ca H.size (iZ (sg mp)) (nI (lo)) (nI (hi)) ) (va_cwS 3 hts gX9_next_X9_in rfl rfl rfl (by decide +kernel) ⟨Nat.le_of_ble_eq_true rfl, Nat.le_of_ble_eq_true rfl⟩) hK hP hD [] rfl rfl rfl hl.1 rfl (Nat.le_of_ble_eq_true rfl) dX9_next_22 ⟨Nat.le_of_ble_eq_true rfl, Nat.le_of_ble_eq_true rfl⟩) hP hD hS hA [] rfl ⟨rfl, rfl⟩ (fun r22 H locs hw22 hP hS => ?_)
    have hw22 : r22 = bI (inB (iZ (sg mp)) (nI (lo)) (nI (hi))) := hw22
    subst hw22
    refine lv_if_eq (tgt := 52) hx hb dX9_next_25 (by decide) (fun h25 => ?_) (fun h25 => ?_)
    · skip
      have h25 := bI_0.mp h25
      have h25 := (not_congr (inB_iff (sg mp) lo hi (by have := hsg mp (by omega); omega) (by omega))).mp (by rw [h25]; exact Bool.noConfusion)
      refine lv_iconst (v := iZ (-1)) hx hb dX9_next_52 (by decide) ?_
      rw [← hE]
      exact xe_i (mp) hx hb hr hlocks hK hP hD hS (rd_f (by omega)) dX9_next_53
    · skip
      have h25 := bI_n0.mp h25
      have h25 := (inB_iff (sg mp) lo hi (by have := hsg mp (by omega); omega) (by omega)).mp h25
      refine lv_aload_n hx hb dX9_next_28 rfl (lv_at hl 0 rfl) ?_
      refine lv_dup hx hb dX9_next_29 rfl ?_
      refine va_get (D := D) (ci := 9) (v := .int (nI mp)) (C := RX9) (T := TX9) (N := 16) hx hb hts inX9 hown hK hP 0 rfl rfl 9 (by decide) f105 (fun _ h9 => h9) rfl dX9_next_30 ?_
      refine lv_iconst (v := nI (1)) hx hb dX9_next_33 (by decide) ?_
      refine xr_iadd hx hb dX9_next_34 ?_
      refine va_put (D := D) (ci := 9) (v := .int (nI (mp + 1))) (ty := .int) (C := RX9) (T := TX9) (N := 16) hx hb hts inX9 tyX9 tyX9_ok nmX9 hown hK hP hD hS 0 rfl rfl 9 (by decide) f105 (fun _ h9 => h9) rfl (by decide +kernel) rfl rfl (Nat.le_of_ble_eq_true rfl) dX9_next_35 (fun H locs hP hD hS => ?_)
      have hP : va_P D vwCl [(mo, .inr (9, [.ref na, .ref nb, .ref nc, .ref nd, .int (bI (ms)), .int (nI mk), .ref ne, .int (nI my), .int (nI mt), .int (nI (mp + 1)), .ref nf, .ref ng, .ref nh, .ref ni, .ref nj, .ref nl])), (ne, .inl (ca 0, 60, .inl (zF sg)))] H := hP
      have hD : va_D A [(mo, .inr (9, [.ref na, .ref nb, .ref nc, .ref nd, .int (bI (ms)), .int (nI mk), .ref ne, .int (nI my), .int (nI mt), .int (nI (mp + 1)), .ref nf, .ref ng, .ref nh, .ref ni, .ref nj, .ref nl])), (ne, .inl (ca 0, 60, .inl (zF sg)))] := hD
      refine lv_aload_n hx hb dX9_next_38 rfl (lv_at hl 0 rfl) ?_
      refine va_get (D := D) (ci := 9) (v := .ref ne) (C := RX9) (T := TX9) (N := 16) hx hb hts inX9 hown hK hP 0 rfl rfl 6 (by decide) f22 (fun _ h9 => h9) rfl dX9_next_39 ?_
      refine lv_aload_n hx hb dX9_next_42 rfl (lv_at hl 0 rfl) ?_
      refine va_get (D := D) (ci := 9) (v := .int (nI (mp + 1))) (C := RX9) (T := TX9) (N := 16) hx hb hts inX9 hown hK hP 0 rfl rfl 9 (by decide) f105 (fun _ h9 => h9) rfl dX9_next_43 ?_
      refine lv_iconst (v := nI (1)) hx hb dX9_next_46 (by decide) ?_
      refine xr_isub_nn hx hb dX9_next_47 ?_
      refine xr_top (y := nI (mp)) (by rw [iZ_n]; exact congrArg iZ (by omega)) ?_
      refine xr_iald hx hb hK hP 1 0 rfl rfl (by omega) (Nat.le_of_ble_eq_true rfl) (v := iZ (sg mp)) rfl dX9_next_48 ?_
      refine lv_iload_n hx hb dX9_next_49 rfl (lv_at hl 1 rfl) ?_
      refine xr_isub_zn hx hb dX9_next_50 ?_
      rw [← hE]
      exact xe_i (mp + 1) hx hb hr hlocks hK hP hD hS (rd_t (by omega)) dX9_next_51
def rX9_number : Room := { frames := 2, cells := 0, slots := 0, locals := 44 }
set_option maxHeartbeats 4000000 in
set_option maxRecDepth 100000 in
theorem mX9_number (l : Launch) (D : va_G) (ca : Nat → ClassId) (sz : Nat) (mo : Nat) (na : Nat) (nb : Nat) (nc : Nat) (nd : Nat) (ne : Nat) (nf : Nat) (ng : Nat) (nh : Nat) (ni : Nat) (nj : Nat) (nl : Nat) (ms : Bool) (mk : Nat) (my : Nat) (mt : Nat) (mp : Nat) (sg : Nat → Int) (hmy : my ≤ 60) (hsg : ∀ j, j < 60 → 0 ≤ sg j ∧ sg j ≤ 65535) (hmp : mp ≤ my) : MM l yX9_number wsX9_number rX9_number D ca [.ref mo] sz [(mo, .inr (9, [.ref na, .ref nb, .ref nc, .ref nd, .int (bI (ms)), .int (nI mk), .ref ne, .int (nI my), .int (nI mt), .int (nI mp), .ref nf, .ref ng, .ref nh, .ref ni, .ref nj, .ref nl])), (ne, .inl (ca 0, 60, .inl (zF sg)))] (QI D ca (fun (r : Int32) (u : Nat) => r = iZ (lnV sg my mp) ∧ u = lnP sg my mp) (fun u => [(mo, .inr (9, [.ref na, .ref nb, .ref nc, .ref nd, .int (bI (ms)), .int (nI mk), .ref ne, .int (nI my), .int (nI mt), .int (nI u), .ref nf, .ref ng, .ref nh, .ref ni, .ref nj, .ref nl])), (ne, .inl (ca 0, 60, .inl (zF sg)))])) := by
  refine MM_of (cc := cX9_number) (maxL := 3) (ret := (some .int)) (lv0 := [(0, .ref mo)]) RX9 (by decide) rfl rfl (Nat.le_of_ble_eq_true rfl) rfl ?_
  intro pG eV s mI args below meth cO hx hb hr hml hts hown hlocks hnm A hA H locs hsz hP hK hD hS Q hE ls hl
  refine lv_aload_n hx hb dX9_number_0 rfl (lv_at hl 0 rfl) ?_
  refine lv_bipush (v := nI (48)) hx hb dX9_number_1 (by decide) ?_
  refine lv_bipush (v := nI (57)) hx hb dX9_number_3 (by decide) ?_
  refine xk_i [] (fun u => [(mo, .inr (9, [.ref na, .ref nb, .ref nc, .ref nd, .int (bI (ms)), .int (nI mk), .ref ne, .int (nI my), .int (nI mt), .int (nI u), .ref nf, .ref ng, .ref nh, .ref ni, .ref nj, .ref nl])), (ne, .inl (ca 0, 60, .inl (zF sg)))]) (xk_V (As := [.int (nI 48), .int (nI 57)]) (rest := []) ⟨hx, hb, hml, hown, hts⟩ (mX9_next l D ca H.size mo na nb nc nd ne nf ng nh ni nj nl ms mk my mt mp sg 48 57 9 (by omega) hsg (by omega) (by omega)) (cwV 2 hts gX9_number_X9_next rfl rfl rfl (by decide +kernel) ⟨Nat.le_of_ble_eq_true rfl, Nat.le_of_ble_eq_true rfl⟩) hK hP hD (va_recv (q := (RX9, TX9, 16)) hK hP (ci := 9) (q0 := 0) rfl rfl) [0, 1] rfl rfl rfl hl.1 rfl (Nat.le_of_ble_eq_true rfl) dX9_number_5 ⟨Nat.le_of_ble_eq_true rfl, Nat.le_of_ble_eq_true rfl⟩) hP hD hS hA [0, 1] [] [0, 1] rfl rfl rfl rfl (fun _ => rfl) rfl (fun r5 u5 H locs hw5 hP hD hS => ?_)
  obtain ⟨p15, hu5⟩ : ∃ z, z = u5 := ⟨_, rfl⟩
  subst hu5
  have hw5 : r5 = iZ (rdV sg my mp 48 0 9) ∧ p15 = rdP sg my mp 48 0 9 := hw5
  have hP : va_P D vwCl [(mo, .inr (9, [.ref na, .ref nb, .ref nc, .ref nd, .int (bI (ms)), .int (nI mk), .ref ne, .int (nI my), .int (nI mt), .int (nI p15), .ref nf, .ref ng, .ref nh, .ref ni, .ref nj, .ref nl])), (ne, .inl (ca 0, 60, .inl (zF sg)))] H := hP
  have hD : va_D A [(mo, .inr (9, [.ref na, .ref nb, .ref nc, .ref nd, .int (bI (ms)), .int (nI mk), .ref ne, .int (nI my), .int (nI mt), .int (nI p15), .ref nf, .ref ng, .ref nh, .ref ni, .ref nj, .ref nl])), (ne, .inl (ca 0, 60, .inl (zF sg)))] := hD
  obtain ⟨hwr5, hv5⟩ := hw5
  subst hwr5
  have hq1 := rdV_rng sg my mp 48 0 9
  have hq2 := rdP_le sg my mp 48 0 9
  refine lv_istore_n (lv' := [(1, .int (iZ (rdV sg my mp 48 0 9))), (0, .ref mo)]) hx hb dX9_number_8 rfl hl (by decide) rfl (fun ls hl => ?_)
  refine lv_iload_n hx hb dX9_number_9 rfl (lv_at hl 0 rfl) ?_
  refine lv_iconst (v := nI (1)) hx hb dX9_number_10 (by decide) ?_
  refine lv_icmp_eq (tgt := 19) hx hb dX9_number_11 (by decide) (fun h11 => ?_) (fun h11 => ?_)
  · skip
    have h11 := (cE (iZ_toInt (by omega) (by omega)) (nI_toInt (by omega))).mp h11
    refine lv_aload_n hx hb dX9_number_19 rfl (lv_at hl 1 rfl) ?_
    refine lv_bipush (v := nI (48)) hx hb dX9_number_20 (by decide) ?_
    refine lv_bipush (v := nI (57)) hx hb dX9_number_22 (by decide) ?_
    refine xk_i [] (fun u => [(mo, .inr (9, [.ref na, .ref nb, .ref nc, .ref nd, .int (bI (ms)), .int (nI mk), .ref ne, .int (nI my), .int (nI mt), .int (nI u), .ref nf, .ref ng, .ref nh, .ref ni, .ref nj, .ref nl])), (ne, .inl (ca 0, 60, .inl (zF sg)))]) (xk_V (As := [.int (nI 48), .int (nI 57)]) (rest := []) ⟨hx, hb, hml, hown, hts⟩ (mX9_next l D ca H.size mo na nb nc nd ne nf ng nh ni nj nl ms mk my mt p15 sg 48 57 9 (by omega) hsg (by omega) (by omega)) (cwV 2 hts gX9_number_X9_next rfl rfl rfl (by decide +kernel) ⟨Nat.le_of_ble_eq_true rfl, Nat.le_of_ble_eq_true rfl⟩) hK hP hD (va_recv (q := (RX9, TX9, 16)) hK hP (ci := 9) (q0 := 0) rfl rfl) [0, 1] rfl rfl rfl hl.1 rfl (Nat.le_of_ble_eq_true rfl) dX9_number_24 ⟨Nat.le_of_ble_eq_true rfl, Nat.le_of_ble_eq_true rfl⟩) hP hD hS hA [0, 1] [] [0, 1] rfl rfl rfl rfl (fun _ => rfl) rfl (fun r24 u24 H locs hw24 hP hD hS => ?_)
    obtain ⟨p124, hu24⟩ : ∃ z, z = u24 := ⟨_, rfl⟩
    subst hu24
    have hw24 : r24 = iZ (rdV sg my p15 48 0 9) ∧ p124 = rdP sg my p15 48 0 9 := hw24
    have hP : va_P D vwCl [(mo, .inr (9, [.ref na, .ref nb, .ref nc, .ref nd, .int (bI (ms)), .int (nI mk), .ref ne, .int (nI my), .int (nI mt), .int (nI p124), .ref nf, .ref ng, .ref nh, .ref ni, .ref nj, .ref nl])), (ne, .inl (ca 0, 60, .inl (zF sg)))] H := hP
    have hD : va_D A [(mo, .inr (9, [.ref na, .ref nb, .ref nc, .ref nd, .int (bI (ms)), .int (nI mk), .ref ne, .int (nI my), .int (nI mt), .int (nI p124), .ref nf, .ref ng, .ref nh, .ref ni, .ref nj, .ref nl])), (ne, .inl (ca 0, 60, .inl (zF sg)))] := hD
    obtain ⟨hwr24, hv24⟩ := hw24
    subst hwr24
    have hq3 := rdV_rng sg my p15 48 0 9
    refine lv_goto (tgt := 47) hx hb dX9_number_27 (by decide) ?_
    refine lv_istore_n (lv' := [(2, .int (iZ (rdV sg my p15 48 0 9))), (1, .int (iZ (rdV sg my mp 48 0 9))), (0, .ref mo)]) hx hb dX9_number_47 rfl hl (by decide) rfl (fun ls hl => ?_)
    refine lv_iload_n hx hb dX9_number_48 rfl (lv_at hl 0 rfl) ?_
    refine lv_if_ge (tgt := 56) hx hb dX9_number_49 (by decide) (fun h49 => ?_) (fun h49 => ?_)
    · skip
      have h49 := (cL z0_toInt (iZ_toInt (by omega) (by omega))).mp h49
      refine lv_bipush (v := nI (10)) hx hb dX9_number_56 (by decide) ?_
      refine lv_iload_n hx hb dX9_number_58 rfl (lv_at hl 1 rfl) ?_
      refine xr_imul_nz hx hb dX9_number_59 ?_
      refine lv_iload_n hx hb dX9_number_60 rfl (lv_at hl 0 rfl) ?_
      refine xr_iadd_zz hx hb dX9_number_61 ?_
      rw [← hE]
      exact xe_i (p124) hx hb hr hlocks hK hP hD hS (by rw [show ((10 : Nat) : Int) * rdV sg my mp 48 0 9 = rdV sg my mp 48 0 9 * 10 by omega]; exact ln_c (by omega) hv5 (by rw [if_neg (show ¬ rdV sg my mp 48 0 9 = 3 by omega)]) hv24 (by omega)) dX9_number_62
    · skip
      have h49 := (not_congr (cL z0_toInt (iZ_toInt (by omega) (by omega)))).mp h49
      refine lv_iload_n hx hb dX9_number_52 rfl (lv_at hl 1 rfl) ?_
      refine lv_goto (tgt := 62) hx hb dX9_number_53 (by decide) ?_
      rw [← hE]
      exact xe_i (p124) hx hb hr hlocks hK hP hD hS (ln_b (by omega) hv5 (by rw [if_neg (show ¬ rdV sg my mp 48 0 9 = 3 by omega)]) hv24 (by omega)) dX9_number_62
  · skip
    have h11 := (not_congr (cE (iZ_toInt (by omega) (by omega)) (nI_toInt (by omega)))).mp h11
    refine lv_iload_n hx hb dX9_number_14 rfl (lv_at hl 0 rfl) ?_
    refine lv_iconst (v := nI (2)) hx hb dX9_number_15 (by decide) ?_
    refine lv_icmp_ne (tgt := 30) hx hb dX9_number_16 (by decide) (fun h16 => ?_) (fun h16 => ?_)
    · skip
      have h16 := (not_congr (cE (iZ_toInt (by omega) (by omega)) (nI_toInt (by omega)))).mp h16
      refine lv_iload_n hx hb dX9_number_30 rfl (lv_at hl 0 rfl) ?_
      refine lv_iconst (v := nI (3)) hx hb dX9_number_31 (by decide) ?_
      refine lv_icmp_ne (tgt := 46) hx hb dX9_number_32 (by decide) (fun h32 => ?_) (fun h32 => ?_)
      · skip
        have h32 := (not_congr (cE (iZ_toInt (by omega) (by omega)) (nI_toInt (by omega)))).mp h32
        refine lv_iconst (v := iZ (-1)) hx hb dX9_number_46 (by decide) ?_
        refine lv_istore_n (lv' := [(2, .int (iZ (-1))), (1, .int (iZ (rdV sg my mp 48 0 9))), (0, .ref mo)]) hx hb dX9_number_47 rfl hl (by decide) rfl (fun ls hl => ?_)
        refine lv_iload_n hx hb dX9_number_48 rfl (lv_at hl 0 rfl) ?_
        refine lv_if_ge (tgt := 56) hx hb dX9_number_49 (by decide) (fun h49 => ?_) (fun h49 => ?_)
        · skip
          have h49 := (cL z0_toInt (iZ_toInt (by omega) (by omega))).mp h49
          exact absurd h49 (by omega)
        · skip
          have h49 := (not_congr (cL z0_toInt (iZ_toInt (by omega) (by omega)))).mp h49
          refine lv_iload_n hx hb dX9_number_52 rfl (lv_at hl 1 rfl) ?_
          refine lv_goto (tgt := 62) hx hb dX9_number_53 (by decide) ?_
          rw [← hE]
          exact xe_i (p15) hx hb hr hlocks hK hP hD hS (ln_a (by omega) hv5) dX9_number_62
      · skip
        have h32 := (cE (iZ_toInt (by omega) (by omega)) (nI_toInt (by omega))).mp h32
        refine lv_aload_n hx hb dX9_number_35 rfl (lv_at hl 1 rfl) ?_
        refine lv_bipush (v := nI (48)) hx hb dX9_number_36 (by decide) ?_
        refine lv_bipush (v := nI (48)) hx hb dX9_number_38 (by decide) ?_
        refine xk_i [] (fun u => [(mo, .inr (9, [.ref na, .ref nb, .ref nc, .ref nd, .int (bI (ms)), .int (nI mk), .ref ne, .int (nI my), .int (nI mt), .int (nI u), .ref nf, .ref ng, .ref nh, .ref ni, .ref nj, .ref nl])), (ne, .inl (ca 0, 60, .inl (zF sg)))]) (xk_V (As := [.int (nI 48), .int (nI 48)]) (rest := []) ⟨hx, hb, hml, hown, hts⟩ (mX9_next l D ca H.size mo na nb nc nd ne nf ng nh ni nj nl ms mk my mt p15 sg 48 48 0 (by omega) hsg (by omega) (by omega)) (cwV 2 hts gX9_number_X9_next rfl rfl rfl (by decide +kernel) ⟨Nat.le_of_ble_eq_true rfl, Nat.le_of_ble_eq_true rfl⟩) hK hP hD (va_recv (q := (RX9, TX9, 16)) hK hP (ci := 9) (q0 := 0) rfl rfl) [0, 1] rfl rfl rfl hl.1 rfl (Nat.le_of_ble_eq_true rfl) dX9_number_40 ⟨Nat.le_of_ble_eq_true rfl, Nat.le_of_ble_eq_true rfl⟩) hP hD hS hA [0, 1] [] [0, 1] rfl rfl rfl rfl (fun _ => rfl) rfl (fun r40 u40 H locs hw40 hP hD hS => ?_)
        obtain ⟨p140, hu40⟩ : ∃ z, z = u40 := ⟨_, rfl⟩
        subst hu40
        have hw40 : r40 = iZ (rdV sg my p15 48 0 0) ∧ p140 = rdP sg my p15 48 0 0 := hw40
        have hP : va_P D vwCl [(mo, .inr (9, [.ref na, .ref nb, .ref nc, .ref nd, .int (bI (ms)), .int (nI mk), .ref ne, .int (nI my), .int (nI mt), .int (nI p140), .ref nf, .ref ng, .ref nh, .ref ni, .ref nj, .ref nl])), (ne, .inl (ca 0, 60, .inl (zF sg)))] H := hP
        have hD : va_D A [(mo, .inr (9, [.ref na, .ref nb, .ref nc, .ref nd, .int (bI (ms)), .int (nI mk), .ref ne, .int (nI my), .int (nI mt), .int (nI p140), .ref nf, .ref ng, .ref nh, .ref ni, .ref nj, .ref nl])), (ne, .inl (ca 0, 60, .inl (zF sg)))] := hD
        obtain ⟨hwr40, hv40⟩ := hw40
        subst hwr40
        have hq3 := rdV_rng sg my p15 48 0 0
        refine lv_goto (tgt := 47) hx hb dX9_number_43 (by decide) ?_
        refine lv_istore_n (lv' := [(2, .int (iZ (rdV sg my p15 48 0 0))), (1, .int (iZ (rdV sg my mp 48 0 9))), (0, .ref mo)]) hx hb dX9_number_47 rfl hl (by decide) rfl (fun ls hl => ?_)
        refine lv_iload_n hx hb dX9_number_48 rfl (lv_at hl 0 rfl) ?_
        refine lv_if_ge (tgt := 56) hx hb dX9_number_49 (by decide) (fun h49 => ?_) (fun h49 => ?_)
        · skip
          have h49 := (cL z0_toInt (iZ_toInt (by omega) (by omega))).mp h49
          refine lv_bipush (v := nI (10)) hx hb dX9_number_56 (by decide) ?_
          refine lv_iload_n hx hb dX9_number_58 rfl (lv_at hl 1 rfl) ?_
          refine xr_imul_nz hx hb dX9_number_59 ?_
          refine lv_iload_n hx hb dX9_number_60 rfl (lv_at hl 0 rfl) ?_
          refine xr_iadd_zz hx hb dX9_number_61 ?_
          rw [← hE]
          exact xe_i (p140) hx hb hr hlocks hK hP hD hS (by rw [show ((10 : Nat) : Int) * rdV sg my mp 48 0 9 = rdV sg my mp 48 0 9 * 10 by omega]; exact ln_c (by omega) hv5 (by rw [if_pos (show rdV sg my mp 48 0 9 = 3 by omega)]) hv40 (by omega)) dX9_number_62
        · skip
          have h49 := (not_congr (cL z0_toInt (iZ_toInt (by omega) (by omega)))).mp h49
          refine lv_iload_n hx hb dX9_number_52 rfl (lv_at hl 1 rfl) ?_
          refine lv_goto (tgt := 62) hx hb dX9_number_53 (by decide) ?_
          rw [← hE]
          exact xe_i (p140) hx hb hr hlocks hK hP hD hS (ln_b (by omega) hv5 (by rw [if_pos (show rdV sg my mp 48 0 9 = 3 by omega)]) hv40 (by omega)) dX9_number_62
    · skip
      have h16 := (cE (iZ_toInt (by omega) (by omega)) (nI_toInt (by omega))).mp h16
      refine lv_aload_n hx hb dX9_number_19 rfl (lv_at hl 1 rfl) ?_
      refine lv_bipush (v := nI (48)) hx hb dX9_number_20 (by decide) ?_
      refine lv_bipush (v := nI (57)) hx hb dX9_number_22 (by decide) ?_
      refine xk_i [] (fun u => [(mo, .inr (9, [.ref na, .ref nb, .ref nc, .ref nd, .int (bI (ms)), .int (nI mk), .ref ne, .int (nI my), .int (nI mt), .int (nI u), .ref nf, .ref ng, .ref nh, .ref ni, .ref nj, .ref nl])), (ne, .inl (ca 0, 60, .inl (zF sg)))]) (xk_V (As := [.int (nI 48), .int (nI 57)]) (rest := []) ⟨hx, hb, hml, hown, hts⟩ (mX9_next l D ca H.size mo na nb nc nd ne nf ng nh ni nj nl ms mk my mt p15 sg 48 57 9 (by omega) hsg (by omega) (by omega)) (cwV 2 hts gX9_number_X9_next rfl rfl rfl (by decide +kernel) ⟨Nat.le_of_ble_eq_true rfl, Nat.le_of_ble_eq_true rfl⟩) hK hP hD (va_recv (q := (RX9, TX9, 16)) hK hP (ci := 9) (q0 := 0) rfl rfl) [0, 1] rfl rfl rfl hl.1 rfl (Nat.le_of_ble_eq_true rfl) dX9_number_24 ⟨Nat.le_of_ble_eq_true rfl, Nat.le_of_ble_eq_true rfl⟩) hP hD hS hA [0, 1] [] [0, 1] rfl rfl rfl rfl (fun _ => rfl) rfl (fun r24 u24 H locs hw24 hP hD hS => ?_)
      obtain ⟨p124, hu24⟩ : ∃ z, z = u24 := ⟨_, rfl⟩
      subst hu24
      have hw24 : r24 = iZ (rdV sg my p15 48 0 9) ∧ p124 = rdP sg my p15 48 0 9 := hw24
      have hP : va_P D vwCl [(mo, .inr (9, [.ref na, .ref nb, .ref nc, .ref nd, .int (bI (ms)), .int (nI mk), .ref ne, .int (nI my), .int (nI mt), .int (nI p124), .ref nf, .ref ng, .ref nh, .ref ni, .ref nj, .ref nl])), (ne, .inl (ca 0, 60, .inl (zF sg)))] H := hP
      have hD : va_D A [(mo, .inr (9, [.ref na, .ref nb, .ref nc, .ref nd, .int (bI (ms)), .int (nI mk), .ref ne, .int (nI my), .int (nI mt), .int (nI p124), .ref nf, .ref ng, .ref nh, .ref ni, .ref nj, .ref nl])), (ne, .inl (ca 0, 60, .inl (zF sg)))] := hD
      obtain ⟨hwr24, hv24⟩ := hw24
      subst hwr24
      have hq3 := rdV_rng sg my p15 48 0 9
      refine lv_goto (tgt := 47) hx hb dX9_number_27 (by decide) ?_
      refine lv_istore_n (lv' := [(2, .int (iZ (rdV sg my p15 48 0 9))), (1, .int (iZ (rdV sg my mp 48 0 9))), (0, .ref mo)]) hx hb dX9_number_47 rfl hl (by decide) rfl (fun ls hl => ?_)
      refine lv_iload_n hx hb dX9_number_48 rfl (lv_at hl 0 rfl) ?_
      refine lv_if_ge (tgt := 56) hx hb dX9_number_49 (by decide) (fun h49 => ?_) (fun h49 => ?_)
      · skip
        have h49 := (cL z0_toInt (iZ_toInt (by omega) (by omega))).mp h49
        refine lv_bipush (v := nI (10)) hx hb dX9_number_56 (by decide) ?_
        refine lv_iload_n hx hb dX9_number_58 rfl (lv_at hl 1 rfl) ?_
        refine xr_imul_nz hx hb dX9_number_59 ?_
        refine lv_iload_n hx hb dX9_number_60 rfl (lv_at hl 0 rfl) ?_
        refine xr_iadd_zz hx hb dX9_number_61 ?_
        rw [← hE]
        exact xe_i (p124) hx hb hr hlocks hK hP hD hS (by rw [show ((10 : Nat) : Int) * rdV sg my mp 48 0 9 = rdV sg my mp 48 0 9 * 10 by omega]; exact ln_c (by omega) hv5 (by rw [if_neg (show ¬ rdV sg my mp 48 0 9 = 3 by omega)]) hv24 (by omega)) dX9_number_62
      · skip
        have h49 := (not_congr (cL z0_toInt (iZ_toInt (by omega) (by omega)))).mp h49
        refine lv_iload_n hx hb dX9_number_52 rfl (lv_at hl 1 rfl) ?_
        refine lv_goto (tgt := 62) hx hb dX9_number_53 (by decide) ?_
        rw [← hE]
        exact xe_i (p124) hx hb hr hlocks hK hP hD hS (ln_b (by omega) hv5 (by rw [if_neg (show ¬ rdV sg my mp 48 0 9 = 3 by omega)]) hv24 (by omega)) dX9_number_62
def rX9_befores : Room := { frames := 2, cells := 0, slots := 0, locals := 44 }
set_option maxHeartbeats 4000000 in
set_option maxRecDepth 100000 in
theorem mX9_befores (l : Launch) (D : va_G) (ca : Nat → ClassId) (sz : Nat) (mo : Nat) (na : Nat) (nb : Nat) (nc : Nat) (nd : Nat) (ne : Nat) (nf : Nat) (ng : Nat) (nh : Nat) (ni : Nat) (nj : Nat) (nl : Nat) (ms : Bool) (mk : Nat) (my : Nat) (mt : Nat) (mp : Nat) (sv : Nat → Int) (sg : Nat → Int) (T : Nat) (C : Int) (L : Nat → Int) (N : Nat → Int) (G : Nat → Nat → Int) (t : Nat) (hmy : my ≤ 60) (hsg : ∀ j, j < 60 → 0 ≤ sg j ∧ sg j ≤ 65535) (hmp : mp ≤ my) (hM : MS sv T C L N G) (htt : t < T ∧ 1 ≤ t ∧ T ≤ 20) : MM l yX9_befores wsX9_befores rX9_befores D ca [.ref mo, .int (nI t)] sz [(mo, .inr (9, [.ref na, .ref nb, .ref nc, .ref nd, .int (bI (ms)), .int (nI mk), .ref ne, .int (nI my), .int (nI mt), .int (nI mp), .ref nf, .ref ng, .ref nh, .ref ni, .ref nj, .ref nl])), (nb, .inl (ca 0, 442, .inl (zF sv))), (ne, .inl (ca 0, 60, .inl (zF sg)))] (QI D ca (fun (r : Int32) (u : Nat × (Nat → Int)) => r = bI (pdN sg my t t 0 mp G).1 ∧ u.1 = (pdN sg my t t 0 mp G).2.1 ∧ MS u.2 T C L N (pdN sg my t t 0 mp G).2.2) (fun u => [(mo, .inr (9, [.ref na, .ref nb, .ref nc, .ref nd, .int (bI (ms)), .int (nI mk), .ref ne, .int (nI my), .int (nI mt), .int (nI u.1), .ref nf, .ref ng, .ref nh, .ref ni, .ref nj, .ref nl])), (nb, .inl (ca 0, 442, .inl (zF u.2))), (ne, .inl (ca 0, 60, .inl (zF sg)))])) := by
  refine MM_of (cc := cX9_befores) (maxL := 6) (ret := (some .boolean)) (lv0 := [(0, .ref mo), (1, .int (nI t))]) RX9 (by decide) rfl rfl (Nat.le_of_ble_eq_true rfl) rfl ?_
  intro pG eV s mI args below meth cO hx hb hr hml hts hown hlocks hnm A hA H locs hsz hP hK hD hS Q hE ls hl
  have f13 := hts (.fieldLink RX9 13 "SlackPlanModel" "then" "[I") (List.mem_of_getElem? (i := 1) rfl)
  have inX9 : ∀ w ∈ u_ws RX9 TX9 16, w ∈ wsX9_befores := in_r _ [13, 14, 15, 16, 17, 18, 19, 20, 21, 22, 23, 24, 25, 26, 27, 28] rfl
  refine lv_iconst (v := iZ (-1)) hx hb dX9_befores_0 (by decide) ?_
  refine lv_istore_n (lv' := [(2, .int (iZ (-1))), (0, .ref mo), (1, .int (nI t))]) hx hb dX9_befores_1 rfl hl (by decide) rfl (fun ls hl => ?_)
  refine lv_iconst (v := nI (1)) hx hb dX9_befores_2 (by decide) ?_
  refine lv_istore_n (lv' := [(3, .int (nI 1)), (2, .int (iZ (-1))), (0, .ref mo), (1, .int (nI t))]) hx hb dX9_befores_3 rfl hl (by decide) rfl (fun ls hl => ?_)
  have L4 : ∀ (fu : Nat) (lq : Nat) (p : Nat) (sv2 : Nat → Int) (G2 : Nat → Nat → Int) (gb : Bool) (fz : Nat), (p ≤ my) → (MS sv2 T C L N G2) → (gb = true → lq < t ∧ t - lq ≤ fz ∧ pdN sg my t t 0 mp G = pdN sg my t fz lq p G2) → (gb = false → pdN sg my t t 0 mp G = (true, p, G2)) → (t - lq + gb.toNat) < fu → ∀ (H : Heap) (locs : List Loc), va_P D vwCl [(mo, .inr (9, [.ref na, .ref nb, .ref nc, .ref nd, .int (bI (ms)), .int (nI mk), .ref ne, .int (nI my), .int (nI mt), .int (nI p), .ref nf, .ref ng, .ref nh, .ref ni, .ref nj, .ref nl])), (nb, .inl (ca 0, 442, .inl (zF sv2))), (ne, .inl (ca 0, 60, .inl (zF sg)))] H → va_D A [(mo, .inr (9, [.ref na, .ref nb, .ref nc, .ref nd, .int (bI (ms)), .int (nI mk), .ref ne, .int (nI my), .int (nI mt), .int (nI p), .ref nf, .ref ng, .ref nh, .ref ni, .ref nj, .ref nl])), (nb, .inl (ca 0, 442, .inl (zF sv2))), (ne, .inl (ca 0, 60, .inl (zF sg)))] → va_S A s.heap H locs → ∀ ls : Array Slot, lv_has ls 6 [(3, .int (bI (gb))), (2, .int (iZ (((lq : Nat) : Int) - 1))), (0, .ref mo), (1, .int (nI t))] → W pG l eV rX9_befores s mI args below meth cO H locs 0 0 Q (F0 mI 4 ls []) := by
    clear hP hD hS hl
    intro fu; induction fu with
    | zero => intro lq p sv2 G2 gb fz hp hMS hpd hpe hmu; exact absurd hmu (Nat.not_lt_zero _)
    | succ n4 ih4 =>
      intro lq p sv2 G2 gb fz hp hMS hpd hpe hmu4 H locs hP hD hS ls hl
      refine lv_iload_n hx hb dX9_befores_4 rfl (lv_at hl 0 rfl) ?_
      refine lv_if_eq (tgt := 115) hx hb dX9_befores_5 (by decide) (fun h5 => ?_) (fun h5 => ?_)
      · skip
        have h5 := bI_0.mp h5
        refine lv_iconst (v := nI (1)) hx hb dX9_befores_115 (by decide) ?_
        have h9 := hpe h5
        rw [← hE]
        exact xe_z (p, sv2) hx hb hr hlocks hK hP hD hS rfl (⟨by rw [h9]; rfl, by rw [h9], by rw [h9]; exact hMS⟩) dX9_befores_116
      · skip
        have h5 := bI_n0.mp h5
        obtain ⟨hpd1, hpd2, hpd3⟩ := hpd h5
        have hfu : fz = (fz - 1) + 1 := by omega
        have hsP := rd_shP (sg := sg) (tl := my) (p := p) hpd1
        have hsV := rd_shV (sg := sg) (tl := my) (p := p) hpd1
        have hq2 := rdP_le sg my p 97 lq (t - 1)
        refine lv_iload_n hx hb dX9_befores_8 rfl (lv_at hl 1 rfl) ?_
        refine lv_iconst (v := nI (1)) hx hb dX9_befores_9 (by decide) ?_
        refine xr_iadd_zn hx hb dX9_befores_10 ?_
        refine lv_iload_n hx hb dX9_befores_11 rfl (lv_at hl 3 rfl) ?_
        refine lv_icmp_ge (tgt := 36) hx hb dX9_befores_12 (by decide) (fun h12 => ?_) (fun h12 => ?_)
        · skip
          have h12 := (cL (nI_toInt (by omega)) (iZ_toInt (by omega) (by omega))).mp h12
          exact absurd h12 (by omega)
        · skip
          have h12 := (not_congr (cL (nI_toInt (by omega)) (iZ_toInt (by omega) (by omega)))).mp h12
          refine lv_aload_n hx hb dX9_befores_15 rfl (lv_at hl 2 rfl) ?_
          refine lv_bipush (v := nI (97)) hx hb dX9_befores_16 (by decide) ?_
          refine lv_iload_n hx hb dX9_befores_18 rfl (lv_at hl 1 rfl) ?_
          refine xr_iadd_nz hx hb dX9_befores_19 ?_
          refine lv_iconst (v := nI (1)) hx hb dX9_befores_20 (by decide) ?_
          refine xr_iadd_zn hx hb dX9_befores_21 ?_
          refine xr_top (y := nI (97 + lq)) (by rw [iZ_n]; exact congrArg iZ (by omega)) ?_
          refine lv_i2c (v := nI (97 + lq)) hx hb dX9_befores_22 (c16 (by omega)) ?_
          refine lv_bipush (v := nI (97)) hx hb dX9_befores_23 (by decide) ?_
          refine lv_iload_n hx hb dX9_befores_25 rfl (lv_at hl 3 rfl) ?_
          refine xr_iadd hx hb dX9_befores_26 ?_
          refine lv_iconst (v := nI (1)) hx hb dX9_befores_27 (by decide) ?_
          refine xr_isub_nn hx hb dX9_befores_28 ?_
          refine xr_top (y := nI (97 + (t - 1))) (by rw [iZ_n]; exact congrArg iZ (by omega)) ?_
          refine lv_i2c (v := nI (97 + (t - 1))) hx hb dX9_befores_29 (c16 (by omega)) ?_
          refine xk_i [(nb, .inl (ca 0, 442, .inl (zF sv2)))] (fun u => [(mo, .inr (9, [.ref na, .ref nb, .ref nc, .ref nd, .int (bI (ms)), .int (nI mk), .ref ne, .int (nI my), .int (nI mt), .int (nI u), .ref nf, .ref ng, .ref nh, .ref ni, .ref nj, .ref nl])), (nb, .inl (ca 0, 442, .inl (zF sv2))), (ne, .inl (ca 0, 60, .inl (zF sg)))]) (xk_V (As := [.int (nI (97 + lq)), .int (nI (97 + (t - 1)))]) (rest := []) ⟨hx, hb, hml, hown, hts⟩ (mX9_next l D ca H.size mo na nb nc nd ne nf ng nh ni nj nl ms mk my mt p sg (97 + lq) (97 + (t - 1)) (t - 1 - lq) (by omega) hsg (by omega) (by omega)) (cwV 2 hts gX9_befores_X9_next rfl rfl rfl (by decide +kernel) ⟨Nat.le_of_ble_eq_true rfl, Nat.le_of_ble_eq_true rfl⟩) hK hP hD (va_recv (q := (RX9, TX9, 16)) hK hP (ci := 9) (q0 := 0) rfl rfl) [0, 2] rfl rfl rfl hl.1 rfl (Nat.le_of_ble_eq_true rfl) dX9_befores_30 ⟨Nat.le_of_ble_eq_true rfl, Nat.le_of_ble_eq_true rfl⟩) hP hD hS hA [0, 2] [1] [1, 0, 2] rfl rfl rfl rfl (fun _ => rfl) rfl (fun r30 u30 H locs hw30 hP hD hS => ?_)
          obtain ⟨p130, hu30⟩ : ∃ z, z = u30 := ⟨_, rfl⟩
          subst hu30
          have hw30 : r30 = iZ (rdV sg my p (97 + lq) 0 (t - 1 - lq)) ∧ p130 = rdP sg my p (97 + lq) 0 (t - 1 - lq) := hw30
          have hP : va_P D vwCl [(mo, .inr (9, [.ref na, .ref nb, .ref nc, .ref nd, .int (bI (ms)), .int (nI mk), .ref ne, .int (nI my), .int (nI mt), .int (nI p130), .ref nf, .ref ng, .ref nh, .ref ni, .ref nj, .ref nl])), (nb, .inl (ca 0, 442, .inl (zF sv2))), (ne, .inl (ca 0, 60, .inl (zF sg)))] H := hP
          have hD : va_D A [(mo, .inr (9, [.ref na, .ref nb, .ref nc, .ref nd, .int (bI (ms)), .int (nI mk), .ref ne, .int (nI my), .int (nI mt), .int (nI p130), .ref nf, .ref ng, .ref nh, .ref ni, .ref nj, .ref nl])), (nb, .inl (ca 0, 442, .inl (zF sv2))), (ne, .inl (ca 0, 60, .inl (zF sg)))] := hD
          obtain ⟨hwr30, hv30⟩ := hw30
          subst hwr30
          refine lv_goto (tgt := 37) hx hb dX9_befores_33 (by decide) ?_
          refine lv_istore (lv' := [(4, .int (iZ (rdV sg my p (97 + lq) 0 (t - 1 - lq)))), (3, .int (bI (gb))), (2, .int (iZ (((lq : Nat) : Int) - 1))), (0, .ref mo), (1, .int (nI t))]) hx hb dX9_befores_37 hl (by decide) rfl (fun ls hl => ?_)
          have hq1 := rdV_rng sg my p (97 + lq) 0 (t - 1 - lq)
          refine lv_iload hx hb dX9_befores_39 (lv_at hl 0 rfl) ?_
          refine lv_if_ge (tgt := 46) hx hb dX9_befores_41 (by decide) (fun h41 => ?_) (fun h41 => ?_)
          · skip
            have h41 := (cL z0_toInt (iZ_toInt (by omega) (by omega))).mp h41
            have hv7 : ¬ rdV sg my p 97 lq (t - 1) = -1 := by omega
            refine lv_iload_n hx hb dX9_befores_46 rfl (lv_at hl 2 rfl) ?_
            refine lv_iload hx hb dX9_befores_47 (lv_at hl 0 rfl) ?_
            refine lv_iconst (v := nI (1)) hx hb dX9_befores_49 (by decide) ?_
            refine xr_iadd_zn hx hb dX9_befores_50 ?_
            refine xr_iadd_zz hx hb dX9_befores_51 ?_
            refine xr_top (y := nI ((rdV sg my p 97 lq (t - 1)).toNat)) (by rw [iZ_n]; exact congrArg iZ (by omega)) ?_
            refine lv_istore_n (lv' := [(2, .int (nI ((rdV sg my p 97 lq (t - 1)).toNat))), (4, .int (iZ (rdV sg my p (97 + lq) 0 (t - 1 - lq)))), (3, .int (bI (gb))), (0, .ref mo), (1, .int (nI t))]) hx hb dX9_befores_52 rfl hl (by decide) rfl (fun ls hl => ?_)
            refine lv_aload_n hx hb dX9_befores_53 rfl (lv_at hl 3 rfl) ?_
            refine lv_bipush (v := nI (48)) hx hb dX9_befores_54 (by decide) ?_
            refine lv_bipush (v := nI (57)) hx hb dX9_befores_56 (by decide) ?_
            refine xk_i [(nb, .inl (ca 0, 442, .inl (zF sv2)))] (fun u => [(mo, .inr (9, [.ref na, .ref nb, .ref nc, .ref nd, .int (bI (ms)), .int (nI mk), .ref ne, .int (nI my), .int (nI mt), .int (nI u), .ref nf, .ref ng, .ref nh, .ref ni, .ref nj, .ref nl])), (nb, .inl (ca 0, 442, .inl (zF sv2))), (ne, .inl (ca 0, 60, .inl (zF sg)))]) (xk_V (As := [.int (nI 48), .int (nI 57)]) (rest := []) ⟨hx, hb, hml, hown, hts⟩ (mX9_next l D ca H.size mo na nb nc nd ne nf ng nh ni nj nl ms mk my mt p130 sg 48 57 9 (by omega) hsg (by omega) (by omega)) (cwV 2 hts gX9_befores_X9_next rfl rfl rfl (by decide +kernel) ⟨Nat.le_of_ble_eq_true rfl, Nat.le_of_ble_eq_true rfl⟩) hK hP hD (va_recv (q := (RX9, TX9, 16)) hK hP (ci := 9) (q0 := 0) rfl rfl) [0, 2] rfl rfl rfl hl.1 rfl (Nat.le_of_ble_eq_true rfl) dX9_befores_58 ⟨Nat.le_of_ble_eq_true rfl, Nat.le_of_ble_eq_true rfl⟩) hP hD hS hA [0, 2] [1] [1, 0, 2] rfl rfl rfl rfl (fun _ => rfl) rfl (fun r58 u58 H locs hw58 hP hD hS => ?_)
            obtain ⟨p158, hu58⟩ : ∃ z, z = u58 := ⟨_, rfl⟩
            subst hu58
            have hw58 : r58 = iZ (rdV sg my p130 48 0 9) ∧ p158 = rdP sg my p130 48 0 9 := hw58
            have hP : va_P D vwCl [(mo, .inr (9, [.ref na, .ref nb, .ref nc, .ref nd, .int (bI (ms)), .int (nI mk), .ref ne, .int (nI my), .int (nI mt), .int (nI p158), .ref nf, .ref ng, .ref nh, .ref ni, .ref nj, .ref nl])), (nb, .inl (ca 0, 442, .inl (zF sv2))), (ne, .inl (ca 0, 60, .inl (zF sg)))] H := hP
            have hD : va_D A [(mo, .inr (9, [.ref na, .ref nb, .ref nc, .ref nd, .int (bI (ms)), .int (nI mk), .ref ne, .int (nI my), .int (nI mt), .int (nI p158), .ref nf, .ref ng, .ref nh, .ref ni, .ref nj, .ref nl])), (nb, .inl (ca 0, 442, .inl (zF sv2))), (ne, .inl (ca 0, 60, .inl (zF sg)))] := hD
            obtain ⟨hwr58, hv58⟩ := hw58
            subst hwr58
            have hq3 := rdV_rng sg my p130 48 0 9
            have hq4 := rdP_le sg my p130 48 0 9
            refine lv_istore (lv' := [(5, .int (iZ (rdV sg my p130 48 0 9))), (2, .int (nI ((rdV sg my p 97 lq (t - 1)).toNat))), (4, .int (iZ (rdV sg my p (97 + lq) 0 (t - 1 - lq)))), (3, .int (bI (gb))), (0, .ref mo), (1, .int (nI t))]) hx hb dX9_befores_61 hl (by decide) rfl (fun ls hl => ?_)
            refine lv_aload_n hx hb dX9_befores_63 rfl (lv_at hl 4 rfl) ?_
            refine va_get (D := D) (ci := 9) (v := .ref nb) (C := RX9) (T := TX9) (N := 16) hx hb hts inX9 hown hK hP 0 rfl rfl 1 (by decide) f13 (fun _ h9 => h9) rfl dX9_befores_64 ?_
            refine lv_bipush (v := nI (42)) hx hb dX9_befores_67 (by decide) ?_
            refine lv_bipush (v := nI (20)) hx hb dX9_befores_69 (by decide) ?_
            refine lv_iload_n hx hb dX9_befores_71 rfl (lv_at hl 1 rfl) ?_
            refine xr_imul hx hb dX9_befores_72 ?_
            refine xr_iadd hx hb dX9_befores_73 ?_
            refine lv_iload_n hx hb dX9_befores_74 rfl (lv_at hl 5 rfl) ?_
            refine xr_iadd hx hb dX9_befores_75 ?_
            refine lv_iload hx hb dX9_befores_76 (lv_at hl 0 rfl) ?_
            refine lv_if_ge (tgt := 85) hx hb dX9_befores_78 (by decide) (fun h78 => ?_) (fun h78 => ?_)
            · skip
              have h78 := (cL z0_toInt (iZ_toInt (by omega) (by omega))).mp h78
              refine lv_iload hx hb dX9_befores_85 (lv_at hl 0 rfl) ?_
              refine xr_top (y := iZ (max 0 (rdV sg my p130 48 0 9))) (congrArg iZ (by omega)) ?_
              refine xr_iast hx hb hK hP hD hS 1 0 rfl rfl (by omega) (Nat.le_of_ble_eq_true rfl) (zF (upZ sv2 ((42 + (20 * ((rdV sg my p 97 lq (t - 1)).toNat))) + t) (max 0 (rdV sg my p130 48 0 9)))) (fun _ _ => zF_up _ _ _ _) dX9_befores_87 (fun H locs hP hD hS => ?_)
              have hP : va_P D vwCl [(mo, .inr (9, [.ref na, .ref nb, .ref nc, .ref nd, .int (bI (ms)), .int (nI mk), .ref ne, .int (nI my), .int (nI mt), .int (nI p158), .ref nf, .ref ng, .ref nh, .ref ni, .ref nj, .ref nl])), (nb, .inl (ca 0, 442, .inl (zF (upZ sv2 ((42 + (20 * ((rdV sg my p 97 lq (t - 1)).toNat))) + t) (max 0 (rdV sg my p130 48 0 9)))))), (ne, .inl (ca 0, 60, .inl (zF sg)))] H := hP
              have hD : va_D A [(mo, .inr (9, [.ref na, .ref nb, .ref nc, .ref nd, .int (bI (ms)), .int (nI mk), .ref ne, .int (nI my), .int (nI mt), .int (nI p158), .ref nf, .ref ng, .ref nh, .ref ni, .ref nj, .ref nl])), (nb, .inl (ca 0, 442, .inl (zF (upZ sv2 ((42 + (20 * ((rdV sg my p 97 lq (t - 1)).toNat))) + t) (max 0 (rdV sg my p130 48 0 9)))))), (ne, .inl (ca 0, 60, .inl (zF sg)))] := hD
              have hMS3 : MS (upZ sv2 (42 + 20 * (rdV sg my p 97 lq (t - 1)).toNat + t) (max 0 (rdV sg my p130 48 0 9))) T C L N (upG G2 (rdV sg my p 97 lq (t - 1)).toNat t (max 0 (rdV sg my p130 48 0 9))) := MS_upG hMS (by omega) (by omega) (by omega)
              refine lv_iload_n hx hb dX9_befores_88 rfl (lv_at hl 1 rfl) ?_
              refine lv_iload_n hx hb dX9_befores_89 rfl (lv_at hl 5 rfl) ?_
              refine lv_iconst (v := nI (1)) hx hb dX9_befores_90 (by decide) ?_
              refine xr_isub_nn hx hb dX9_befores_91 ?_
              refine lv_icmp_ge (tgt := 110) hx hb dX9_befores_92 (by decide) (fun h92 => ?_) (fun h92 => ?_)
              · skip
                have h92 := (cL (iZ_toInt (by omega) (by omega)) (nI_toInt (by omega))).mp h92
                refine lv_iconst (v := nI (0)) hx hb dX9_befores_110 (by decide) ?_
                refine lv_istore_n (lv' := [(3, .int (nI 0)), (5, .int (iZ (rdV sg my p130 48 0 9))), (2, .int (nI ((rdV sg my p 97 lq (t - 1)).toNat))), (4, .int (iZ (rdV sg my p (97 + lq) 0 (t - 1 - lq)))), (0, .ref mo), (1, .int (nI t))]) hx hb dX9_befores_111 rfl hl (by decide) rfl (fun ls hl => ?_)
                refine lv_goto (tgt := 4) hx hb dX9_befores_112 (by decide) ?_
                have e9 : nI ((rdV sg my p 97 lq (t - 1)).toNat) = iZ ((((rdV sg my p 97 lq (t - 1)).toNat + 1 : Nat) : Int) - 1) := (by rw [iZ_n]; exact congrArg iZ (by omega))
                have hl : lv_has ls 6 [(3, .int (nI 0)), (5, .int (iZ (rdV sg my p130 48 0 9))), (2, .int (iZ ((((rdV sg my p 97 lq (t - 1)).toNat + 1 : Nat) : Int) - 1))), (4, .int (iZ (rdV sg my p (97 + lq) 0 (t - 1 - lq)))), (0, .ref mo), (1, .int (nI t))] := by rw [← e9]; exact hl
                exact ih4 ((rdV sg my p 97 lq (t - 1)).toNat + 1) p158 (upZ sv2 ((42 + (20 * ((rdV sg my p 97 lq (t - 1)).toNat))) + t) (max 0 (rdV sg my p130 48 0 9))) (upG G2 (rdV sg my p 97 lq (t - 1)).toNat t (max 0 (rdV sg my p130 48 0 9))) false (fz - 1) (by omega) hMS3 (fun h9 => by cases h9) (fun _ => by rw [hpd3, hfu, pd_b hv7 (hv30.trans hsP) hv58 (Or.inl (by omega))]) (by show t - ((rdV sg my p 97 lq (t - 1)).toNat + 1) + 0 < n4; have e9 : gb.toNat = 1 := (by rw [h5]; rfl); omega) _ _ hP hD hS _ (lv_sub hl [0, 2, 4, 5] rfl)
              · skip
                have h92 := (not_congr (cL (iZ_toInt (by omega) (by omega)) (nI_toInt (by omega)))).mp h92
                refine lv_aload_n hx hb dX9_befores_95 rfl (lv_at hl 4 rfl) ?_
                refine lv_bipush (v := nI (43)) hx hb dX9_befores_96 (by decide) ?_
                refine lv_bipush (v := nI (43)) hx hb dX9_befores_98 (by decide) ?_
                refine xk_i [(nb, .inl (ca 0, 442, .inl (zF (upZ sv2 ((42 + (20 * ((rdV sg my p 97 lq (t - 1)).toNat))) + t) (max 0 (rdV sg my p130 48 0 9))))))] (fun u => [(mo, .inr (9, [.ref na, .ref nb, .ref nc, .ref nd, .int (bI (ms)), .int (nI mk), .ref ne, .int (nI my), .int (nI mt), .int (nI u), .ref nf, .ref ng, .ref nh, .ref ni, .ref nj, .ref nl])), (nb, .inl (ca 0, 442, .inl (zF (upZ sv2 ((42 + (20 * ((rdV sg my p 97 lq (t - 1)).toNat))) + t) (max 0 (rdV sg my p130 48 0 9)))))), (ne, .inl (ca 0, 60, .inl (zF sg)))]) (xk_V (As := [.int (nI 43), .int (nI 43)]) (rest := []) ⟨hx, hb, hml, hown, hts⟩ (mX9_next l D ca H.size mo na nb nc nd ne nf ng nh ni nj nl ms mk my mt p158 sg 43 43 0 (by omega) hsg (by omega) (by omega)) (cwV 2 hts gX9_befores_X9_next rfl rfl rfl (by decide +kernel) ⟨Nat.le_of_ble_eq_true rfl, Nat.le_of_ble_eq_true rfl⟩) hK hP hD (va_recv (q := (RX9, TX9, 16)) hK hP (ci := 9) (q0 := 0) rfl rfl) [0, 2] rfl rfl rfl hl.1 rfl (Nat.le_of_ble_eq_true rfl) dX9_befores_100 ⟨Nat.le_of_ble_eq_true rfl, Nat.le_of_ble_eq_true rfl⟩) hP hD hS hA [0, 2] [1] [1, 0, 2] rfl rfl rfl rfl (fun _ => rfl) rfl (fun r100 u100 H locs hw100 hP hD hS => ?_)
                obtain ⟨p1100, hu100⟩ : ∃ z, z = u100 := ⟨_, rfl⟩
                subst hu100
                have hw100 : r100 = iZ (rdV sg my p158 43 0 0) ∧ p1100 = rdP sg my p158 43 0 0 := hw100
                have hP : va_P D vwCl [(mo, .inr (9, [.ref na, .ref nb, .ref nc, .ref nd, .int (bI (ms)), .int (nI mk), .ref ne, .int (nI my), .int (nI mt), .int (nI p1100), .ref nf, .ref ng, .ref nh, .ref ni, .ref nj, .ref nl])), (nb, .inl (ca 0, 442, .inl (zF (upZ sv2 ((42 + (20 * ((rdV sg my p 97 lq (t - 1)).toNat))) + t) (max 0 (rdV sg my p130 48 0 9)))))), (ne, .inl (ca 0, 60, .inl (zF sg)))] H := hP
                have hD : va_D A [(mo, .inr (9, [.ref na, .ref nb, .ref nc, .ref nd, .int (bI (ms)), .int (nI mk), .ref ne, .int (nI my), .int (nI mt), .int (nI p1100), .ref nf, .ref ng, .ref nh, .ref ni, .ref nj, .ref nl])), (nb, .inl (ca 0, 442, .inl (zF (upZ sv2 ((42 + (20 * ((rdV sg my p 97 lq (t - 1)).toNat))) + t) (max 0 (rdV sg my p130 48 0 9)))))), (ne, .inl (ca 0, 60, .inl (zF sg)))] := hD
                obtain ⟨hwr100, hv100⟩ := hw100
                subst hwr100
                have hq5 := rd0V (sg := sg) (tl := my) (p := p158) (z := 43)
                refine lv_if_ne (tgt := 110) hx hb dX9_befores_103 (by decide) (fun h103 => ?_) (fun h103 => ?_)
                · skip
                  have h103 := (not_congr (cE (iZ_toInt (by omega) (by omega)) z0_toInt)).mp h103
                  have hc43 : rdC sg my p158 43 0 0 = false := by rcases hq5 with h9 | h9; (exact absurd h9.1 (by omega)); exact h9.2
                  have e9 : p158 = p1100 := Eq.symm (hv100.trans (rdP_f hc43))
                  subst e9
                  have hP : va_P D vwCl [(mo, .inr (9, [.ref na, .ref nb, .ref nc, .ref nd, .int (bI (ms)), .int (nI mk), .ref ne, .int (nI my), .int (nI mt), .int (nI p158), .ref nf, .ref ng, .ref nh, .ref ni, .ref nj, .ref nl])), (nb, .inl (ca 0, 442, .inl (zF (upZ sv2 ((42 + (20 * ((rdV sg my p 97 lq (t - 1)).toNat))) + t) (max 0 (rdV sg my p130 48 0 9)))))), (ne, .inl (ca 0, 60, .inl (zF sg)))] H := hP
                  have hD : va_D A [(mo, .inr (9, [.ref na, .ref nb, .ref nc, .ref nd, .int (bI (ms)), .int (nI mk), .ref ne, .int (nI my), .int (nI mt), .int (nI p158), .ref nf, .ref ng, .ref nh, .ref ni, .ref nj, .ref nl])), (nb, .inl (ca 0, 442, .inl (zF (upZ sv2 ((42 + (20 * ((rdV sg my p 97 lq (t - 1)).toNat))) + t) (max 0 (rdV sg my p130 48 0 9)))))), (ne, .inl (ca 0, 60, .inl (zF sg)))] := hD
                  refine lv_iconst (v := nI (0)) hx hb dX9_befores_110 (by decide) ?_
                  refine lv_istore_n (lv' := [(3, .int (nI 0)), (5, .int (iZ (rdV sg my p130 48 0 9))), (2, .int (nI ((rdV sg my p 97 lq (t - 1)).toNat))), (4, .int (iZ (rdV sg my p (97 + lq) 0 (t - 1 - lq)))), (0, .ref mo), (1, .int (nI t))]) hx hb dX9_befores_111 rfl hl (by decide) rfl (fun ls hl => ?_)
                  refine lv_goto (tgt := 4) hx hb dX9_befores_112 (by decide) ?_
                  have e9 : nI ((rdV sg my p 97 lq (t - 1)).toNat) = iZ ((((rdV sg my p 97 lq (t - 1)).toNat + 1 : Nat) : Int) - 1) := (by rw [iZ_n]; exact congrArg iZ (by omega))
                  have hl : lv_has ls 6 [(3, .int (nI 0)), (5, .int (iZ (rdV sg my p130 48 0 9))), (2, .int (iZ ((((rdV sg my p 97 lq (t - 1)).toNat + 1 : Nat) : Int) - 1))), (4, .int (iZ (rdV sg my p (97 + lq) 0 (t - 1 - lq)))), (0, .ref mo), (1, .int (nI t))] := by rw [← e9]; exact hl
                  exact ih4 ((rdV sg my p 97 lq (t - 1)).toNat + 1) p158 (upZ sv2 ((42 + (20 * ((rdV sg my p 97 lq (t - 1)).toNat))) + t) (max 0 (rdV sg my p130 48 0 9))) (upG G2 (rdV sg my p 97 lq (t - 1)).toNat t (max 0 (rdV sg my p130 48 0 9))) false (fz - 1) (by omega) hMS3 (fun h9 => by cases h9) (fun _ => by rw [hpd3, hfu, pd_b hv7 (hv30.trans hsP) hv58 (Or.inr hc43)]) (by show t - ((rdV sg my p 97 lq (t - 1)).toNat + 1) + 0 < n4; have e9 : gb.toNat = 1 := (by rw [h5]; rfl); omega) _ _ hP hD hS _ (lv_sub hl [0, 2, 4, 5] rfl)
                · skip
                  have h103 := (cE (iZ_toInt (by omega) (by omega)) z0_toInt).mp h103
                  have hc43 : rdC sg my p158 43 0 0 = true := by rcases hq5 with h9 | h9; exact h9.2; (exact absurd h9.1 (by omega))
                  have hq6 := (decide_eq_true_iff).mp hc43
                  have e9 : p158 + 1 = p1100 := Eq.symm (hv100.trans (rdP_t hc43))
                  subst e9
                  have hP : va_P D vwCl [(mo, .inr (9, [.ref na, .ref nb, .ref nc, .ref nd, .int (bI (ms)), .int (nI mk), .ref ne, .int (nI my), .int (nI mt), .int (nI ((p158 + 1))), .ref nf, .ref ng, .ref nh, .ref ni, .ref nj, .ref nl])), (nb, .inl (ca 0, 442, .inl (zF (upZ sv2 ((42 + (20 * ((rdV sg my p 97 lq (t - 1)).toNat))) + t) (max 0 (rdV sg my p130 48 0 9)))))), (ne, .inl (ca 0, 60, .inl (zF sg)))] H := hP
                  have hD : va_D A [(mo, .inr (9, [.ref na, .ref nb, .ref nc, .ref nd, .int (bI (ms)), .int (nI mk), .ref ne, .int (nI my), .int (nI mt), .int (nI ((p158 + 1))), .ref nf, .ref ng, .ref nh, .ref ni, .ref nj, .ref nl])), (nb, .inl (ca 0, 442, .inl (zF (upZ sv2 ((42 + (20 * ((rdV sg my p 97 lq (t - 1)).toNat))) + t) (max 0 (rdV sg my p130 48 0 9)))))), (ne, .inl (ca 0, 60, .inl (zF sg)))] := hD
                  refine lv_iconst (v := nI (1)) hx hb dX9_befores_106 (by decide) ?_
                  refine lv_goto (tgt := 111) hx hb dX9_befores_107 (by decide) ?_
                  refine lv_istore_n (lv' := [(3, .int (nI 1)), (5, .int (iZ (rdV sg my p130 48 0 9))), (2, .int (nI ((rdV sg my p 97 lq (t - 1)).toNat))), (4, .int (iZ (rdV sg my p (97 + lq) 0 (t - 1 - lq)))), (0, .ref mo), (1, .int (nI t))]) hx hb dX9_befores_111 rfl hl (by decide) rfl (fun ls hl => ?_)
                  refine lv_goto (tgt := 4) hx hb dX9_befores_112 (by decide) ?_
                  have e9 : nI ((rdV sg my p 97 lq (t - 1)).toNat) = iZ ((((rdV sg my p 97 lq (t - 1)).toNat + 1 : Nat) : Int) - 1) := (by rw [iZ_n]; exact congrArg iZ (by omega))
                  have hl : lv_has ls 6 [(3, .int (nI 1)), (5, .int (iZ (rdV sg my p130 48 0 9))), (2, .int (iZ ((((rdV sg my p 97 lq (t - 1)).toNat + 1 : Nat) : Int) - 1))), (4, .int (iZ (rdV sg my p (97 + lq) 0 (t - 1 - lq)))), (0, .ref mo), (1, .int (nI t))] := by rw [← e9]; exact hl
                  exact ih4 ((rdV sg my p 97 lq (t - 1)).toNat + 1) (p158 + 1) (upZ sv2 ((42 + (20 * ((rdV sg my p 97 lq (t - 1)).toNat))) + t) (max 0 (rdV sg my p130 48 0 9))) (upG G2 (rdV sg my p 97 lq (t - 1)).toNat t (max 0 (rdV sg my p130 48 0 9))) true (fz - 1) (by omega) hMS3 (fun _ => ⟨by omega, by omega, by rw [hpd3, hfu, pd_c hv7 (hv30.trans hsP) hv58 (by omega) hc43]; rfl⟩) (fun h9 => by cases h9) (by show t - ((rdV sg my p 97 lq (t - 1)).toNat + 1) + 1 < n4; have e9 : gb.toNat = 1 := (by rw [h5]; rfl); omega) _ _ hP hD hS _ (lv_sub hl [0, 2, 4, 5] rfl)
            · skip
              have h78 := (not_congr (cL z0_toInt (iZ_toInt (by omega) (by omega)))).mp h78
              refine lv_iconst (v := nI (0)) hx hb dX9_befores_81 (by decide) ?_
              refine xr_top (y := iZ (max 0 (rdV sg my p130 48 0 9))) (by rw [iZ_n]; exact congrArg iZ (by omega)) ?_
              refine lv_goto (tgt := 87) hx hb dX9_befores_82 (by decide) ?_
              refine xr_iast hx hb hK hP hD hS 1 0 rfl rfl (by omega) (Nat.le_of_ble_eq_true rfl) (zF (upZ sv2 ((42 + (20 * ((rdV sg my p 97 lq (t - 1)).toNat))) + t) (max 0 (rdV sg my p130 48 0 9)))) (fun _ _ => zF_up _ _ _ _) dX9_befores_87 (fun H locs hP hD hS => ?_)
              have hP : va_P D vwCl [(mo, .inr (9, [.ref na, .ref nb, .ref nc, .ref nd, .int (bI (ms)), .int (nI mk), .ref ne, .int (nI my), .int (nI mt), .int (nI p158), .ref nf, .ref ng, .ref nh, .ref ni, .ref nj, .ref nl])), (nb, .inl (ca 0, 442, .inl (zF (upZ sv2 ((42 + (20 * ((rdV sg my p 97 lq (t - 1)).toNat))) + t) (max 0 (rdV sg my p130 48 0 9)))))), (ne, .inl (ca 0, 60, .inl (zF sg)))] H := hP
              have hD : va_D A [(mo, .inr (9, [.ref na, .ref nb, .ref nc, .ref nd, .int (bI (ms)), .int (nI mk), .ref ne, .int (nI my), .int (nI mt), .int (nI p158), .ref nf, .ref ng, .ref nh, .ref ni, .ref nj, .ref nl])), (nb, .inl (ca 0, 442, .inl (zF (upZ sv2 ((42 + (20 * ((rdV sg my p 97 lq (t - 1)).toNat))) + t) (max 0 (rdV sg my p130 48 0 9)))))), (ne, .inl (ca 0, 60, .inl (zF sg)))] := hD
              have hMS3 : MS (upZ sv2 (42 + 20 * (rdV sg my p 97 lq (t - 1)).toNat + t) (max 0 (rdV sg my p130 48 0 9))) T C L N (upG G2 (rdV sg my p 97 lq (t - 1)).toNat t (max 0 (rdV sg my p130 48 0 9))) := MS_upG hMS (by omega) (by omega) (by omega)
              refine lv_iload_n hx hb dX9_befores_88 rfl (lv_at hl 1 rfl) ?_
              refine lv_iload_n hx hb dX9_befores_89 rfl (lv_at hl 5 rfl) ?_
              refine lv_iconst (v := nI (1)) hx hb dX9_befores_90 (by decide) ?_
              refine xr_isub_nn hx hb dX9_befores_91 ?_
              refine lv_icmp_ge (tgt := 110) hx hb dX9_befores_92 (by decide) (fun h92 => ?_) (fun h92 => ?_)
              · skip
                have h92 := (cL (iZ_toInt (by omega) (by omega)) (nI_toInt (by omega))).mp h92
                refine lv_iconst (v := nI (0)) hx hb dX9_befores_110 (by decide) ?_
                refine lv_istore_n (lv' := [(3, .int (nI 0)), (5, .int (iZ (rdV sg my p130 48 0 9))), (2, .int (nI ((rdV sg my p 97 lq (t - 1)).toNat))), (4, .int (iZ (rdV sg my p (97 + lq) 0 (t - 1 - lq)))), (0, .ref mo), (1, .int (nI t))]) hx hb dX9_befores_111 rfl hl (by decide) rfl (fun ls hl => ?_)
                refine lv_goto (tgt := 4) hx hb dX9_befores_112 (by decide) ?_
                have e9 : nI ((rdV sg my p 97 lq (t - 1)).toNat) = iZ ((((rdV sg my p 97 lq (t - 1)).toNat + 1 : Nat) : Int) - 1) := (by rw [iZ_n]; exact congrArg iZ (by omega))
                have hl : lv_has ls 6 [(3, .int (nI 0)), (5, .int (iZ (rdV sg my p130 48 0 9))), (2, .int (iZ ((((rdV sg my p 97 lq (t - 1)).toNat + 1 : Nat) : Int) - 1))), (4, .int (iZ (rdV sg my p (97 + lq) 0 (t - 1 - lq)))), (0, .ref mo), (1, .int (nI t))] := by rw [← e9]; exact hl
                exact ih4 ((rdV sg my p 97 lq (t - 1)).toNat + 1) p158 (upZ sv2 ((42 + (20 * ((rdV sg my p 97 lq (t - 1)).toNat))) + t) (max 0 (rdV sg my p130 48 0 9))) (upG G2 (rdV sg my p 97 lq (t - 1)).toNat t (max 0 (rdV sg my p130 48 0 9))) false (fz - 1) (by omega) hMS3 (fun h9 => by cases h9) (fun _ => by rw [hpd3, hfu, pd_b hv7 (hv30.trans hsP) hv58 (Or.inl (by omega))]) (by show t - ((rdV sg my p 97 lq (t - 1)).toNat + 1) + 0 < n4; have e9 : gb.toNat = 1 := (by rw [h5]; rfl); omega) _ _ hP hD hS _ (lv_sub hl [0, 2, 4, 5] rfl)
              · skip
                have h92 := (not_congr (cL (iZ_toInt (by omega) (by omega)) (nI_toInt (by omega)))).mp h92
                refine lv_aload_n hx hb dX9_befores_95 rfl (lv_at hl 4 rfl) ?_
                refine lv_bipush (v := nI (43)) hx hb dX9_befores_96 (by decide) ?_
                refine lv_bipush (v := nI (43)) hx hb dX9_befores_98 (by decide) ?_
                refine xk_i [(nb, .inl (ca 0, 442, .inl (zF (upZ sv2 ((42 + (20 * ((rdV sg my p 97 lq (t - 1)).toNat))) + t) (max 0 (rdV sg my p130 48 0 9))))))] (fun u => [(mo, .inr (9, [.ref na, .ref nb, .ref nc, .ref nd, .int (bI (ms)), .int (nI mk), .ref ne, .int (nI my), .int (nI mt), .int (nI u), .ref nf, .ref ng, .ref nh, .ref ni, .ref nj, .ref nl])), (nb, .inl (ca 0, 442, .inl (zF (upZ sv2 ((42 + (20 * ((rdV sg my p 97 lq (t - 1)).toNat))) + t) (max 0 (rdV sg my p130 48 0 9)))))), (ne, .inl (ca 0, 60, .inl (zF sg)))]) (xk_V (As := [.int (nI 43), .int (nI 43)]) (rest := []) ⟨hx, hb, hml, hown, hts⟩ (mX9_next l D ca H.size mo na nb nc nd ne nf ng nh ni nj nl ms mk my mt p158 sg 43 43 0 (by omega) hsg (by omega) (by omega)) (cwV 2 hts gX9_befores_X9_next rfl rfl rfl (by decide +kernel) ⟨Nat.le_of_ble_eq_true rfl, Nat.le_of_ble_eq_true rfl⟩) hK hP hD (va_recv (q := (RX9, TX9, 16)) hK hP (ci := 9) (q0 := 0) rfl rfl) [0, 2] rfl rfl rfl hl.1 rfl (Nat.le_of_ble_eq_true rfl) dX9_befores_100 ⟨Nat.le_of_ble_eq_true rfl, Nat.le_of_ble_eq_true rfl⟩) hP hD hS hA [0, 2] [1] [1, 0, 2] rfl rfl rfl rfl (fun _ => rfl) rfl (fun r100 u100 H locs hw100 hP hD hS => ?_)
                obtain ⟨p1100, hu100⟩ : ∃ z, z = u100 := ⟨_, rfl⟩
                subst hu100
                have hw100 : r100 = iZ (rdV sg my p158 43 0 0) ∧ p1100 = rdP sg my p158 43 0 0 := hw100
                have hP : va_P D vwCl [(mo, .inr (9, [.ref na, .ref nb, .ref nc, .ref nd, .int (bI (ms)), .int (nI mk), .ref ne, .int (nI my), .int (nI mt), .int (nI p1100), .ref nf, .ref ng, .ref nh, .ref ni, .ref nj, .ref nl])), (nb, .inl (ca 0, 442, .inl (zF (upZ sv2 ((42 + (20 * ((rdV sg my p 97 lq (t - 1)).toNat))) + t) (max 0 (rdV sg my p130 48 0 9)))))), (ne, .inl (ca 0, 60, .inl (zF sg)))] H := hP
                have hD : va_D A [(mo, .inr (9, [.ref na, .ref nb, .ref nc, .ref nd, .int (bI (ms)), .int (nI mk), .ref ne, .int (nI my), .int (nI mt), .int (nI p1100), .ref nf, .ref ng, .ref nh, .ref ni, .ref nj, .ref nl])), (nb, .inl (ca 0, 442, .inl (zF (upZ sv2 ((42 + (20 * ((rdV sg my p 97 lq (t - 1)).toNat))) + t) (max 0 (rdV sg my p130 48 0 9)))))), (ne, .inl (ca 0, 60, .inl (zF sg)))] := hD
                obtain ⟨hwr100, hv100⟩ := hw100
                subst hwr100
                have hq5 := rd0V (sg := sg) (tl := my) (p := p158) (z := 43)
                refine lv_if_ne (tgt := 110) hx hb dX9_befores_103 (by decide) (fun h103 => ?_) (fun h103 => ?_)
                · skip
                  have h103 := (not_congr (cE (iZ_toInt (by omega) (by omega)) z0_toInt)).mp h103
                  have hc43 : rdC sg my p158 43 0 0 = false := by rcases hq5 with h9 | h9; (exact absurd h9.1 (by omega)); exact h9.2
                  have e9 : p158 = p1100 := Eq.symm (hv100.trans (rdP_f hc43))
                  subst e9
                  have hP : va_P D vwCl [(mo, .inr (9, [.ref na, .ref nb, .ref nc, .ref nd, .int (bI (ms)), .int (nI mk), .ref ne, .int (nI my), .int (nI mt), .int (nI p158), .ref nf, .ref ng, .ref nh, .ref ni, .ref nj, .ref nl])), (nb, .inl (ca 0, 442, .inl (zF (upZ sv2 ((42 + (20 * ((rdV sg my p 97 lq (t - 1)).toNat))) + t) (max 0 (rdV sg my p130 48 0 9)))))), (ne, .inl (ca 0, 60, .inl (zF sg)))] H := hP
                  have hD : va_D A [(mo, .inr (9, [.ref na, .ref nb, .ref nc, .ref nd, .int (bI (ms)), .int (nI mk), .ref ne, .int (nI my), .int (nI mt), .int (nI p158), .ref nf, .ref ng, .ref nh, .ref ni, .ref nj, .ref nl])), (nb, .inl (ca 0, 442, .inl (zF (upZ sv2 ((42 + (20 * ((rdV sg my p 97 lq (t - 1)).toNat))) + t) (max 0 (rdV sg my p130 48 0 9)))))), (ne, .inl (ca 0, 60, .inl (zF sg)))] := hD
                  refine lv_iconst (v := nI (0)) hx hb dX9_befores_110 (by decide) ?_
                  refine lv_istore_n (lv' := [(3, .int (nI 0)), (5, .int (iZ (rdV sg my p130 48 0 9))), (2, .int (nI ((rdV sg my p 97 lq (t - 1)).toNat))), (4, .int (iZ (rdV sg my p (97 + lq) 0 (t - 1 - lq)))), (0, .ref mo), (1, .int (nI t))]) hx hb dX9_befores_111 rfl hl (by decide) rfl (fun ls hl => ?_)
                  refine lv_goto (tgt := 4) hx hb dX9_befores_112 (by decide) ?_
                  have e9 : nI ((rdV sg my p 97 lq (t - 1)).toNat) = iZ ((((rdV sg my p 97 lq (t - 1)).toNat + 1 : Nat) : Int) - 1) := (by rw [iZ_n]; exact congrArg iZ (by omega))
                  have hl : lv_has ls 6 [(3, .int (nI 0)), (5, .int (iZ (rdV sg my p130 48 0 9))), (2, .int (iZ ((((rdV sg my p 97 lq (t - 1)).toNat + 1 : Nat) : Int) - 1))), (4, .int (iZ (rdV sg my p (97 + lq) 0 (t - 1 - lq)))), (0, .ref mo), (1, .int (nI t))] := by rw [← e9]; exact hl
                  exact ih4 ((rdV sg my p 97 lq (t - 1)).toNat + 1) p158 (upZ sv2 ((42 + (20 * ((rdV sg my p 97 lq (t - 1)).toNat))) + t) (max 0 (rdV sg my p130 48 0 9))) (upG G2 (rdV sg my p 97 lq (t - 1)).toNat t (max 0 (rdV sg my p130 48 0 9))) false (fz - 1) (by omega) hMS3 (fun h9 => by cases h9) (fun _ => by rw [hpd3, hfu, pd_b hv7 (hv30.trans hsP) hv58 (Or.inr hc43)]) (by show t - ((rdV sg my p 97 lq (t - 1)).toNat + 1) + 0 < n4; have e9 : gb.toNat = 1 := (by rw [h5]; rfl); omega) _ _ hP hD hS _ (lv_sub hl [0, 2, 4, 5] rfl)
                · skip
                  have h103 := (cE (iZ_toInt (by omega) (by omega)) z0_toInt).mp h103
                  have hc43 : rdC sg my p158 43 0 0 = true := by rcases hq5 with h9 | h9; exact h9.2; (exact absurd h9.1 (by omega))
                  have hq6 := (decide_eq_true_iff).mp hc43
                  have e9 : p158 + 1 = p1100 := Eq.symm (hv100.trans (rdP_t hc43))
                  subst e9
                  have hP : va_P D vwCl [(mo, .inr (9, [.ref na, .ref nb, .ref nc, .ref nd, .int (bI (ms)), .int (nI mk), .ref ne, .int (nI my), .int (nI mt), .int (nI ((p158 + 1))), .ref nf, .ref ng, .ref nh, .ref ni, .ref nj, .ref nl])), (nb, .inl (ca 0, 442, .inl (zF (upZ sv2 ((42 + (20 * ((rdV sg my p 97 lq (t - 1)).toNat))) + t) (max 0 (rdV sg my p130 48 0 9)))))), (ne, .inl (ca 0, 60, .inl (zF sg)))] H := hP
                  have hD : va_D A [(mo, .inr (9, [.ref na, .ref nb, .ref nc, .ref nd, .int (bI (ms)), .int (nI mk), .ref ne, .int (nI my), .int (nI mt), .int (nI ((p158 + 1))), .ref nf, .ref ng, .ref nh, .ref ni, .ref nj, .ref nl])), (nb, .inl (ca 0, 442, .inl (zF (upZ sv2 ((42 + (20 * ((rdV sg my p 97 lq (t - 1)).toNat))) + t) (max 0 (rdV sg my p130 48 0 9)))))), (ne, .inl (ca 0, 60, .inl (zF sg)))] := hD
                  refine lv_iconst (v := nI (1)) hx hb dX9_befores_106 (by decide) ?_
                  refine lv_goto (tgt := 111) hx hb dX9_befores_107 (by decide) ?_
                  refine lv_istore_n (lv' := [(3, .int (nI 1)), (5, .int (iZ (rdV sg my p130 48 0 9))), (2, .int (nI ((rdV sg my p 97 lq (t - 1)).toNat))), (4, .int (iZ (rdV sg my p (97 + lq) 0 (t - 1 - lq)))), (0, .ref mo), (1, .int (nI t))]) hx hb dX9_befores_111 rfl hl (by decide) rfl (fun ls hl => ?_)
                  refine lv_goto (tgt := 4) hx hb dX9_befores_112 (by decide) ?_
                  have e9 : nI ((rdV sg my p 97 lq (t - 1)).toNat) = iZ ((((rdV sg my p 97 lq (t - 1)).toNat + 1 : Nat) : Int) - 1) := (by rw [iZ_n]; exact congrArg iZ (by omega))
                  have hl : lv_has ls 6 [(3, .int (nI 1)), (5, .int (iZ (rdV sg my p130 48 0 9))), (2, .int (iZ ((((rdV sg my p 97 lq (t - 1)).toNat + 1 : Nat) : Int) - 1))), (4, .int (iZ (rdV sg my p (97 + lq) 0 (t - 1 - lq)))), (0, .ref mo), (1, .int (nI t))] := by rw [← e9]; exact hl
                  exact ih4 ((rdV sg my p 97 lq (t - 1)).toNat + 1) (p158 + 1) (upZ sv2 ((42 + (20 * ((rdV sg my p 97 lq (t - 1)).toNat))) + t) (max 0 (rdV sg my p130 48 0 9))) (upG G2 (rdV sg my p 97 lq (t - 1)).toNat t (max 0 (rdV sg my p130 48 0 9))) true (fz - 1) (by omega) hMS3 (fun _ => ⟨by omega, by omega, by rw [hpd3, hfu, pd_c hv7 (hv30.trans hsP) hv58 (by omega) hc43]; rfl⟩) (fun h9 => by cases h9) (by show t - ((rdV sg my p 97 lq (t - 1)).toNat + 1) + 1 < n4; have e9 : gb.toNat = 1 := (by rw [h5]; rfl); omega) _ _ hP hD hS _ (lv_sub hl [0, 2, 4, 5] rfl)
          · skip
            have h41 := (not_congr (cL z0_toInt (iZ_toInt (by omega) (by omega)))).mp h41
            refine lv_iconst (v := nI (0)) hx hb dX9_befores_44 (by decide) ?_
            have h9 := pd_a (G := G2) (f := fz - 1) (show rdV sg my p 97 lq (t - 1) = -1 by omega)
            rw [← hE]
            exact xe_z (p130, sv2) hx hb hr hlocks hK hP hD hS rfl (⟨by rw [hpd3, hfu, h9]; rfl, by rw [hpd3, hfu, h9]; exact hv30.trans hsP, by rw [hpd3, hfu, h9]; exact hMS⟩) dX9_befores_45
  exact L4 _ 0 mp sv G true t (by omega) hM (fun _ => ⟨by omega, by omega, rfl⟩) (fun h9 => by cases h9) (Nat.lt_succ_self _) _ _ hP hD hS _ (lv_sub hl [0, 1, 2, 3] rfl)
def rX9_task : Room := { frames := 3, cells := 0, slots := 0, locals := 69 }
set_option maxHeartbeats 4000000 in
set_option maxRecDepth 100000 in
theorem mX9_task (l : Launch) (D : va_G) (ca : Nat → ClassId) (sz : Nat) (mo : Nat) (na : Nat) (nb : Nat) (nc : Nat) (nd : Nat) (ne : Nat) (nf : Nat) (ng : Nat) (nh : Nat) (ni : Nat) (nj : Nat) (nl : Nat) (ms : Bool) (mk : Nat) (my : Nat) (mt : Nat) (mp : Nat) (sv : Nat → Int) (sg : Nat → Int) (T : Nat) (C : Int) (L : Nat → Int) (N : Nat → Int) (G : Nat → Nat → Int) (hmy : my ≤ 60) (hsg : ∀ j, j < 60 → 0 ≤ sg j ∧ sg j ≤ 65535) (hmp : mp ≤ my) (hM : MS sv T C L N G) (hT : T < 20) : MM l yX9_task wsX9_task rX9_task D ca [.ref mo, .int (nI T)] sz [(mo, .inr (9, [.ref na, .ref nb, .ref nc, .ref nd, .int (bI (ms)), .int (nI mk), .ref ne, .int (nI my), .int (nI mt), .int (nI mp), .ref nf, .ref ng, .ref nh, .ref ni, .ref nj, .ref nl])), (nb, .inl (ca 0, 442, .inl (zF sv))), (ne, .inl (ca 0, 60, .inl (zF sg)))] (QI D ca (fun (r : Int32) (u : Nat × (Nat → Int)) => r = bI (tkN sg my T mp G).1 ∧ u.1 = (tkN sg my T mp G).2.1 ∧ ((tkN sg my T mp G).1 = true → MS u.2 (T + 1) C (upZ L T (tkN sg my T mp G).2.2.1) (upZ N T (tkN sg my T mp G).2.2.2.1) (tkN sg my T mp G).2.2.2.2)) (fun u => [(mo, .inr (9, [.ref na, .ref nb, .ref nc, .ref nd, .int (bI (ms)), .int (nI mk), .ref ne, .int (nI my), .int (nI mt), .int (nI u.1), .ref nf, .ref ng, .ref nh, .ref ni, .ref nj, .ref nl])), (nb, .inl (ca 0, 442, .inl (zF u.2))), (ne, .inl (ca 0, 60, .inl (zF sg)))])) := by
  refine MM_of (cc := cX9_task) (maxL := 5) (ret := (some .boolean)) (lv0 := [(0, .ref mo), (1, .int (nI T))]) RX9 (by decide) rfl rfl (Nat.le_of_ble_eq_true rfl) rfl ?_
  intro pG eV s mI args below meth cO hx hb hr hml hts hown hlocks hnm A hA H locs hsz hP hK hD hS Q hE ls hl
  have f13 := hts (.fieldLink RX9 13 "SlackPlanModel" "then" "[I") (List.mem_of_getElem? (i := 1) rfl)
  have inX9 : ∀ w ∈ u_ws RX9 TX9 16, w ∈ wsX9_task := in_r _ [24, 25, 26, 27, 28, 29, 30, 31, 32, 33, 34, 35, 36, 37, 38, 39] rfl
  refine lv_aload_n hx hb dX9_task_0 rfl (lv_at hl 0 rfl) ?_
  refine lv_bipush (v := nI (97)) hx hb dX9_task_1 (by decide) ?_
  refine lv_iload_n hx hb dX9_task_3 rfl (lv_at hl 1 rfl) ?_
  refine xr_iadd hx hb dX9_task_4 ?_
  refine lv_i2c (v := nI (97 + T)) hx hb dX9_task_5 (c16 (by omega)) ?_
  refine lv_bipush (v := nI (97)) hx hb dX9_task_6 (by decide) ?_
  refine lv_iload_n hx hb dX9_task_8 rfl (lv_at hl 1 rfl) ?_
  refine xr_iadd hx hb dX9_task_9 ?_
  refine lv_i2c (v := nI (97 + T)) hx hb dX9_task_10 (c16 (by omega)) ?_
  refine xk_i [(nb, .inl (ca 0, 442, .inl (zF sv)))] (fun u => [(mo, .inr (9, [.ref na, .ref nb, .ref nc, .ref nd, .int (bI (ms)), .int (nI mk), .ref ne, .int (nI my), .int (nI mt), .int (nI u), .ref nf, .ref ng, .ref nh, .ref ni, .ref nj, .ref nl])), (nb, .inl (ca 0, 442, .inl (zF sv))), (ne, .inl (ca 0, 60, .inl (zF sg)))]) (xk_V (As := [.int (nI (97 + T)), .int (nI (97 + T))]) (rest := []) ⟨hx, hb, hml, hown, hts⟩ (mX9_next l D ca H.size mo na nb nc nd ne nf ng nh ni nj nl ms mk my mt mp sg (97 + T) (97 + T) 0 (by omega) hsg (by omega) (by omega)) (cwV 2 hts gX9_task_X9_next rfl rfl rfl (by decide +kernel) ⟨Nat.le_of_ble_eq_true rfl, Nat.le_of_ble_eq_true rfl⟩) hK hP hD (va_recv (q := (RX9, TX9, 16)) hK hP (ci := 9) (q0 := 0) rfl rfl) [0, 2] rfl rfl rfl hl.1 rfl (Nat.le_of_ble_eq_true rfl) dX9_task_11 ⟨Nat.le_of_ble_eq_true rfl, Nat.le_of_ble_eq_true rfl⟩) hP hD hS hA [0, 2] [1] [1, 0, 2] rfl rfl rfl rfl (fun _ => rfl) rfl (fun r11 u11 H locs hw11 hP hD hS => ?_)
  obtain ⟨p111, hu11⟩ : ∃ z, z = u11 := ⟨_, rfl⟩
  subst hu11
  have hw11 : r11 = iZ (rdV sg my mp (97 + T) 0 0) ∧ p111 = rdP sg my mp (97 + T) 0 0 := hw11
  have hP : va_P D vwCl [(mo, .inr (9, [.ref na, .ref nb, .ref nc, .ref nd, .int (bI (ms)), .int (nI mk), .ref ne, .int (nI my), .int (nI mt), .int (nI p111), .ref nf, .ref ng, .ref nh, .ref ni, .ref nj, .ref nl])), (nb, .inl (ca 0, 442, .inl (zF sv))), (ne, .inl (ca 0, 60, .inl (zF sg)))] H := hP
  have hD : va_D A [(mo, .inr (9, [.ref na, .ref nb, .ref nc, .ref nd, .int (bI (ms)), .int (nI mk), .ref ne, .int (nI my), .int (nI mt), .int (nI p111), .ref nf, .ref ng, .ref nh, .ref ni, .ref nj, .ref nl])), (nb, .inl (ca 0, 442, .inl (zF sv))), (ne, .inl (ca 0, 60, .inl (zF sg)))] := hD
  obtain ⟨hwr11, hv11⟩ := hw11
  subst hwr11
  have hq1 := rdV_rng sg my mp (97 + T) 0 0
  refine lv_if_ge (tgt := 21) hx hb dX9_task_14 (by decide) (fun h14 => ?_) (fun h14 => ?_)
  · skip
    have h14 := (cL z0_toInt (iZ_toInt (by omega) (by omega))).mp h14
    have hc97 : rdC sg my mp (97 + T) 0 0 = true := by rcases rd0V (sg := sg) (tl := my) (p := mp) (z := (97 + T)) with h9 | h9; (first | exact h9.2 | exact absurd h9.1 (by omega)); (first | exact h9.2 | exact absurd h9.1 (by omega))
    have hq97 := (decide_eq_true_iff).mp hc97
    have e9 : mp + 1 = p111 := Eq.symm (hv11.trans (rdP_t hc97))
    subst e9
    have hP : va_P D vwCl [(mo, .inr (9, [.ref na, .ref nb, .ref nc, .ref nd, .int (bI (ms)), .int (nI mk), .ref ne, .int (nI my), .int (nI mt), .int (nI ((mp + 1))), .ref nf, .ref ng, .ref nh, .ref ni, .ref nj, .ref nl])), (nb, .inl (ca 0, 442, .inl (zF sv))), (ne, .inl (ca 0, 60, .inl (zF sg)))] H := hP
    have hD : va_D A [(mo, .inr (9, [.ref na, .ref nb, .ref nc, .ref nd, .int (bI (ms)), .int (nI mk), .ref ne, .int (nI my), .int (nI mt), .int (nI ((mp + 1))), .ref nf, .ref ng, .ref nh, .ref ni, .ref nj, .ref nl])), (nb, .inl (ca 0, 442, .inl (zF sv))), (ne, .inl (ca 0, 60, .inl (zF sg)))] := hD
    refine lv_aload_n hx hb dX9_task_21 rfl (lv_at hl 0 rfl) ?_
    refine xk_i [(nb, .inl (ca 0, 442, .inl (zF sv)))] (fun u => [(mo, .inr (9, [.ref na, .ref nb, .ref nc, .ref nd, .int (bI (ms)), .int (nI mk), .ref ne, .int (nI my), .int (nI mt), .int (nI u), .ref nf, .ref ng, .ref nh, .ref ni, .ref nj, .ref nl])), (nb, .inl (ca 0, 442, .inl (zF sv))), (ne, .inl (ca 0, 60, .inl (zF sg)))]) (xk_V (As := []) (rest := []) ⟨hx, hb, hml, hown, hts⟩ (mX9_number l D ca H.size mo na nb nc nd ne nf ng nh ni nj nl ms mk my mt (mp + 1) sg (by omega) hsg (by omega)) (cwV 0 hts gX9_task_X9_number rfl rfl rfl (by decide +kernel) ⟨Nat.le_of_ble_eq_true rfl, Nat.le_of_ble_eq_true rfl⟩) hK hP hD (va_recv (q := (RX9, TX9, 16)) hK hP (ci := 9) (q0 := 0) rfl rfl) [0, 2] rfl rfl rfl hl.1 rfl (Nat.le_of_ble_eq_true rfl) dX9_task_22 ⟨Nat.le_of_ble_eq_true rfl, Nat.le_of_ble_eq_true rfl⟩) hP hD hS hA [0, 2] [1] [1, 0, 2] rfl rfl rfl rfl (fun _ => rfl) rfl (fun r22 u22 H locs hw22 hP hD hS => ?_)
    obtain ⟨p122, hu22⟩ : ∃ z, z = u22 := ⟨_, rfl⟩
    subst hu22
    have hw22 : r22 = iZ (lnV sg my (mp + 1)) ∧ p122 = lnP sg my (mp + 1) := hw22
    have hP : va_P D vwCl [(mo, .inr (9, [.ref na, .ref nb, .ref nc, .ref nd, .int (bI (ms)), .int (nI mk), .ref ne, .int (nI my), .int (nI mt), .int (nI p122), .ref nf, .ref ng, .ref nh, .ref ni, .ref nj, .ref nl])), (nb, .inl (ca 0, 442, .inl (zF sv))), (ne, .inl (ca 0, 60, .inl (zF sg)))] H := hP
    have hD : va_D A [(mo, .inr (9, [.ref na, .ref nb, .ref nc, .ref nd, .int (bI (ms)), .int (nI mk), .ref ne, .int (nI my), .int (nI mt), .int (nI p122), .ref nf, .ref ng, .ref nh, .ref ni, .ref nj, .ref nl])), (nb, .inl (ca 0, 442, .inl (zF sv))), (ne, .inl (ca 0, 60, .inl (zF sg)))] := hD
    obtain ⟨hwr22, hv22⟩ := hw22
    subst hwr22
    have hq2 := lnV_rng sg my (mp + 1)
    have hq3 := lnP_le sg my (mp + 1) (by omega)
    refine lv_istore_n (lv' := [(2, .int (iZ (lnV sg my (mp + 1)))), (0, .ref mo), (1, .int (nI T))]) hx hb dX9_task_25 rfl hl (by decide) rfl (fun ls hl => ?_)
    refine lv_iload_n hx hb dX9_task_26 rfl (lv_at hl 0 rfl) ?_
    refine lv_if_lt (tgt := 45) hx hb dX9_task_27 (by decide) (fun h27 => ?_) (fun h27 => ?_)
    · skip
      have h27 := (cT (iZ_toInt (by omega) (by omega)) z0_toInt).mp h27
      refine lv_iconst (v := nI (0)) hx hb dX9_task_45 (by decide) ?_
      refine lv_istore_n (lv' := [(3, .int (nI 0)), (2, .int (iZ (lnV sg my (mp + 1)))), (0, .ref mo), (1, .int (nI T))]) hx hb dX9_task_46 rfl hl (by decide) rfl (fun ls hl => ?_)
      refine lv_iload_n hx hb dX9_task_47 rfl (lv_at hl 0 rfl) ?_
      refine lv_if_eq (tgt := 62) hx hb dX9_task_48 (by decide) (fun h48 => ?_) (fun h48 => ?_)
      · skip
        have h48 := (cE (nI_toInt (by omega)) z0_toInt).mp h48
        refine lv_iconst (v := iZ 1) hx hb dX9_task_62 (by decide) ?_
        refine lv_istore (lv' := [(4, .int (iZ 1)), (3, .int (nI 0)), (2, .int (iZ (lnV sg my (mp + 1)))), (0, .ref mo), (1, .int (nI T))]) hx hb dX9_task_63 hl (by decide) rfl (fun ls hl => ?_)
        refine lv_iload_n hx hb dX9_task_65 rfl (lv_at hl 2 rfl) ?_
        refine lv_if_lt (tgt := 74) hx hb dX9_task_66 (by decide) (fun h66 => ?_) (fun h66 => ?_)
        · skip
          have h66 := (cT (iZ_toInt (by omega) (by omega)) z0_toInt).mp h66
          refine lv_iconst (v := nI (0)) hx hb dX9_task_74 (by decide) ?_
          have h9 := tk_b (G := G) hc97 (by omega) hv22
          rw [← hE]
          exact xe_z (p122, sv) hx hb hr hlocks hK hP hD hS rfl (⟨by rw [h9]; rfl, by rw [h9], fun k9 => by rw [h9] at k9; cases k9⟩) dX9_task_75
        · skip
          have h66 := (not_congr (cT (iZ_toInt (by omega) (by omega)) z0_toInt)).mp h66
          exfalso; omega
      · skip
        have h48 := (not_congr (cE (nI_toInt (by omega)) z0_toInt)).mp h48
        exact absurd h48 (by omega)
    · skip
      have h27 := (not_congr (cT (iZ_toInt (by omega) (by omega)) z0_toInt)).mp h27
      refine lv_aload_n hx hb dX9_task_30 rfl (lv_at hl 1 rfl) ?_
      refine lv_bipush (v := nI (42)) hx hb dX9_task_31 (by decide) ?_
      refine lv_bipush (v := nI (42)) hx hb dX9_task_33 (by decide) ?_
      refine xk_i [(nb, .inl (ca 0, 442, .inl (zF sv)))] (fun u => [(mo, .inr (9, [.ref na, .ref nb, .ref nc, .ref nd, .int (bI (ms)), .int (nI mk), .ref ne, .int (nI my), .int (nI mt), .int (nI u), .ref nf, .ref ng, .ref nh, .ref ni, .ref nj, .ref nl])), (nb, .inl (ca 0, 442, .inl (zF sv))), (ne, .inl (ca 0, 60, .inl (zF sg)))]) (xk_V (As := [.int (nI 42), .int (nI 42)]) (rest := []) ⟨hx, hb, hml, hown, hts⟩ (mX9_next l D ca H.size mo na nb nc nd ne nf ng nh ni nj nl ms mk my mt p122 sg 42 42 0 (by omega) hsg (by omega) (by omega)) (cwV 2 hts gX9_task_X9_next rfl rfl rfl (by decide +kernel) ⟨Nat.le_of_ble_eq_true rfl, Nat.le_of_ble_eq_true rfl⟩) hK hP hD (va_recv (q := (RX9, TX9, 16)) hK hP (ci := 9) (q0 := 0) rfl rfl) [0, 2] rfl rfl rfl hl.1 rfl (Nat.le_of_ble_eq_true rfl) dX9_task_35 ⟨Nat.le_of_ble_eq_true rfl, Nat.le_of_ble_eq_true rfl⟩) hP hD hS hA [0, 2] [1] [1, 0, 2] rfl rfl rfl rfl (fun _ => rfl) rfl (fun r35 u35 H locs hw35 hP hD hS => ?_)
      obtain ⟨p135, hu35⟩ : ∃ z, z = u35 := ⟨_, rfl⟩
      subst hu35
      have hw35 : r35 = iZ (rdV sg my p122 42 0 0) ∧ p135 = rdP sg my p122 42 0 0 := hw35
      have hP : va_P D vwCl [(mo, .inr (9, [.ref na, .ref nb, .ref nc, .ref nd, .int (bI (ms)), .int (nI mk), .ref ne, .int (nI my), .int (nI mt), .int (nI p135), .ref nf, .ref ng, .ref nh, .ref ni, .ref nj, .ref nl])), (nb, .inl (ca 0, 442, .inl (zF sv))), (ne, .inl (ca 0, 60, .inl (zF sg)))] H := hP
      have hD : va_D A [(mo, .inr (9, [.ref na, .ref nb, .ref nc, .ref nd, .int (bI (ms)), .int (nI mk), .ref ne, .int (nI my), .int (nI mt), .int (nI p135), .ref nf, .ref ng, .ref nh, .ref ni, .ref nj, .ref nl])), (nb, .inl (ca 0, 442, .inl (zF sv))), (ne, .inl (ca 0, 60, .inl (zF sg)))] := hD
      obtain ⟨hwr35, hv35⟩ := hw35
      subst hwr35
      have hq4 := rdV_rng sg my p122 42 0 0
      refine lv_if_ne (tgt := 45) hx hb dX9_task_38 (by decide) (fun h38 => ?_) (fun h38 => ?_)
      · skip
        have h38 := (not_congr (cE (iZ_toInt (by omega) (by omega)) z0_toInt)).mp h38
        have hc42 : rdC sg my p122 42 0 0 = false := by rcases rd0V (sg := sg) (tl := my) (p := p122) (z := 42) with h9 | h9; (first | exact h9.2 | exact absurd h9.1 (by omega)); (first | exact h9.2 | exact absurd h9.1 (by omega))
        have e9 : p122 = p135 := Eq.symm (hv35.trans (rdP_f hc42))
        subst e9
        have hP : va_P D vwCl [(mo, .inr (9, [.ref na, .ref nb, .ref nc, .ref nd, .int (bI (ms)), .int (nI mk), .ref ne, .int (nI my), .int (nI mt), .int (nI p122), .ref nf, .ref ng, .ref nh, .ref ni, .ref nj, .ref nl])), (nb, .inl (ca 0, 442, .inl (zF sv))), (ne, .inl (ca 0, 60, .inl (zF sg)))] H := hP
        have hD : va_D A [(mo, .inr (9, [.ref na, .ref nb, .ref nc, .ref nd, .int (bI (ms)), .int (nI mk), .ref ne, .int (nI my), .int (nI mt), .int (nI p122), .ref nf, .ref ng, .ref nh, .ref ni, .ref nj, .ref nl])), (nb, .inl (ca 0, 442, .inl (zF sv))), (ne, .inl (ca 0, 60, .inl (zF sg)))] := hD
        refine lv_iconst (v := nI (0)) hx hb dX9_task_45 (by decide) ?_
        refine lv_istore_n (lv' := [(3, .int (nI 0)), (2, .int (iZ (lnV sg my (mp + 1)))), (0, .ref mo), (1, .int (nI T))]) hx hb dX9_task_46 rfl hl (by decide) rfl (fun ls hl => ?_)
        refine lv_iload_n hx hb dX9_task_47 rfl (lv_at hl 0 rfl) ?_
        refine lv_if_eq (tgt := 62) hx hb dX9_task_48 (by decide) (fun h48 => ?_) (fun h48 => ?_)
        · skip
          have h48 := (cE (nI_toInt (by omega)) z0_toInt).mp h48
          refine lv_iconst (v := iZ 1) hx hb dX9_task_62 (by decide) ?_
          refine lv_istore (lv' := [(4, .int (iZ 1)), (3, .int (nI 0)), (2, .int (iZ (lnV sg my (mp + 1)))), (0, .ref mo), (1, .int (nI T))]) hx hb dX9_task_63 hl (by decide) rfl (fun ls hl => ?_)
          refine lv_iload_n hx hb dX9_task_65 rfl (lv_at hl 2 rfl) ?_
          refine lv_if_lt (tgt := 74) hx hb dX9_task_66 (by decide) (fun h66 => ?_) (fun h66 => ?_)
          · skip
            have h66 := (cT (iZ_toInt (by omega) (by omega)) z0_toInt).mp h66
            exfalso; omega
          · skip
            have h66 := (not_congr (cT (iZ_toInt (by omega) (by omega)) z0_toInt)).mp h66
            refine lv_iload hx hb dX9_task_69 (lv_at hl 0 rfl) ?_
            refine lv_if_ge (tgt := 76) hx hb dX9_task_71 (by decide) (fun h71 => ?_) (fun h71 => ?_)
            · skip
              have h71 := (cL z0_toInt (iZ_toInt (by omega) (by omega))).mp h71
              refine lv_aload_n hx hb dX9_task_76 rfl (lv_at hl 3 rfl) ?_
              refine va_get (D := D) (ci := 9) (v := .ref nb) (C := RX9) (T := TX9) (N := 16) hx hb hts inX9 hown hK hP 0 rfl rfl 1 (by decide) f13 (fun _ h9 => h9) rfl dX9_task_77 ?_
              refine lv_iload_n hx hb dX9_task_80 rfl (lv_at hl 2 rfl) ?_
              refine lv_iload hx hb dX9_task_81 (lv_at hl 0 rfl) ?_
              refine xk_i [(mo, .inr (9, [.ref na, .ref nb, .ref nc, .ref nd, .int (bI (ms)), .int (nI mk), .ref ne, .int (nI my), .int (nI mt), .int (nI p122), .ref nf, .ref ng, .ref nh, .ref ni, .ref nj, .ref nl])), (ne, .inl (ca 0, 60, .inl (zF sg)))] (fun u => [(mo, .inr (9, [.ref na, .ref nb, .ref nc, .ref nd, .int (bI (ms)), .int (nI mk), .ref ne, .int (nI my), .int (nI mt), .int (nI p122), .ref nf, .ref ng, .ref nh, .ref ni, .ref nj, .ref nl])), (nb, .inl (ca 0, 442, .inl (zF (upZ (upZ (upZ sv (2 + T) (lnV sg my (mp + 1))) (22 + T) 1) 0 ((T : Int) + 1))))), (ne, .inl (ca 0, 60, .inl (zF sg)))]) (xk_S (As := [.ref nb, .int (iZ (lnV sg my (mp + 1))), .int (iZ 1)]) (rest := []) ⟨hx, hb, hml, hown, hts⟩ (mX9_adds l D ca H.size nb sv T (lnV sg my (mp + 1)) 1 (by omega) hM.1) (va_cwS 3 hts gX9_task_X9_adds rfl rfl rfl (by decide +kernel) ⟨Nat.le_of_ble_eq_true rfl, Nat.le_of_ble_eq_true rfl⟩) hK hP hD [1] rfl rfl rfl hl.1 rfl (Nat.le_of_ble_eq_true rfl) dX9_task_83 ⟨Nat.le_of_ble_eq_true rfl, Nat.le_of_ble_eq_true rfl⟩) hP hD hS hA [1] [0, 2] [0, 2, 1] rfl rfl rfl rfl (fun _ => rfl) rfl (fun r83 u83 H locs hw83 hP hD hS => ?_)
              have hw83 : r83 = nI T := hw83
              have hP : va_P D vwCl [(mo, .inr (9, [.ref na, .ref nb, .ref nc, .ref nd, .int (bI (ms)), .int (nI mk), .ref ne, .int (nI my), .int (nI mt), .int (nI p122), .ref nf, .ref ng, .ref nh, .ref ni, .ref nj, .ref nl])), (nb, .inl (ca 0, 442, .inl (zF (upZ (upZ (upZ sv (2 + T) (lnV sg my (mp + 1))) (22 + T) 1) 0 ((T : Int) + 1))))), (ne, .inl (ca 0, 60, .inl (zF sg)))] H := hP
              have hD : va_D A [(mo, .inr (9, [.ref na, .ref nb, .ref nc, .ref nd, .int (bI (ms)), .int (nI mk), .ref ne, .int (nI my), .int (nI mt), .int (nI p122), .ref nf, .ref ng, .ref nh, .ref ni, .ref nj, .ref nl])), (nb, .inl (ca 0, 442, .inl (zF (upZ (upZ (upZ sv (2 + T) (lnV sg my (mp + 1))) (22 + T) 1) 0 ((T : Int) + 1))))), (ne, .inl (ca 0, 60, .inl (zF sg)))] := hD
              have hwr83 := hw83
              subst hwr83
              refine lv_pop hx hb dX9_task_86 rfl ?_
              refine lv_iload_n hx hb dX9_task_87 rfl (lv_at hl 4 rfl) ?_
              refine lv_if_eq (tgt := 110) hx hb dX9_task_88 (by decide) (fun h88 => ?_) (fun h88 => ?_)
              · skip
                have h88 := (cE (nI_toInt (by omega)) z0_toInt).mp h88
                refine lv_iconst (v := nI (1)) hx hb dX9_task_110 (by decide) ?_
                refine lv_goto (tgt := 115) hx hb dX9_task_111 (by decide) ?_
                have h9 := tk_d (G := G) (v := lnV sg my (mp + 1)) (w := 1) hc97 (by omega) rfl hv22 (by omega) (nd_f hc42).1 (nd_f hc42).2 (Or.inl (by omega))
                rw [← hE]
                exact xe_z (p122, (upZ (upZ (upZ sv (2 + T) (lnV sg my (mp + 1))) (22 + T) 1) 0 ((T : Int) + 1))) hx hb hr hlocks hK hP hD hS rfl (⟨by rw [h9]; rfl, by rw [h9], fun _ => by rw [h9]; exact MS_adds hM hT⟩) dX9_task_115
              · skip
                have h88 := (not_congr (cE (nI_toInt (by omega)) z0_toInt)).mp h88
                refine lv_aload_n hx hb dX9_task_91 rfl (lv_at hl 3 rfl) ?_
                refine lv_bipush (v := nI (60)) hx hb dX9_task_92 (by decide) ?_
                refine lv_bipush (v := nI (60)) hx hb dX9_task_94 (by decide) ?_
                refine xk_i [(nb, .inl (ca 0, 442, .inl (zF (upZ (upZ (upZ sv (2 + T) (lnV sg my (mp + 1))) (22 + T) 1) 0 ((T : Int) + 1)))))] (fun u => [(mo, .inr (9, [.ref na, .ref nb, .ref nc, .ref nd, .int (bI (ms)), .int (nI mk), .ref ne, .int (nI my), .int (nI mt), .int (nI u), .ref nf, .ref ng, .ref nh, .ref ni, .ref nj, .ref nl])), (nb, .inl (ca 0, 442, .inl (zF (upZ (upZ (upZ sv (2 + T) (lnV sg my (mp + 1))) (22 + T) 1) 0 ((T : Int) + 1))))), (ne, .inl (ca 0, 60, .inl (zF sg)))]) (xk_V (As := [.int (nI 60), .int (nI 60)]) (rest := []) ⟨hx, hb, hml, hown, hts⟩ (mX9_next l D ca H.size mo na nb nc nd ne nf ng nh ni nj nl ms mk my mt p122 sg 60 60 0 (by omega) hsg (by omega) (by omega)) (cwV 2 hts gX9_task_X9_next rfl rfl rfl (by decide +kernel) ⟨Nat.le_of_ble_eq_true rfl, Nat.le_of_ble_eq_true rfl⟩) hK hP hD (va_recv (q := (RX9, TX9, 16)) hK hP (ci := 9) (q0 := 0) rfl rfl) [0, 2] rfl rfl rfl hl.1 rfl (Nat.le_of_ble_eq_true rfl) dX9_task_96 ⟨Nat.le_of_ble_eq_true rfl, Nat.le_of_ble_eq_true rfl⟩) hP hD hS hA [0, 2] [1] [1, 0, 2] rfl rfl rfl rfl (fun _ => rfl) rfl (fun r96 u96 H locs hw96 hP hD hS => ?_)
                obtain ⟨p196, hu96⟩ : ∃ z, z = u96 := ⟨_, rfl⟩
                subst hu96
                have hw96 : r96 = iZ (rdV sg my p122 60 0 0) ∧ p196 = rdP sg my p122 60 0 0 := hw96
                have hP : va_P D vwCl [(mo, .inr (9, [.ref na, .ref nb, .ref nc, .ref nd, .int (bI (ms)), .int (nI mk), .ref ne, .int (nI my), .int (nI mt), .int (nI p196), .ref nf, .ref ng, .ref nh, .ref ni, .ref nj, .ref nl])), (nb, .inl (ca 0, 442, .inl (zF (upZ (upZ (upZ sv (2 + T) (lnV sg my (mp + 1))) (22 + T) 1) 0 ((T : Int) + 1))))), (ne, .inl (ca 0, 60, .inl (zF sg)))] H := hP
                have hD : va_D A [(mo, .inr (9, [.ref na, .ref nb, .ref nc, .ref nd, .int (bI (ms)), .int (nI mk), .ref ne, .int (nI my), .int (nI mt), .int (nI p196), .ref nf, .ref ng, .ref nh, .ref ni, .ref nj, .ref nl])), (nb, .inl (ca 0, 442, .inl (zF (upZ (upZ (upZ sv (2 + T) (lnV sg my (mp + 1))) (22 + T) 1) 0 ((T : Int) + 1))))), (ne, .inl (ca 0, 60, .inl (zF sg)))] := hD
                obtain ⟨hwr96, hv96⟩ := hw96
                subst hwr96
                have hq8 := rdV_rng sg my p122 60 0 0
                refine lv_if_lt (tgt := 110) hx hb dX9_task_99 (by decide) (fun h99 => ?_) (fun h99 => ?_)
                · skip
                  have h99 := (cT (iZ_toInt (by omega) (by omega)) z0_toInt).mp h99
                  have hc60 : rdC sg my p122 60 0 0 = false := by rcases rd0V (sg := sg) (tl := my) (p := p122) (z := 60) with h9 | h9; (first | exact h9.2 | exact absurd h9.1 (by omega)); (first | exact h9.2 | exact absurd h9.1 (by omega))
                  have e9 : p122 = p196 := Eq.symm (hv96.trans (rdP_f hc60))
                  subst e9
                  have hP : va_P D vwCl [(mo, .inr (9, [.ref na, .ref nb, .ref nc, .ref nd, .int (bI (ms)), .int (nI mk), .ref ne, .int (nI my), .int (nI mt), .int (nI p122), .ref nf, .ref ng, .ref nh, .ref ni, .ref nj, .ref nl])), (nb, .inl (ca 0, 442, .inl (zF (upZ (upZ (upZ sv (2 + T) (lnV sg my (mp + 1))) (22 + T) 1) 0 ((T : Int) + 1))))), (ne, .inl (ca 0, 60, .inl (zF sg)))] H := hP
                  have hD : va_D A [(mo, .inr (9, [.ref na, .ref nb, .ref nc, .ref nd, .int (bI (ms)), .int (nI mk), .ref ne, .int (nI my), .int (nI mt), .int (nI p122), .ref nf, .ref ng, .ref nh, .ref ni, .ref nj, .ref nl])), (nb, .inl (ca 0, 442, .inl (zF (upZ (upZ (upZ sv (2 + T) (lnV sg my (mp + 1))) (22 + T) 1) 0 ((T : Int) + 1))))), (ne, .inl (ca 0, 60, .inl (zF sg)))] := hD
                  refine lv_iconst (v := nI (1)) hx hb dX9_task_110 (by decide) ?_
                  refine lv_goto (tgt := 115) hx hb dX9_task_111 (by decide) ?_
                  have h9 := tk_d (G := G) (v := lnV sg my (mp + 1)) (w := 1) hc97 (by omega) rfl hv22 (by omega) (nd_f hc42).1 (nd_f hc42).2 (Or.inr hc60)
                  rw [← hE]
                  exact xe_z (p122, (upZ (upZ (upZ sv (2 + T) (lnV sg my (mp + 1))) (22 + T) 1) 0 ((T : Int) + 1))) hx hb hr hlocks hK hP hD hS rfl (⟨by rw [h9]; rfl, by rw [h9], fun _ => by rw [h9]; exact MS_adds hM hT⟩) dX9_task_115
                · skip
                  have h99 := (not_congr (cT (iZ_toInt (by omega) (by omega)) z0_toInt)).mp h99
                  have hc60 : rdC sg my p122 60 0 0 = true := by rcases rd0V (sg := sg) (tl := my) (p := p122) (z := 60) with h9 | h9; (first | exact h9.2 | exact absurd h9.1 (by omega)); (first | exact h9.2 | exact absurd h9.1 (by omega))
                  have hq7 := (decide_eq_true_iff).mp hc60
                  have e9 : p122 + 1 = p196 := Eq.symm (hv96.trans (rdP_t hc60))
                  subst e9
                  have hP : va_P D vwCl [(mo, .inr (9, [.ref na, .ref nb, .ref nc, .ref nd, .int (bI (ms)), .int (nI mk), .ref ne, .int (nI my), .int (nI mt), .int (nI ((p122 + 1))), .ref nf, .ref ng, .ref nh, .ref ni, .ref nj, .ref nl])), (nb, .inl (ca 0, 442, .inl (zF (upZ (upZ (upZ sv (2 + T) (lnV sg my (mp + 1))) (22 + T) 1) 0 ((T : Int) + 1))))), (ne, .inl (ca 0, 60, .inl (zF sg)))] H := hP
                  have hD : va_D A [(mo, .inr (9, [.ref na, .ref nb, .ref nc, .ref nd, .int (bI (ms)), .int (nI mk), .ref ne, .int (nI my), .int (nI mt), .int (nI ((p122 + 1))), .ref nf, .ref ng, .ref nh, .ref ni, .ref nj, .ref nl])), (nb, .inl (ca 0, 442, .inl (zF (upZ (upZ (upZ sv (2 + T) (lnV sg my (mp + 1))) (22 + T) 1) 0 ((T : Int) + 1))))), (ne, .inl (ca 0, 60, .inl (zF sg)))] := hD
                  refine lv_aload_n hx hb dX9_task_102 rfl (lv_at hl 3 rfl) ?_
                  refine lv_iload_n hx hb dX9_task_103 rfl (lv_at hl 4 rfl) ?_
                  refine xk_i [] (fun u => [(mo, .inr (9, [.ref na, .ref nb, .ref nc, .ref nd, .int (bI (ms)), .int (nI mk), .ref ne, .int (nI my), .int (nI mt), .int (nI u.1), .ref nf, .ref ng, .ref nh, .ref ni, .ref nj, .ref nl])), (nb, .inl (ca 0, 442, .inl (zF u.2))), (ne, .inl (ca 0, 60, .inl (zF sg)))]) (xk_V (As := [.int (nI T)]) (rest := []) ⟨hx, hb, hml, hown, hts⟩ (mX9_befores l D ca H.size mo na nb nc nd ne nf ng nh ni nj nl ms mk my mt (p122 + 1) (upZ (upZ (upZ sv (2 + T) (lnV sg my (mp + 1))) (22 + T) 1) 0 ((T : Int) + 1)) sg (T + 1) C (upZ L T (lnV sg my (mp + 1))) (upZ N T (1)) G T (by omega) hsg (by omega) (MS_adds hM hT) (by omega)) (cwV 1 hts gX9_task_X9_befores rfl rfl rfl (by decide +kernel) ⟨Nat.le_of_ble_eq_true rfl, Nat.le_of_ble_eq_true rfl⟩) hK hP hD (va_recv (q := (RX9, TX9, 16)) hK hP (ci := 9) (q0 := 0) rfl rfl) [0, 1, 2] rfl rfl rfl hl.1 rfl (Nat.le_of_ble_eq_true rfl) dX9_task_104 ⟨Nat.le_of_ble_eq_true rfl, Nat.le_of_ble_eq_true rfl⟩) hP hD hS hA [0, 1, 2] [] [0, 1, 2] rfl rfl rfl rfl (fun _ => rfl) rfl (fun r104 u104 H locs hw104 hP hD hS => ?_)
                  obtain ⟨p1104, sv1104⟩ := u104
                  have hw104 : r104 = bI (pdN sg my T T 0 (p122 + 1) G).1 ∧ p1104 = (pdN sg my T T 0 (p122 + 1) G).2.1 ∧ MS sv1104 (T + 1) C (upZ L T (lnV sg my (mp + 1))) (upZ N T (1)) (pdN sg my T T 0 (p122 + 1) G).2.2 := hw104
                  have hP : va_P D vwCl [(mo, .inr (9, [.ref na, .ref nb, .ref nc, .ref nd, .int (bI (ms)), .int (nI mk), .ref ne, .int (nI my), .int (nI mt), .int (nI p1104), .ref nf, .ref ng, .ref nh, .ref ni, .ref nj, .ref nl])), (nb, .inl (ca 0, 442, .inl (zF sv1104))), (ne, .inl (ca 0, 60, .inl (zF sg)))] H := hP
                  have hD : va_D A [(mo, .inr (9, [.ref na, .ref nb, .ref nc, .ref nd, .int (bI (ms)), .int (nI mk), .ref ne, .int (nI my), .int (nI mt), .int (nI p1104), .ref nf, .ref ng, .ref nh, .ref ni, .ref nj, .ref nl])), (nb, .inl (ca 0, 442, .inl (zF sv1104))), (ne, .inl (ca 0, 60, .inl (zF sg)))] := hD
                  obtain ⟨hwr104, hv104⟩ := hw104
                  subst hwr104
                  refine lv_if_eq (tgt := 114) hx hb dX9_task_107 (by decide) (fun h107 => ?_) (fun h107 => ?_)
                  · skip
                    have h107 := bI_0.mp h107
                    refine lv_iconst (v := nI (0)) hx hb dX9_task_114 (by decide) ?_
                    have h9 := tk_e (G := G) (v := lnV sg my (mp + 1)) (w := 1) hc97 (by omega) rfl hv22 (by omega) (nd_f hc42).1 (nd_f hc42).2 (by omega) hc60
                    rw [← hE]
                    exact xe_z (p1104, sv1104) hx hb hr hlocks hK hP hD hS rfl (⟨by rw [h9]; show _ = bI (pdN sg my T T 0 (p122 + 1) G).1; rw [h107]; rfl, by rw [h9]; exact hv104.1, fun _ => by rw [h9]; exact hv104.2⟩) dX9_task_115
                  · skip
                    have h107 := bI_n0.mp h107
                    refine lv_iconst (v := nI (1)) hx hb dX9_task_110 (by decide) ?_
                    refine lv_goto (tgt := 115) hx hb dX9_task_111 (by decide) ?_
                    have h9 := tk_e (G := G) (v := lnV sg my (mp + 1)) (w := 1) hc97 (by omega) rfl hv22 (by omega) (nd_f hc42).1 (nd_f hc42).2 (by omega) hc60
                    rw [← hE]
                    exact xe_z (p1104, sv1104) hx hb hr hlocks hK hP hD hS rfl (⟨by rw [h9]; show _ = bI (pdN sg my T T 0 (p122 + 1) G).1; rw [h107]; rfl, by rw [h9]; exact hv104.1, fun _ => by rw [h9]; exact hv104.2⟩) dX9_task_115
            · skip
              have h71 := (not_congr (cL z0_toInt (iZ_toInt (by omega) (by omega)))).mp h71
              exact absurd h71 (by omega)
        · skip
          have h48 := (not_congr (cE (nI_toInt (by omega)) z0_toInt)).mp h48
          exact absurd h48 (by omega)
      · skip
        have h38 := (cE (iZ_toInt (by omega) (by omega)) z0_toInt).mp h38
        have hc42 : rdC sg my p122 42 0 0 = true := by rcases rd0V (sg := sg) (tl := my) (p := p122) (z := 42) with h9 | h9; (first | exact h9.2 | exact absurd h9.1 (by omega)); (first | exact h9.2 | exact absurd h9.1 (by omega))
        have hq42 := (decide_eq_true_iff).mp hc42
        have e9 : p122 + 1 = p135 := Eq.symm (hv35.trans (rdP_t hc42))
        subst e9
        have hP : va_P D vwCl [(mo, .inr (9, [.ref na, .ref nb, .ref nc, .ref nd, .int (bI (ms)), .int (nI mk), .ref ne, .int (nI my), .int (nI mt), .int (nI ((p122 + 1))), .ref nf, .ref ng, .ref nh, .ref ni, .ref nj, .ref nl])), (nb, .inl (ca 0, 442, .inl (zF sv))), (ne, .inl (ca 0, 60, .inl (zF sg)))] H := hP
        have hD : va_D A [(mo, .inr (9, [.ref na, .ref nb, .ref nc, .ref nd, .int (bI (ms)), .int (nI mk), .ref ne, .int (nI my), .int (nI mt), .int (nI ((p122 + 1))), .ref nf, .ref ng, .ref nh, .ref ni, .ref nj, .ref nl])), (nb, .inl (ca 0, 442, .inl (zF sv))), (ne, .inl (ca 0, 60, .inl (zF sg)))] := hD
        refine lv_iconst (v := nI (1)) hx hb dX9_task_41 (by decide) ?_
        refine lv_goto (tgt := 46) hx hb dX9_task_42 (by decide) ?_
        refine lv_istore_n (lv' := [(3, .int (nI 1)), (2, .int (iZ (lnV sg my (mp + 1)))), (0, .ref mo), (1, .int (nI T))]) hx hb dX9_task_46 rfl hl (by decide) rfl (fun ls hl => ?_)
        refine lv_iload_n hx hb dX9_task_47 rfl (lv_at hl 0 rfl) ?_
        refine lv_if_eq (tgt := 62) hx hb dX9_task_48 (by decide) (fun h48 => ?_) (fun h48 => ?_)
        · skip
          have h48 := (cE (nI_toInt (by omega)) z0_toInt).mp h48
          exact absurd h48 (by omega)
        · skip
          have h48 := (not_congr (cE (nI_toInt (by omega)) z0_toInt)).mp h48
          refine lv_aload_n hx hb dX9_task_51 rfl (lv_at hl 2 rfl) ?_
          refine lv_bipush (v := nI (48)) hx hb dX9_task_52 (by decide) ?_
          refine lv_bipush (v := nI (53)) hx hb dX9_task_54 (by decide) ?_
          refine xk_i [(nb, .inl (ca 0, 442, .inl (zF sv)))] (fun u => [(mo, .inr (9, [.ref na, .ref nb, .ref nc, .ref nd, .int (bI (ms)), .int (nI mk), .ref ne, .int (nI my), .int (nI mt), .int (nI u), .ref nf, .ref ng, .ref nh, .ref ni, .ref nj, .ref nl])), (nb, .inl (ca 0, 442, .inl (zF sv))), (ne, .inl (ca 0, 60, .inl (zF sg)))]) (xk_V (As := [.int (nI 48), .int (nI 53)]) (rest := []) ⟨hx, hb, hml, hown, hts⟩ (mX9_next l D ca H.size mo na nb nc nd ne nf ng nh ni nj nl ms mk my mt (p122 + 1) sg 48 53 5 (by omega) hsg (by omega) (by omega)) (cwV 2 hts gX9_task_X9_next rfl rfl rfl (by decide +kernel) ⟨Nat.le_of_ble_eq_true rfl, Nat.le_of_ble_eq_true rfl⟩) hK hP hD (va_recv (q := (RX9, TX9, 16)) hK hP (ci := 9) (q0 := 0) rfl rfl) [0, 2] rfl rfl rfl hl.1 rfl (Nat.le_of_ble_eq_true rfl) dX9_task_56 ⟨Nat.le_of_ble_eq_true rfl, Nat.le_of_ble_eq_true rfl⟩) hP hD hS hA [0, 2] [1] [1, 0, 2] rfl rfl rfl rfl (fun _ => rfl) rfl (fun r56 u56 H locs hw56 hP hD hS => ?_)
          obtain ⟨p156, hu56⟩ : ∃ z, z = u56 := ⟨_, rfl⟩
          subst hu56
          have hw56 : r56 = iZ (rdV sg my (p122 + 1) 48 0 5) ∧ p156 = rdP sg my (p122 + 1) 48 0 5 := hw56
          have hP : va_P D vwCl [(mo, .inr (9, [.ref na, .ref nb, .ref nc, .ref nd, .int (bI (ms)), .int (nI mk), .ref ne, .int (nI my), .int (nI mt), .int (nI p156), .ref nf, .ref ng, .ref nh, .ref ni, .ref nj, .ref nl])), (nb, .inl (ca 0, 442, .inl (zF sv))), (ne, .inl (ca 0, 60, .inl (zF sg)))] H := hP
          have hD : va_D A [(mo, .inr (9, [.ref na, .ref nb, .ref nc, .ref nd, .int (bI (ms)), .int (nI mk), .ref ne, .int (nI my), .int (nI mt), .int (nI p156), .ref nf, .ref ng, .ref nh, .ref ni, .ref nj, .ref nl])), (nb, .inl (ca 0, 442, .inl (zF sv))), (ne, .inl (ca 0, 60, .inl (zF sg)))] := hD
          obtain ⟨hwr56, hv56⟩ := hw56
          subst hwr56
          refine lv_goto (tgt := 63) hx hb dX9_task_59 (by decide) ?_
          have hq5 := rdV_rng sg my (p122 + 1) 48 0 5
          have hq6 := rdP_le sg my (p122 + 1) 48 0 5
          refine lv_istore (lv' := [(4, .int (iZ (rdV sg my (p122 + 1) 48 0 5))), (3, .int (nI 1)), (2, .int (iZ (lnV sg my (mp + 1)))), (0, .ref mo), (1, .int (nI T))]) hx hb dX9_task_63 hl (by decide) rfl (fun ls hl => ?_)
          refine lv_iload_n hx hb dX9_task_65 rfl (lv_at hl 2 rfl) ?_
          refine lv_if_lt (tgt := 74) hx hb dX9_task_66 (by decide) (fun h66 => ?_) (fun h66 => ?_)
          · skip
            have h66 := (cT (iZ_toInt (by omega) (by omega)) z0_toInt).mp h66
            exfalso; omega
          · skip
            have h66 := (not_congr (cT (iZ_toInt (by omega) (by omega)) z0_toInt)).mp h66
            refine lv_iload hx hb dX9_task_69 (lv_at hl 0 rfl) ?_
            refine lv_if_ge (tgt := 76) hx hb dX9_task_71 (by decide) (fun h71 => ?_) (fun h71 => ?_)
            · skip
              have h71 := (cL z0_toInt (iZ_toInt (by omega) (by omega))).mp h71
              refine lv_aload_n hx hb dX9_task_76 rfl (lv_at hl 3 rfl) ?_
              refine va_get (D := D) (ci := 9) (v := .ref nb) (C := RX9) (T := TX9) (N := 16) hx hb hts inX9 hown hK hP 0 rfl rfl 1 (by decide) f13 (fun _ h9 => h9) rfl dX9_task_77 ?_
              refine lv_iload_n hx hb dX9_task_80 rfl (lv_at hl 2 rfl) ?_
              refine lv_iload hx hb dX9_task_81 (lv_at hl 0 rfl) ?_
              refine xk_i [(mo, .inr (9, [.ref na, .ref nb, .ref nc, .ref nd, .int (bI (ms)), .int (nI mk), .ref ne, .int (nI my), .int (nI mt), .int (nI p156), .ref nf, .ref ng, .ref nh, .ref ni, .ref nj, .ref nl])), (ne, .inl (ca 0, 60, .inl (zF sg)))] (fun u => [(mo, .inr (9, [.ref na, .ref nb, .ref nc, .ref nd, .int (bI (ms)), .int (nI mk), .ref ne, .int (nI my), .int (nI mt), .int (nI p156), .ref nf, .ref ng, .ref nh, .ref ni, .ref nj, .ref nl])), (nb, .inl (ca 0, 442, .inl (zF (upZ (upZ (upZ sv (2 + T) (lnV sg my (mp + 1))) (22 + T) (rdV sg my (p122 + 1) 48 0 5)) 0 ((T : Int) + 1))))), (ne, .inl (ca 0, 60, .inl (zF sg)))]) (xk_S (As := [.ref nb, .int (iZ (lnV sg my (mp + 1))), .int (iZ (rdV sg my (p122 + 1) 48 0 5))]) (rest := []) ⟨hx, hb, hml, hown, hts⟩ (mX9_adds l D ca H.size nb sv T (lnV sg my (mp + 1)) (rdV sg my (p122 + 1) 48 0 5) (by omega) hM.1) (va_cwS 3 hts gX9_task_X9_adds rfl rfl rfl (by decide +kernel) ⟨Nat.le_of_ble_eq_true rfl, Nat.le_of_ble_eq_true rfl⟩) hK hP hD [1] rfl rfl rfl hl.1 rfl (Nat.le_of_ble_eq_true rfl) dX9_task_83 ⟨Nat.le_of_ble_eq_true rfl, Nat.le_of_ble_eq_true rfl⟩) hP hD hS hA [1] [0, 2] [0, 2, 1] rfl rfl rfl rfl (fun _ => rfl) rfl (fun r83 u83 H locs hw83 hP hD hS => ?_)
              have hw83 : r83 = nI T := hw83
              have hP : va_P D vwCl [(mo, .inr (9, [.ref na, .ref nb, .ref nc, .ref nd, .int (bI (ms)), .int (nI mk), .ref ne, .int (nI my), .int (nI mt), .int (nI p156), .ref nf, .ref ng, .ref nh, .ref ni, .ref nj, .ref nl])), (nb, .inl (ca 0, 442, .inl (zF (upZ (upZ (upZ sv (2 + T) (lnV sg my (mp + 1))) (22 + T) (rdV sg my (p122 + 1) 48 0 5)) 0 ((T : Int) + 1))))), (ne, .inl (ca 0, 60, .inl (zF sg)))] H := hP
              have hD : va_D A [(mo, .inr (9, [.ref na, .ref nb, .ref nc, .ref nd, .int (bI (ms)), .int (nI mk), .ref ne, .int (nI my), .int (nI mt), .int (nI p156), .ref nf, .ref ng, .ref nh, .ref ni, .ref nj, .ref nl])), (nb, .inl (ca 0, 442, .inl (zF (upZ (upZ (upZ sv (2 + T) (lnV sg my (mp + 1))) (22 + T) (rdV sg my (p122 + 1) 48 0 5)) 0 ((T : Int) + 1))))), (ne, .inl (ca 0, 60, .inl (zF sg)))] := hD
              have hwr83 := hw83
              subst hwr83
              refine lv_pop hx hb dX9_task_86 rfl ?_
              refine lv_iload_n hx hb dX9_task_87 rfl (lv_at hl 4 rfl) ?_
              refine lv_if_eq (tgt := 110) hx hb dX9_task_88 (by decide) (fun h88 => ?_) (fun h88 => ?_)
              · skip
                have h88 := (cE (nI_toInt (by omega)) z0_toInt).mp h88
                refine lv_iconst (v := nI (1)) hx hb dX9_task_110 (by decide) ?_
                refine lv_goto (tgt := 115) hx hb dX9_task_111 (by decide) ?_
                have h9 := tk_d (G := G) (v := lnV sg my (mp + 1)) (w := rdV sg my (p122 + 1) 48 0 5) hc97 (by omega) rfl hv22 (by omega) (nd_t hc42).1 (hv56.trans (nd_t hc42).2) (Or.inl (by omega))
                rw [← hE]
                exact xe_z (p156, (upZ (upZ (upZ sv (2 + T) (lnV sg my (mp + 1))) (22 + T) (rdV sg my (p122 + 1) 48 0 5)) 0 ((T : Int) + 1))) hx hb hr hlocks hK hP hD hS rfl (⟨by rw [h9]; rfl, by rw [h9], fun _ => by rw [h9]; exact MS_adds hM hT⟩) dX9_task_115
              · skip
                have h88 := (not_congr (cE (nI_toInt (by omega)) z0_toInt)).mp h88
                refine lv_aload_n hx hb dX9_task_91 rfl (lv_at hl 3 rfl) ?_
                refine lv_bipush (v := nI (60)) hx hb dX9_task_92 (by decide) ?_
                refine lv_bipush (v := nI (60)) hx hb dX9_task_94 (by decide) ?_
                refine xk_i [(nb, .inl (ca 0, 442, .inl (zF (upZ (upZ (upZ sv (2 + T) (lnV sg my (mp + 1))) (22 + T) (rdV sg my (p122 + 1) 48 0 5)) 0 ((T : Int) + 1)))))] (fun u => [(mo, .inr (9, [.ref na, .ref nb, .ref nc, .ref nd, .int (bI (ms)), .int (nI mk), .ref ne, .int (nI my), .int (nI mt), .int (nI u), .ref nf, .ref ng, .ref nh, .ref ni, .ref nj, .ref nl])), (nb, .inl (ca 0, 442, .inl (zF (upZ (upZ (upZ sv (2 + T) (lnV sg my (mp + 1))) (22 + T) (rdV sg my (p122 + 1) 48 0 5)) 0 ((T : Int) + 1))))), (ne, .inl (ca 0, 60, .inl (zF sg)))]) (xk_V (As := [.int (nI 60), .int (nI 60)]) (rest := []) ⟨hx, hb, hml, hown, hts⟩ (mX9_next l D ca H.size mo na nb nc nd ne nf ng nh ni nj nl ms mk my mt p156 sg 60 60 0 (by omega) hsg (by omega) (by omega)) (cwV 2 hts gX9_task_X9_next rfl rfl rfl (by decide +kernel) ⟨Nat.le_of_ble_eq_true rfl, Nat.le_of_ble_eq_true rfl⟩) hK hP hD (va_recv (q := (RX9, TX9, 16)) hK hP (ci := 9) (q0 := 0) rfl rfl) [0, 2] rfl rfl rfl hl.1 rfl (Nat.le_of_ble_eq_true rfl) dX9_task_96 ⟨Nat.le_of_ble_eq_true rfl, Nat.le_of_ble_eq_true rfl⟩) hP hD hS hA [0, 2] [1] [1, 0, 2] rfl rfl rfl rfl (fun _ => rfl) rfl (fun r96 u96 H locs hw96 hP hD hS => ?_)
                obtain ⟨p196, hu96⟩ : ∃ z, z = u96 := ⟨_, rfl⟩
                subst hu96
                have hw96 : r96 = iZ (rdV sg my p156 60 0 0) ∧ p196 = rdP sg my p156 60 0 0 := hw96
                have hP : va_P D vwCl [(mo, .inr (9, [.ref na, .ref nb, .ref nc, .ref nd, .int (bI (ms)), .int (nI mk), .ref ne, .int (nI my), .int (nI mt), .int (nI p196), .ref nf, .ref ng, .ref nh, .ref ni, .ref nj, .ref nl])), (nb, .inl (ca 0, 442, .inl (zF (upZ (upZ (upZ sv (2 + T) (lnV sg my (mp + 1))) (22 + T) (rdV sg my (p122 + 1) 48 0 5)) 0 ((T : Int) + 1))))), (ne, .inl (ca 0, 60, .inl (zF sg)))] H := hP
                have hD : va_D A [(mo, .inr (9, [.ref na, .ref nb, .ref nc, .ref nd, .int (bI (ms)), .int (nI mk), .ref ne, .int (nI my), .int (nI mt), .int (nI p196), .ref nf, .ref ng, .ref nh, .ref ni, .ref nj, .ref nl])), (nb, .inl (ca 0, 442, .inl (zF (upZ (upZ (upZ sv (2 + T) (lnV sg my (mp + 1))) (22 + T) (rdV sg my (p122 + 1) 48 0 5)) 0 ((T : Int) + 1))))), (ne, .inl (ca 0, 60, .inl (zF sg)))] := hD
                obtain ⟨hwr96, hv96⟩ := hw96
                subst hwr96
                have hq8 := rdV_rng sg my p156 60 0 0
                refine lv_if_lt (tgt := 110) hx hb dX9_task_99 (by decide) (fun h99 => ?_) (fun h99 => ?_)
                · skip
                  have h99 := (cT (iZ_toInt (by omega) (by omega)) z0_toInt).mp h99
                  have hc60 : rdC sg my p156 60 0 0 = false := by rcases rd0V (sg := sg) (tl := my) (p := p156) (z := 60) with h9 | h9; (first | exact h9.2 | exact absurd h9.1 (by omega)); (first | exact h9.2 | exact absurd h9.1 (by omega))
                  have e9 : p156 = p196 := Eq.symm (hv96.trans (rdP_f hc60))
                  subst e9
                  have hP : va_P D vwCl [(mo, .inr (9, [.ref na, .ref nb, .ref nc, .ref nd, .int (bI (ms)), .int (nI mk), .ref ne, .int (nI my), .int (nI mt), .int (nI p156), .ref nf, .ref ng, .ref nh, .ref ni, .ref nj, .ref nl])), (nb, .inl (ca 0, 442, .inl (zF (upZ (upZ (upZ sv (2 + T) (lnV sg my (mp + 1))) (22 + T) (rdV sg my (p122 + 1) 48 0 5)) 0 ((T : Int) + 1))))), (ne, .inl (ca 0, 60, .inl (zF sg)))] H := hP
                  have hD : va_D A [(mo, .inr (9, [.ref na, .ref nb, .ref nc, .ref nd, .int (bI (ms)), .int (nI mk), .ref ne, .int (nI my), .int (nI mt), .int (nI p156), .ref nf, .ref ng, .ref nh, .ref ni, .ref nj, .ref nl])), (nb, .inl (ca 0, 442, .inl (zF (upZ (upZ (upZ sv (2 + T) (lnV sg my (mp + 1))) (22 + T) (rdV sg my (p122 + 1) 48 0 5)) 0 ((T : Int) + 1))))), (ne, .inl (ca 0, 60, .inl (zF sg)))] := hD
                  refine lv_iconst (v := nI (1)) hx hb dX9_task_110 (by decide) ?_
                  refine lv_goto (tgt := 115) hx hb dX9_task_111 (by decide) ?_
                  have h9 := tk_d (G := G) (v := lnV sg my (mp + 1)) (w := rdV sg my (p122 + 1) 48 0 5) hc97 (by omega) rfl hv22 (by omega) (nd_t hc42).1 (hv56.trans (nd_t hc42).2) (Or.inr hc60)
                  rw [← hE]
                  exact xe_z (p156, (upZ (upZ (upZ sv (2 + T) (lnV sg my (mp + 1))) (22 + T) (rdV sg my (p122 + 1) 48 0 5)) 0 ((T : Int) + 1))) hx hb hr hlocks hK hP hD hS rfl (⟨by rw [h9]; rfl, by rw [h9], fun _ => by rw [h9]; exact MS_adds hM hT⟩) dX9_task_115
                · skip
                  have h99 := (not_congr (cT (iZ_toInt (by omega) (by omega)) z0_toInt)).mp h99
                  have hc60 : rdC sg my p156 60 0 0 = true := by rcases rd0V (sg := sg) (tl := my) (p := p156) (z := 60) with h9 | h9; (first | exact h9.2 | exact absurd h9.1 (by omega)); (first | exact h9.2 | exact absurd h9.1 (by omega))
                  have hq7 := (decide_eq_true_iff).mp hc60
                  have e9 : p156 + 1 = p196 := Eq.symm (hv96.trans (rdP_t hc60))
                  subst e9
                  have hP : va_P D vwCl [(mo, .inr (9, [.ref na, .ref nb, .ref nc, .ref nd, .int (bI (ms)), .int (nI mk), .ref ne, .int (nI my), .int (nI mt), .int (nI ((p156 + 1))), .ref nf, .ref ng, .ref nh, .ref ni, .ref nj, .ref nl])), (nb, .inl (ca 0, 442, .inl (zF (upZ (upZ (upZ sv (2 + T) (lnV sg my (mp + 1))) (22 + T) (rdV sg my (p122 + 1) 48 0 5)) 0 ((T : Int) + 1))))), (ne, .inl (ca 0, 60, .inl (zF sg)))] H := hP
                  have hD : va_D A [(mo, .inr (9, [.ref na, .ref nb, .ref nc, .ref nd, .int (bI (ms)), .int (nI mk), .ref ne, .int (nI my), .int (nI mt), .int (nI ((p156 + 1))), .ref nf, .ref ng, .ref nh, .ref ni, .ref nj, .ref nl])), (nb, .inl (ca 0, 442, .inl (zF (upZ (upZ (upZ sv (2 + T) (lnV sg my (mp + 1))) (22 + T) (rdV sg my (p122 + 1) 48 0 5)) 0 ((T : Int) + 1))))), (ne, .inl (ca 0, 60, .inl (zF sg)))] := hD
                  refine lv_aload_n hx hb dX9_task_102 rfl (lv_at hl 3 rfl) ?_
                  refine lv_iload_n hx hb dX9_task_103 rfl (lv_at hl 4 rfl) ?_
                  refine xk_i [] (fun u => [(mo, .inr (9, [.ref na, .ref nb, .ref nc, .ref nd, .int (bI (ms)), .int (nI mk), .ref ne, .int (nI my), .int (nI mt), .int (nI u.1), .ref nf, .ref ng, .ref nh, .ref ni, .ref nj, .ref nl])), (nb, .inl (ca 0, 442, .inl (zF u.2))), (ne, .inl (ca 0, 60, .inl (zF sg)))]) (xk_V (As := [.int (nI T)]) (rest := []) ⟨hx, hb, hml, hown, hts⟩ (mX9_befores l D ca H.size mo na nb nc nd ne nf ng nh ni nj nl ms mk my mt (p156 + 1) (upZ (upZ (upZ sv (2 + T) (lnV sg my (mp + 1))) (22 + T) (rdV sg my (p122 + 1) 48 0 5)) 0 ((T : Int) + 1)) sg (T + 1) C (upZ L T (lnV sg my (mp + 1))) (upZ N T (rdV sg my (p122 + 1) 48 0 5)) G T (by omega) hsg (by omega) (MS_adds hM hT) (by omega)) (cwV 1 hts gX9_task_X9_befores rfl rfl rfl (by decide +kernel) ⟨Nat.le_of_ble_eq_true rfl, Nat.le_of_ble_eq_true rfl⟩) hK hP hD (va_recv (q := (RX9, TX9, 16)) hK hP (ci := 9) (q0 := 0) rfl rfl) [0, 1, 2] rfl rfl rfl hl.1 rfl (Nat.le_of_ble_eq_true rfl) dX9_task_104 ⟨Nat.le_of_ble_eq_true rfl, Nat.le_of_ble_eq_true rfl⟩) hP hD hS hA [0, 1, 2] [] [0, 1, 2] rfl rfl rfl rfl (fun _ => rfl) rfl (fun r104 u104 H locs hw104 hP hD hS => ?_)
                  obtain ⟨p1104, sv1104⟩ := u104
                  have hw104 : r104 = bI (pdN sg my T T 0 (p156 + 1) G).1 ∧ p1104 = (pdN sg my T T 0 (p156 + 1) G).2.1 ∧ MS sv1104 (T + 1) C (upZ L T (lnV sg my (mp + 1))) (upZ N T (rdV sg my (p122 + 1) 48 0 5)) (pdN sg my T T 0 (p156 + 1) G).2.2 := hw104
                  have hP : va_P D vwCl [(mo, .inr (9, [.ref na, .ref nb, .ref nc, .ref nd, .int (bI (ms)), .int (nI mk), .ref ne, .int (nI my), .int (nI mt), .int (nI p1104), .ref nf, .ref ng, .ref nh, .ref ni, .ref nj, .ref nl])), (nb, .inl (ca 0, 442, .inl (zF sv1104))), (ne, .inl (ca 0, 60, .inl (zF sg)))] H := hP
                  have hD : va_D A [(mo, .inr (9, [.ref na, .ref nb, .ref nc, .ref nd, .int (bI (ms)), .int (nI mk), .ref ne, .int (nI my), .int (nI mt), .int (nI p1104), .ref nf, .ref ng, .ref nh, .ref ni, .ref nj, .ref nl])), (nb, .inl (ca 0, 442, .inl (zF sv1104))), (ne, .inl (ca 0, 60, .inl (zF sg)))] := hD
                  obtain ⟨hwr104, hv104⟩ := hw104
                  subst hwr104
                  refine lv_if_eq (tgt := 114) hx hb dX9_task_107 (by decide) (fun h107 => ?_) (fun h107 => ?_)
                  · skip
                    have h107 := bI_0.mp h107
                    refine lv_iconst (v := nI (0)) hx hb dX9_task_114 (by decide) ?_
                    have h9 := tk_e (G := G) (v := lnV sg my (mp + 1)) (w := rdV sg my (p122 + 1) 48 0 5) hc97 (by omega) rfl hv22 (by omega) (nd_t hc42).1 (hv56.trans (nd_t hc42).2) (by omega) hc60
                    rw [← hE]
                    exact xe_z (p1104, sv1104) hx hb hr hlocks hK hP hD hS rfl (⟨by rw [h9]; show _ = bI (pdN sg my T T 0 (p156 + 1) G).1; rw [h107]; rfl, by rw [h9]; exact hv104.1, fun _ => by rw [h9]; exact hv104.2⟩) dX9_task_115
                  · skip
                    have h107 := bI_n0.mp h107
                    refine lv_iconst (v := nI (1)) hx hb dX9_task_110 (by decide) ?_
                    refine lv_goto (tgt := 115) hx hb dX9_task_111 (by decide) ?_
                    have h9 := tk_e (G := G) (v := lnV sg my (mp + 1)) (w := rdV sg my (p122 + 1) 48 0 5) hc97 (by omega) rfl hv22 (by omega) (nd_t hc42).1 (hv56.trans (nd_t hc42).2) (by omega) hc60
                    rw [← hE]
                    exact xe_z (p1104, sv1104) hx hb hr hlocks hK hP hD hS rfl (⟨by rw [h9]; show _ = bI (pdN sg my T T 0 (p156 + 1) G).1; rw [h107]; rfl, by rw [h9]; exact hv104.1, fun _ => by rw [h9]; exact hv104.2⟩) dX9_task_115
            · skip
              have h71 := (not_congr (cL z0_toInt (iZ_toInt (by omega) (by omega)))).mp h71
              refine lv_iconst (v := nI (0)) hx hb dX9_task_74 (by decide) ?_
              have h9 := tk_c (G := G) hc97 (by omega) hv22 ((nd_t hc42).1.symm.trans (by omega)) (hv56.trans (nd_t hc42).2)
              rw [← hE]
              exact xe_z (p156, sv) hx hb hr hlocks hK hP hD hS rfl (⟨by rw [h9]; rfl, by rw [h9], fun k9 => by rw [h9] at k9; cases k9⟩) dX9_task_75
  · skip
    have h14 := (not_congr (cL z0_toInt (iZ_toInt (by omega) (by omega)))).mp h14
    have hc97 : rdC sg my mp (97 + T) 0 0 = false := by rcases rd0V (sg := sg) (tl := my) (p := mp) (z := (97 + T)) with h9 | h9; (first | exact h9.2 | exact absurd h9.1 (by omega)); (first | exact h9.2 | exact absurd h9.1 (by omega))
    have e9 : mp = p111 := Eq.symm (hv11.trans (rdP_f hc97))
    subst e9
    have hP : va_P D vwCl [(mo, .inr (9, [.ref na, .ref nb, .ref nc, .ref nd, .int (bI (ms)), .int (nI mk), .ref ne, .int (nI my), .int (nI mt), .int (nI mp), .ref nf, .ref ng, .ref nh, .ref ni, .ref nj, .ref nl])), (nb, .inl (ca 0, 442, .inl (zF sv))), (ne, .inl (ca 0, 60, .inl (zF sg)))] H := hP
    have hD : va_D A [(mo, .inr (9, [.ref na, .ref nb, .ref nc, .ref nd, .int (bI (ms)), .int (nI mk), .ref ne, .int (nI my), .int (nI mt), .int (nI mp), .ref nf, .ref ng, .ref nh, .ref ni, .ref nj, .ref nl])), (nb, .inl (ca 0, 442, .inl (zF sv))), (ne, .inl (ca 0, 60, .inl (zF sg)))] := hD
    refine lv_iconst (v := iZ (-1)) hx hb dX9_task_17 (by decide) ?_
    refine lv_goto (tgt := 25) hx hb dX9_task_18 (by decide) ?_
    refine lv_istore_n (lv' := [(2, .int (iZ (-1))), (0, .ref mo), (1, .int (nI T))]) hx hb dX9_task_25 rfl hl (by decide) rfl (fun ls hl => ?_)
    refine lv_iload_n hx hb dX9_task_26 rfl (lv_at hl 0 rfl) ?_
    refine lv_if_lt (tgt := 45) hx hb dX9_task_27 (by decide) (fun h27 => ?_) (fun h27 => ?_)
    · skip
      have h27 := (cT (iZ_toInt (by omega) (by omega)) z0_toInt).mp h27
      refine lv_iconst (v := nI (0)) hx hb dX9_task_45 (by decide) ?_
      refine lv_istore_n (lv' := [(3, .int (nI 0)), (2, .int (iZ (-1))), (0, .ref mo), (1, .int (nI T))]) hx hb dX9_task_46 rfl hl (by decide) rfl (fun ls hl => ?_)
      refine lv_iload_n hx hb dX9_task_47 rfl (lv_at hl 0 rfl) ?_
      refine lv_if_eq (tgt := 62) hx hb dX9_task_48 (by decide) (fun h48 => ?_) (fun h48 => ?_)
      · skip
        have h48 := (cE (nI_toInt (by omega)) z0_toInt).mp h48
        refine lv_iconst (v := iZ 1) hx hb dX9_task_62 (by decide) ?_
        refine lv_istore (lv' := [(4, .int (iZ 1)), (3, .int (nI 0)), (2, .int (iZ (-1))), (0, .ref mo), (1, .int (nI T))]) hx hb dX9_task_63 hl (by decide) rfl (fun ls hl => ?_)
        refine lv_iload_n hx hb dX9_task_65 rfl (lv_at hl 2 rfl) ?_
        refine lv_if_lt (tgt := 74) hx hb dX9_task_66 (by decide) (fun h66 => ?_) (fun h66 => ?_)
        · skip
          have h66 := (cT (iZ_toInt (by omega) (by omega)) z0_toInt).mp h66
          refine lv_iconst (v := nI (0)) hx hb dX9_task_74 (by decide) ?_
          have h9 := tk_a (G := G) hc97
          rw [← hE]
          exact xe_z (mp, sv) hx hb hr hlocks hK hP hD hS rfl (⟨by rw [h9]; rfl, by rw [h9], fun k9 => by rw [h9] at k9; cases k9⟩) dX9_task_75
        · skip
          have h66 := (not_congr (cT (iZ_toInt (by omega) (by omega)) z0_toInt)).mp h66
          exact absurd h66 (by omega)
      · skip
        have h48 := (not_congr (cE (nI_toInt (by omega)) z0_toInt)).mp h48
        exact absurd h48 (by omega)
    · skip
      have h27 := (not_congr (cT (iZ_toInt (by omega) (by omega)) z0_toInt)).mp h27
      exact absurd h27 (by omega)

