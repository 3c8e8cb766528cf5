def rX4_put : Room := { frames := 0, cells := 0, slots := 0, locals := 0 }
set_option maxHeartbeats 4000000 in
set_option maxRecDepth 100000 in
/-- put(sign) -/
theorem mX4_put (l : Launch) (D : va_G) (ca : Nat → ClassId) (sz : Nat) (tx : Nat) (th : Nat) (ts : Nat) (tl : Nat) (tp : Nat) (sg : Nat → Int) (ch : Nat) (htl : tl < 60) (hch : ch < 65536) : MM l yX4_put wsX4_put rX4_put D ca [.ref tx, .int (nI ch)] sz [(tx, .inr (4, [.int (nI tl), .int (nI tp), .ref th, .ref ts])), (ts, .inl (ca 2, 60, .inl (zF sg)))] (QV D ca (fun (u : Unit) => True) (fun _ => [(tx, .inr (4, [.int (nI (tl + 1)), .int (nI tp), .ref th, .ref ts])), (ts, .inl (ca 2, 60, .inl (zF (upZ sg tl (ch : Int)))))])) := by
  refine MM_of (cc := cX4_put) (maxL := 2) (ret := none) (lv0 := [(0, .ref tx), (1, .int (nI ch))]) RX4 (by decide) rfl rfl (Nat.le_of_ble_eq_true rfl) rfl ?_
  intro pG eV s mI args below meth cO hx hb hr hml hts hown hlocks hnm A hA H locs hsz hP hK hD hS Q hE ls hl
  have f9 := hts (.fieldLink RX4 9 "SlackPlan$PlanText" "length" "I") (List.mem_of_getElem? (i := 1) rfl)
  have inX4 : ∀ w ∈ u_ws RX4 TX4 4, w ∈ wsX4_put := in_r _ [3, 4, 5, 6] rfl
  have f25 := hts (.fieldLink RX4 25 "SlackPlan$PlanText" "signs" "[C") (List.mem_of_getElem? (i := 2) rfl)
  refine lv_aload_n hx hb dX4_put_0 rfl (lv_at hl 0 rfl) ?_
  refine va_get (D := D) (ci := 4) (v := .int (nI tl)) (C := RX4) (T := TX4) (N := 4) hx hb hts inX4 hown hK hP 0 rfl rfl 0 (by decide) f9 (fun _ h9 => h9) rfl dX4_put_1 ?_
  refine lv_bipush (v := nI (60)) hx hb dX4_put_4 (by decide) ?_
  refine lv_icmp_ge (tgt := 29) hx hb dX4_put_6 (by decide) (fun h6 => ?_) (fun h6 => ?_)
  · skip
    have h6 := (cL (nI_toInt (by omega)) (nI_toInt (by omega))).mp h6
    exact absurd h6 (by omega)
  · skip
    have h6 := (not_congr (cL (nI_toInt (by omega)) (nI_toInt (by omega)))).mp h6
    refine lv_aload_n hx hb dX4_put_9 rfl (lv_at hl 0 rfl) ?_
    refine va_get (D := D) (ci := 4) (v := .ref ts) (C := RX4) (T := TX4) (N := 4) hx hb hts inX4 hown hK hP 0 rfl rfl 3 (by decide) f25 (fun _ h9 => h9) rfl dX4_put_10 ?_
    refine lv_aload_n hx hb dX4_put_13 rfl (lv_at hl 0 rfl) ?_
    refine va_get (D := D) (ci := 4) (v := .int (nI tl)) (C := RX4) (T := TX4) (N := 4) hx hb hts inX4 hown hK hP 0 rfl rfl 0 (by decide) f9 (fun _ h9 => h9) rfl dX4_put_14 ?_
    refine lv_iload_n hx hb dX4_put_17 rfl (lv_at hl 1 rfl) ?_
    refine xr_cast hx hb hK hP hD hS 1 2 rfl rfl (by omega) (Nat.le_of_ble_eq_true rfl) (zF (upZ sg tl (ch : Int))) (fun _ _ => zF_upc _ _ hch _) dX4_put_18 (fun H locs hP hD hS => ?_)
    have hP : va_P D vwCl [(tx, .inr (4, [.int (nI tl), .int (nI tp), .ref th, .ref ts])), (ts, .inl (ca 2, 60, .inl (zF (upZ sg tl (ch : Int)))))] H := hP
    have hD : va_D A [(tx, .inr (4, [.int (nI tl), .int (nI tp), .ref th, .ref ts])), (ts, .inl (ca 2, 60, .inl (zF (upZ sg tl (ch : Int)))))] := hD
    refine lv_aload_n hx hb dX4_put_19 rfl (lv_at hl 0 rfl) ?_
    refine lv_dup hx hb dX4_put_20 rfl ?_
    refine va_get (D := D) (ci := 4) (v := .int (nI tl)) (C := RX4) (T := TX4) (N := 4) hx hb hts inX4 hown hK hP 0 rfl rfl 0 (by decide) f9 (fun _ h9 => h9) rfl dX4_put_21 ?_
    refine lv_iconst (v := nI (1)) hx hb dX4_put_24 (by decide) ?_
    refine xr_iadd hx hb dX4_put_25 ?_
    refine va_put (D := D) (ci := 4) (v := .int (nI (tl + 1))) (ty := .int) (C := RX4) (T := TX4) (N := 4) hx hb hts inX4 tyX4 tyX4_ok nmX4 hown hK hP hD hS 0 rfl rfl 0 (by decide) f9 (fun _ h9 => h9) rfl (by decide +kernel) rfl rfl (Nat.le_of_ble_eq_true rfl) dX4_put_26 (fun H locs hP hD hS => ?_)
    have hP : va_P D vwCl [(tx, .inr (4, [.int (nI (tl + 1)), .int (nI tp), .ref th, .ref ts])), (ts, .inl (ca 2, 60, .inl (zF (upZ sg tl (ch : Int)))))] H := hP
    have hD : va_D A [(tx, .inr (4, [.int (nI (tl + 1)), .int (nI tp), .ref th, .ref ts])), (ts, .inl (ca 2, 60, .inl (zF (upZ sg tl (ch : Int)))))] := hD
    rw [← hE]
    exact xe_v () hx hb hr hlocks hK hP hD hS trivial dX4_put_29
def rX4_readFrom : Room := { frames := 0, cells := 0, slots := 0, locals := 0 }
set_option maxHeartbeats 4000000 in
set_option maxRecDepth 100000 in
/-- readFrom(zero, least, greatest) -/
theorem mX4_readFrom (l : Launch) (D : va_G) (ca : Nat → ClassId) (sz : Nat) (tx : Nat) (th : Nat) (ts : Nat) (tl : Nat) (tp : Nat) (sg : Nat → Int) (zz : Nat) (lo : Nat) (hi : Nat) (htl : tl ≤ 60) (hsg : ∀ j, j < 60 → 0 ≤ sg j ∧ sg j ≤ 65535) (htp : tp ≤ tl) (hzz : zz ≤ 65535 ∧ lo ≤ 65535 ∧ hi ≤ 65535) : MM l yX4_readFrom wsX4_readFrom rX4_readFrom D ca [.ref tx, .int (nI zz), .int (nI lo), .int (nI hi)] sz [(tx, .inr (4, [.int (nI tl), .int (nI tp), .ref th, .ref ts])), (ts, .inl (ca 2, 60, .inl (zF sg)))] (QI D ca (fun (r : Int32) (u : Nat) => r = iZ (rdV sg tl tp zz lo hi) ∧ u = rdP sg tl tp zz lo hi) (fun u => [(tx, .inr (4, [.int (nI tl), .int (nI u), .ref th, .ref ts])), (ts, .inl (ca 2, 60, .inl (zF sg)))])) := by
  refine MM_of (cc := cX4_readFrom) (maxL := 5) (ret := (some .int)) (lv0 := [(0, .ref tx), (1, .int (nI zz)), (2, .int (nI lo)), (3, .int (nI hi))]) RX4 (by decide) rfl rfl (Nat.le_of_ble_eq_true rfl) rfl ?_
  intro pG eV s mI args below meth cO hx hb hr hml hts hown hlocks hnm A hA H locs hsz hP hK hD hS Q hE ls hl
  have f15 := hts (.fieldLink RX4 15 "SlackPlan$PlanText" "position" "I") (List.mem_of_getElem? (i := 1) rfl)
  have inX4 : ∀ w ∈ u_ws RX4 TX4 4, w ∈ wsX4_readFrom := in_r _ [4, 5, 6, 7] rfl
  have f9 := hts (.fieldLink RX4 9 "SlackPlan$PlanText" "length" "I") (List.mem_of_getElem? (i := 2) rfl)
  have f25 := hts (.fieldLink RX4 25 "SlackPlan$PlanText" "signs" "[C") (List.mem_of_getElem? (i := 3) rfl)
  refine lv_aload_n hx hb dX4_readFrom_0 rfl (lv_at hl 0 rfl) ?_
  refine va_get (D := D) (ci := 4) (v := .int (nI tp)) (C := RX4) (T := TX4) (N := 4) hx hb hts inX4 hown hK hP 0 rfl rfl 1 (by decide) f15 (fun _ h9 => h9) rfl dX4_readFrom_1 ?_
  refine lv_if_lt (tgt := 27) hx hb dX4_readFrom_4 (by decide) (fun h4 => ?_) (fun h4 => ?_)
  · skip
    have h4 := (cT (nI_toInt (by omega)) z0_toInt).mp h4
    exact absurd h4 (by omega)
  · skip
    have h4 := (not_congr (cT (nI_toInt (by omega)) z0_toInt)).mp h4
    refine lv_aload_n hx hb dX4_readFrom_7 rfl (lv_at hl 0 rfl) ?_
    refine va_get (D := D) (ci := 4) (v := .int (nI tp)) (C := RX4) (T := TX4) (N := 4) hx hb hts inX4 hown hK hP 0 rfl rfl 1 (by decide) f15 (fun _ h9 => h9) rfl dX4_readFrom_8 ?_
    refine lv_aload_n hx hb dX4_readFrom_11 rfl (lv_at hl 0 rfl) ?_
    refine va_get (D := D) (ci := 4) (v := .int (nI tl)) (C := RX4) (T := TX4) (N := 4) hx hb hts inX4 hown hK hP 0 rfl rfl 0 (by decide) f9 (fun _ h9 => h9) rfl dX4_readFrom_12 ?_
    refine lv_icmp_ge (tgt := 27) hx hb dX4_readFrom_15 (by decide) (fun h15 => ?_) (fun h15 => ?_)
    · skip
      have h15 := (cL (nI_toInt (by omega)) (nI_toInt (by omega))).mp h15
      refine lv_iconst (v := iZ (-1)) hx hb dX4_readFrom_27 (by decide) ?_
      rw [← hE]
      exact xe_i (tp) hx hb hr hlocks hK hP hD hS (rd_f (by omega)) dX4_readFrom_28
    · skip
      have h15 := (not_congr (cL (nI_toInt (by omega)) (nI_toInt (by omega)))).mp h15
      refine lv_aload_n hx hb dX4_readFrom_18 rfl (lv_at hl 0 rfl) ?_
      refine va_get (D := D) (ci := 4) (v := .int (nI tp)) (C := RX4) (T := TX4) (N := 4) hx hb hts inX4 hown hK hP 0 rfl rfl 1 (by decide) f15 (fun _ h9 => h9) rfl dX4_readFrom_19 ?_
      refine lv_bipush (v := nI (60)) hx hb dX4_readFrom_22 (by decide) ?_
      refine lv_icmp_lt (tgt := 29) hx hb dX4_readFrom_24 (by decide) (fun h24 => ?_) (fun h24 => ?_)
      · skip
        have h24 := (cT (nI_toInt (by omega)) (nI_toInt (by omega))).mp h24
        refine lv_aload_n hx hb dX4_readFrom_29 rfl (lv_at hl 0 rfl) ?_
        refine va_get (D := D) (ci := 4) (v := .ref ts) (C := RX4) (T := TX4) (N := 4) hx hb hts inX4 hown hK hP 0 rfl rfl 3 (by decide) f25 (fun _ h9 => h9) rfl dX4_readFrom_30 ?_
        refine lv_aload_n hx hb dX4_readFrom_33 rfl (lv_at hl 0 rfl) ?_
        refine va_get (D := D) (ci := 4) (v := .int (nI tp)) (C := RX4) (T := TX4) (N := 4) hx hb hts inX4 hown hK hP 0 rfl rfl 1 (by decide) f15 (fun _ h9 => h9) rfl dX4_readFrom_34 ?_
        refine xr_cald hx hb hK hP 1 2 rfl rfl (by omega) (Nat.le_of_ble_eq_true rfl) (v := iZ (sg tp)) rfl dX4_readFrom_37 ?_
        have hq := hsg tp (by omega)
        refine lv_iload_n hx hb dX4_readFrom_38 rfl (lv_at hl 1 rfl) ?_
        refine xr_isub_zn hx hb dX4_readFrom_39 ?_
        refine lv_istore (lv' := [(4, .int (iZ ((sg tp) - ((zz : Nat) : Int)))), (0, .ref tx), (1, .int (nI zz)), (2, .int (nI lo)), (3, .int (nI hi))]) hx hb dX4_readFrom_40 hl (by decide) rfl (fun ls hl => ?_)
        refine lv_iload hx hb dX4_readFrom_42 (lv_at hl 0 rfl) ?_
        refine lv_iload_n hx hb dX4_readFrom_44 rfl (lv_at hl 3 rfl) ?_
        refine lv_icmp_lt (tgt := 54) hx hb dX4_readFrom_45 (by decide) (fun h45 => ?_) (fun h45 => ?_)
        · skip
          have h45 := (cT (iZ_toInt (by omega) (by omega)) (nI_toInt (by omega))).mp h45
          refine lv_iconst (v := iZ (-1)) hx hb dX4_readFrom_54 (by decide) ?_
          rw [← hE]
          exact xe_i (tp) hx hb hr hlocks hK hP hD hS (rd_f (by omega)) dX4_readFrom_55
        · skip
          have h45 := (not_congr (cT (iZ_toInt (by omega) (by omega)) (nI_toInt (by omega)))).mp h45
          refine lv_iload hx hb dX4_readFrom_48 (lv_at hl 0 rfl) ?_
          refine lv_iload_n hx hb dX4_readFrom_50 rfl (lv_at hl 4 rfl) ?_
          refine lv_icmp_le (tgt := 56) hx hb dX4_readFrom_51 (by decide) (fun h51 => ?_) (fun h51 => ?_)
          · skip
            have h51 := (cL (iZ_toInt (by omega) (by omega)) (nI_toInt (by omega))).mp h51
            refine lv_aload_n hx hb dX4_readFrom_56 rfl (lv_at hl 1 rfl) ?_
            refine lv_dup hx hb dX4_readFrom_57 rfl ?_
            refine va_get (D := D) (ci := 4) (v := .int (nI tp)) (C := RX4) (T := TX4) (N := 4) hx hb hts inX4 hown hK hP 0 rfl rfl 1 (by decide) f15 (fun _ h9 => h9) rfl dX4_readFrom_58 ?_
            refine lv_iconst (v := nI (1)) hx hb dX4_readFrom_61 (by decide) ?_
            refine xr_iadd hx hb dX4_readFrom_62 ?_
            refine va_put (D := D) (ci := 4) (v := .int (nI (tp + 1))) (ty := .int) (C := RX4) (T := TX4) (N := 4) hx hb hts inX4 tyX4 tyX4_ok nmX4 hown hK hP hD hS 0 rfl rfl 1 (by decide) f15 (fun _ h9 => h9) rfl (by decide +kernel) rfl rfl (Nat.le_of_ble_eq_true rfl) dX4_readFrom_63 (fun H locs hP hD hS => ?_)
            have hP : va_P D vwCl [(tx, .inr (4, [.int (nI tl), .int (nI (tp + 1)), .ref th, .ref ts])), (ts, .inl (ca 2, 60, .inl (zF sg)))] H := hP
            have hD : va_D A [(tx, .inr (4, [.int (nI tl), .int (nI (tp + 1)), .ref th, .ref ts])), (ts, .inl (ca 2, 60, .inl (zF sg)))] := hD
            refine lv_iload hx hb dX4_readFrom_66 (lv_at hl 0 rfl) ?_
            rw [← hE]
            exact xe_i (tp + 1) hx hb hr hlocks hK hP hD hS (rd_t (by omega)) dX4_readFrom_68
          · skip
            have h51 := (not_congr (cL (iZ_toInt (by omega) (by omega)) (nI_toInt (by omega)))).mp h51
            refine lv_iconst (v := iZ (-1)) hx hb dX4_readFrom_54 (by decide) ?_
            rw [← hE]
            exact xe_i (tp) hx hb hr hlocks hK hP hD hS (rd_f (by omega)) dX4_readFrom_55
      · skip
        have h24 := (not_congr (cT (nI_toInt (by omega)) (nI_toInt (by omega)))).mp h24
        refine lv_iconst (v := iZ (-1)) hx hb dX4_readFrom_27 (by decide) ?_
        rw [← hE]
        exact xe_i (tp) hx hb hr hlocks hK hP hD hS (rd_f (by omega)) dX4_readFrom_28
def rX4_take : Room := { frames := 1, cells := 0, slots := 0, locals := 24 }
set_option maxHeartbeats 4000000 in
set_option maxRecDepth 100000 in
/-- take(sign) -/
theorem mX4_take (l : Launch) (D : va_G) (ca : Nat → ClassId) (sz : Nat) (tx : Nat) (th : Nat) (ts : Nat) (tl : Nat) (tp : Nat) (sg : Nat → Int) (zz : Nat) (htl : tl ≤ 60) (hsg : ∀ j, j < 60 → 0 ≤ sg j ∧ sg j ≤ 65535) (htp : tp ≤ tl) (hzz : zz ≤ 65535) : MM l yX4_take wsX4_take rX4_take D ca [.ref tx, .int (nI zz)] sz [(tx, .inr (4, [.int (nI tl), .int (nI tp), .ref th, .ref ts])), (ts, .inl (ca 2, 60, .inl (zF sg)))] (QI D ca (fun (r : Int32) (u : Nat) => r = bI (rdC sg tl tp zz 0 0) ∧ u = rdP sg tl tp zz 0 0) (fun u => [(tx, .inr (4, [.int (nI tl), .int (nI u), .ref th, .ref ts])), (ts, .inl (ca 2, 60, .inl (zF sg)))])) := by
  refine MM_of (cc := cX4_take) (maxL := 2) (ret := (some .boolean)) (lv0 := [(0, .ref tx), (1, .int (nI zz))]) RX4 (by decide) rfl rfl (Nat.le_of_ble_eq_true rfl) rfl ?_
  intro pG eV s mI args below meth cO hx hb hr hml hts hown hlocks hnm A hA H locs hsz hP hK hD hS Q hE ls hl
  refine lv_aload_n hx hb dX4_take_0 rfl (lv_at hl 0 rfl) ?_
  refine lv_iload_n hx hb dX4_take_1 rfl (lv_at hl 1 rfl) ?_
  refine lv_iconst (v := nI (0)) hx hb dX4_take_2 (by decide) ?_
  refine lv_iconst (v := nI (0)) hx hb dX4_take_3 (by decide) ?_
  refine xk_i [] (fun u => [(tx, .inr (4, [.int (nI tl), .int (nI u), .ref th, .ref ts])), (ts, .inl (ca 2, 60, .inl (zF sg)))]) (xk_V (As := [.int (nI zz), .int (nI 0), .int (nI 0)]) (rest := []) ⟨hx, hb, hml, hown, hts⟩ (mX4_readFrom l D ca H.size tx th ts tl tp sg zz 0 0 (by omega) hsg (by omega) (by omega)) (cwV 3 hts gX4_take_X4_readFrom rfl rfl rfl (by decide +kernel) ⟨Nat.le_of_ble_eq_true rfl, Nat.le_of_ble_eq_true rfl⟩) hK hP hD (va_recv (q := (RX4, TX4, 4)) hK hP (ci := 4) (q0 := 0) rfl rfl) [0, 1] rfl rfl rfl hl.1 rfl (Nat.le_of_ble_eq_true rfl) dX4_take_4 ⟨Nat.le_of_ble_eq_true rfl, Nat.le_of_ble_eq_true rfl⟩) hP hD hS hA [0, 1] [] [0, 1] rfl rfl rfl rfl (fun _ => rfl) rfl (fun r4 u4 H locs hw4 hP hD hS => ?_)
  obtain ⟨p14, hu4⟩ : ∃ z, z = u4 := ⟨_, rfl⟩
  subst hu4
  have hw4 : r4 = iZ (rdV sg tl tp zz 0 0) ∧ p14 = rdP sg tl tp zz 0 0 := hw4
  have hP : va_P D vwCl [(tx, .inr (4, [.int (nI tl), .int (nI p14), .ref th, .ref ts])), (ts, .inl (ca 2, 60, .inl (zF sg)))] H := hP
  have hD : va_D A [(tx, .inr (4, [.int (nI tl), .int (nI p14), .ref th, .ref ts])), (ts, .inl (ca 2, 60, .inl (zF sg)))] := hD
  obtain ⟨hwr4, hv4⟩ := hw4
  subst hwr4
  have hq := rdV_rng sg tl tp zz 0 0
  refine lv_if_ne (tgt := 14) hx hb dX4_take_7 (by decide) (fun h7 => ?_) (fun h7 => ?_)
  · skip
    have h7 := (not_congr (cE (iZ_toInt (by omega) (by omega)) z0_toInt)).mp h7
    refine lv_iconst (v := nI (0)) hx hb dX4_take_14 (by decide) ?_
    rw [← hE]
    exact xe_z (p14) hx hb hr hlocks hK hP hD hS rfl (⟨rd0_f h7, hv4⟩) dX4_take_15
  · skip
    have h7 := (cE (iZ_toInt (by omega) (by omega)) z0_toInt).mp h7
    refine lv_iconst (v := nI (1)) hx hb dX4_take_10 (by decide) ?_
    refine lv_goto (tgt := 15) hx hb dX4_take_11 (by decide) ?_
    rw [← hE]
    exact xe_z (p14) hx hb hr hlocks hK hP hD hS rfl (⟨rd0_t h7, hv4⟩) dX4_take_15
def rX4_readLength : Room := { frames := 1, cells := 0, slots := 0, locals := 24 }
set_option maxHeartbeats 4000000 in
set_option maxRecDepth 100000 in
/-- readLength() -/
theorem mX4_readLength (l : Launch) (D : va_G) (ca : Nat → ClassId) (sz : Nat) (tx : Nat) (th : Nat) (ts : Nat) (tl : Nat) (tp : Nat) (sg : Nat → Int) (htl : tl ≤ 60) (hsg : ∀ j, j < 60 → 0 ≤ sg j ∧ sg j ≤ 65535) (htp : tp ≤ tl) : MM l yX4_readLength wsX4_readLength rX4_readLength D ca [.ref tx] sz [(tx, .inr (4, [.int (nI tl), .int (nI tp), .ref th, .ref ts])), (ts, .inl (ca 2, 60, .inl (zF sg)))] (QI D ca (fun (r : Int32) (u : Nat) => r = iZ (lnV sg tl tp) ∧ u = lnP sg tl tp) (fun u => [(tx, .inr (4, [.int (nI tl), .int (nI u), .ref th, .ref ts])), (ts, .inl (ca 2, 60, .inl (zF sg)))])) := by
  refine MM_of (cc := cX4_readLength) (maxL := 3) (ret := (some .int)) (lv0 := [(0, .ref tx)]) RX4 (by decide) rfl rfl (Nat.le_of_ble_eq_true rfl) rfl ?_
  intro pG eV s mI args below meth cO hx hb hr hml hts hown hlocks hnm A hA H locs hsz hP hK hD hS Q hE ls hl
  refine lv_aload_n hx hb dX4_readLength_0 rfl (lv_at hl 0 rfl) ?_
  refine lv_bipush (v := nI (48)) hx hb dX4_readLength_1 (by decide) ?_
  refine lv_iconst (v := nI (0)) hx hb dX4_readLength_3 (by decide) ?_
  refine lv_bipush (v := nI (9)) hx hb dX4_readLength_4 (by decide) ?_
  refine xk_i [] (fun u => [(tx, .inr (4, [.int (nI tl), .int (nI u), .ref th, .ref ts])), (ts, .inl (ca 2, 60, .inl (zF sg)))]) (xk_V (As := [.int (nI 48), .int (nI 0), .int (nI 9)]) (rest := []) ⟨hx, hb, hml, hown, hts⟩ (mX4_readFrom l D ca H.size tx th ts tl tp sg 48 0 9 (by omega) hsg (by omega) (by omega)) (cwV 3 hts gX4_readLength_X4_readFrom rfl rfl rfl (by decide +kernel) ⟨Nat.le_of_ble_eq_true rfl, Nat.le_of_ble_eq_true rfl⟩) hK hP hD (va_recv (q := (RX4, TX4, 4)) hK hP (ci := 4) (q0 := 0) rfl rfl) [0, 1] rfl rfl rfl hl.1 rfl (Nat.le_of_ble_eq_true rfl) dX4_readLength_6 ⟨Nat.le_of_ble_eq_true rfl, Nat.le_of_ble_eq_true rfl⟩) hP hD hS hA [0, 1] [] [0, 1] rfl rfl rfl rfl (fun _ => rfl) rfl (fun r6 u6 H locs hw6 hP hD hS => ?_)
  obtain ⟨p16, hu6⟩ : ∃ z, z = u6 := ⟨_, rfl⟩
  subst hu6
  have hw6 : r6 = iZ (rdV sg tl tp 48 0 9) ∧ p16 = rdP sg tl tp 48 0 9 := hw6
  have hP : va_P D vwCl [(tx, .inr (4, [.int (nI tl), .int (nI p16), .ref th, .ref ts])), (ts, .inl (ca 2, 60, .inl (zF sg)))] H := hP
  have hD : va_D A [(tx, .inr (4, [.int (nI tl), .int (nI p16), .ref th, .ref ts])), (ts, .inl (ca 2, 60, .inl (zF sg)))] := hD
  obtain ⟨hwr6, hv6⟩ := hw6
  subst hwr6
  have hq := rdV_rng sg tl tp 48 0 9
  have hq2 := rdP_le sg tl tp 48 0 9
  refine lv_istore_n (lv' := [(1, .int (iZ (rdV sg tl tp 48 0 9))), (0, .ref tx)]) hx hb dX4_readLength_9 rfl hl (by decide) rfl (fun ls hl => ?_)
  refine lv_iload_n hx hb dX4_readLength_10 rfl (lv_at hl 0 rfl) ?_
  refine lv_iconst (v := nI (1)) hx hb dX4_readLength_11 (by decide) ?_
  refine lv_icmp_lt (tgt := 20) hx hb dX4_readLength_12 (by decide) (fun h12 => ?_) (fun h12 => ?_)
  · skip
    have h12 := (cT (iZ_toInt (by omega) (by omega)) (nI_toInt (by omega))).mp h12
    refine lv_iload_n hx hb dX4_readLength_20 rfl (lv_at hl 0 rfl) ?_
    rw [← hE]
    exact xe_i (p16) hx hb hr hlocks hK hP hD hS (ln_a (by omega) hv6) dX4_readLength_21
  · skip
    have h12 := (not_congr (cT (iZ_toInt (by omega) (by omega)) (nI_toInt (by omega)))).mp h12
    refine lv_iload_n hx hb dX4_readLength_15 rfl (lv_at hl 0 rfl) ?_
    refine lv_iconst (v := nI (3)) hx hb dX4_readLength_16 (by decide) ?_
    refine lv_icmp_le (tgt := 22) hx hb dX4_readLength_17 (by decide) (fun h17 => ?_) (fun h17 => ?_)
    · skip
      have h17 := (cL (iZ_toInt (by omega) (by omega)) (nI_toInt (by omega))).mp h17
      refine lv_aload_n hx hb dX4_readLength_22 rfl (lv_at hl 1 rfl) ?_
      refine lv_bipush (v := nI (48)) hx hb dX4_readLength_23 (by decide) ?_
      refine lv_iconst (v := nI (0)) hx hb dX4_readLength_25 (by decide) ?_
      refine lv_iload_n hx hb dX4_readLength_26 rfl (lv_at hl 0 rfl) ?_
      refine lv_iconst (v := nI (3)) hx hb dX4_readLength_27 (by decide) ?_
      refine lv_icmp_ne (tgt := 35) hx hb dX4_readLength_28 (by decide) (fun h28 => ?_) (fun h28 => ?_)
      · skip
        have h28 := (not_congr (cE (iZ_toInt (by omega) (by omega)) (nI_toInt (by omega)))).mp h28
        refine lv_bipush (v := nI (9)) hx hb dX4_readLength_35 (by decide) ?_
        refine xk_i [] (fun u => [(tx, .inr (4, [.int (nI tl), .int (nI u), .ref th, .ref ts])), (ts, .inl (ca 2, 60, .inl (zF sg)))]) (xk_V (As := [.int (nI 48), .int (nI 0), .int (nI 9)]) (rest := []) ⟨hx, hb, hml, hown, hts⟩ (mX4_readFrom l D ca H.size tx th ts tl p16 sg 48 0 9 (by omega) hsg (by omega) (by omega)) (cwV 3 hts gX4_readLength_X4_readFrom rfl rfl rfl (by decide +kernel) ⟨Nat.le_of_ble_eq_true rfl, Nat.le_of_ble_eq_true rfl⟩) hK hP hD (va_recv (q := (RX4, TX4, 4)) hK hP (ci := 4) (q0 := 0) rfl rfl) [0, 1] rfl rfl rfl hl.1 rfl (Nat.le_of_ble_eq_true rfl) dX4_readLength_37 ⟨Nat.le_of_ble_eq_true rfl, Nat.le_of_ble_eq_true rfl⟩) hP hD hS hA [0, 1] [] [0, 1] rfl rfl rfl rfl (fun _ => rfl) rfl (fun r37 u37 H locs hw37 hP hD hS => ?_)
        obtain ⟨p137, hu37⟩ : ∃ z, z = u37 := ⟨_, rfl⟩
        subst hu37
        have hw37 : r37 = iZ (rdV sg tl p16 48 0 9) ∧ p137 = rdP sg tl p16 48 0 9 := hw37
        have hP : va_P D vwCl [(tx, .inr (4, [.int (nI tl), .int (nI p137), .ref th, .ref ts])), (ts, .inl (ca 2, 60, .inl (zF sg)))] H := hP
        have hD : va_D A [(tx, .inr (4, [.int (nI tl), .int (nI p137), .ref th, .ref ts])), (ts, .inl (ca 2, 60, .inl (zF sg)))] := hD
        obtain ⟨hwr37, hv37⟩ := hw37
        subst hwr37
        have hq3 := rdV_rng sg tl p16 48 0 9
        refine lv_istore_n (lv' := [(2, .int (iZ (rdV sg tl p16 48 0 9))), (1, .int (iZ (rdV sg tl tp 48 0 9))), (0, .ref tx)]) hx hb dX4_readLength_40 rfl hl (by decide) rfl (fun ls hl => ?_)
        refine lv_iload_n hx hb dX4_readLength_41 rfl (lv_at hl 0 rfl) ?_
        refine lv_iconst (v := iZ (-1)) hx hb dX4_readLength_42 (by decide) ?_
        refine lv_icmp_ne (tgt := 50) hx hb dX4_readLength_43 (by decide) (fun h43 => ?_) (fun h43 => ?_)
        · skip
          have h43 := (not_congr (cE (iZ_toInt (by omega) (by omega)) (iZ_toInt (by omega) (by omega)))).mp h43
          refine lv_iload_n hx hb dX4_readLength_50 rfl (lv_at hl 1 rfl) ?_
          refine lv_bipush (v := nI (10)) hx hb dX4_readLength_51 (by decide) ?_
          refine xr_imul_zn hx hb dX4_readLength_53 ?_
          refine lv_iload_n hx hb dX4_readLength_54 rfl (lv_at hl 0 rfl) ?_
          refine xr_iadd_zz hx hb dX4_readLength_55 ?_
          rw [← hE]
          exact xe_i (p137) hx hb hr hlocks hK hP hD hS (ln_c (by omega) hv6 (by rw [if_neg (show ¬ rdV sg tl tp 48 0 9 = 3 from h28)]) hv37 h43) dX4_readLength_56
        · skip
          have h43 := (cE (iZ_toInt (by omega) (by omega)) (iZ_toInt (by omega) (by omega))).mp h43
          refine lv_iload_n hx hb dX4_readLength_46 rfl (lv_at hl 1 rfl) ?_
          refine lv_goto (tgt := 56) hx hb dX4_readLength_47 (by decide) ?_
          rw [← hE]
          exact xe_i (p137) hx hb hr hlocks hK hP hD hS (ln_b (by omega) hv6 (by rw [if_neg (show ¬ rdV sg tl tp 48 0 9 = 3 from h28)]) hv37 h43) dX4_readLength_56
      · skip
        have h28 := (cE (iZ_toInt (by omega) (by omega)) (nI_toInt (by omega))).mp h28
        refine lv_iconst (v := nI (0)) hx hb dX4_readLength_31 (by decide) ?_
        refine lv_goto (tgt := 37) hx hb dX4_readLength_32 (by decide) ?_
        refine xk_i [] (fun u => [(tx, .inr (4, [.int (nI tl), .int (nI u), .ref th, .ref ts])), (ts, .inl (ca 2, 60, .inl (zF sg)))]) (xk_V (As := [.int (nI 48), .int (nI 0), .int (nI 0)]) (rest := []) ⟨hx, hb, hml, hown, hts⟩ (mX4_readFrom l D ca H.size tx th ts tl p16 sg 48 0 0 (by omega) hsg (by omega) (by omega)) (cwV 3 hts gX4_readLength_X4_readFrom rfl rfl rfl (by decide +kernel) ⟨Nat.le_of_ble_eq_true rfl, Nat.le_of_ble_eq_true rfl⟩) hK hP hD (va_recv (q := (RX4, TX4, 4)) hK hP (ci := 4) (q0 := 0) rfl rfl) [0, 1] rfl rfl rfl hl.1 rfl (Nat.le_of_ble_eq_true rfl) dX4_readLength_37 ⟨Nat.le_of_ble_eq_true rfl, Nat.le_of_ble_eq_true rfl⟩) hP hD hS hA [0, 1] [] [0, 1] rfl rfl rfl rfl (fun _ => rfl) rfl (fun r37 u37 H locs hw37 hP hD hS => ?_)
        obtain ⟨p137, hu37⟩ : ∃ z, z = u37 := ⟨_, rfl⟩
        subst hu37
        have hw37 : r37 = iZ (rdV sg tl p16 48 0 0) ∧ p137 = rdP sg tl p16 48 0 0 := hw37
        have hP : va_P D vwCl [(tx, .inr (4, [.int (nI tl), .int (nI p137), .ref th, .ref ts])), (ts, .inl (ca 2, 60, .inl (zF sg)))] H := hP
        have hD : va_D A [(tx, .inr (4, [.int (nI tl), .int (nI p137), .ref th, .ref ts])), (ts, .inl (ca 2, 60, .inl (zF sg)))] := hD
        obtain ⟨hwr37, hv37⟩ := hw37
        subst hwr37
        have hq3 := rdV_rng sg tl p16 48 0 0
        refine lv_istore_n (lv' := [(2, .int (iZ (rdV sg tl p16 48 0 0))), (1, .int (iZ (rdV sg tl tp 48 0 9))), (0, .ref tx)]) hx hb dX4_readLength_40 rfl hl (by decide) rfl (fun ls hl => ?_)
        refine lv_iload_n hx hb dX4_readLength_41 rfl (lv_at hl 0 rfl) ?_
        refine lv_iconst (v := iZ (-1)) hx hb dX4_readLength_42 (by decide) ?_
        refine lv_icmp_ne (tgt := 50) hx hb dX4_readLength_43 (by decide) (fun h43 => ?_) (fun h43 => ?_)
        · skip
          have h43 := (not_congr (cE (iZ_toInt (by omega) (by omega)) (iZ_toInt (by omega) (by omega)))).mp h43
          refine lv_iload_n hx hb dX4_readLength_50 rfl (lv_at hl 1 rfl) ?_
          refine lv_bipush (v := nI (10)) hx hb dX4_readLength_51 (by decide) ?_
          refine xr_imul_zn hx hb dX4_readLength_53 ?_
          refine lv_iload_n hx hb dX4_readLength_54 rfl (lv_at hl 0 rfl) ?_
          refine xr_iadd_zz hx hb dX4_readLength_55 ?_
          rw [← hE]
          exact xe_i (p137) hx hb hr hlocks hK hP hD hS (ln_c (by omega) hv6 (by rw [if_pos (show rdV sg tl tp 48 0 9 = 3 from h28)]) hv37 h43) dX4_readLength_56
        · skip
          have h43 := (cE (iZ_toInt (by omega) (by omega)) (iZ_toInt (by omega) (by omega))).mp h43
          refine lv_iload_n hx hb dX4_readLength_46 rfl (lv_at hl 1 rfl) ?_
          refine lv_goto (tgt := 56) hx hb dX4_readLength_47 (by decide) ?_
          rw [← hE]
          exact xe_i (p137) hx hb hr hlocks hK hP hD hS (ln_b (by omega) hv6 (by rw [if_pos (show rdV sg tl tp 48 0 9 = 3 from h28)]) hv37 h43) dX4_readLength_56
    · skip
      have h17 := (not_congr (cL (iZ_toInt (by omega) (by omega)) (nI_toInt (by omega)))).mp h17
      refine lv_iload_n hx hb dX4_readLength_20 rfl (lv_at hl 0 rfl) ?_
      rw [← hE]
      exact xe_i (p16) hx hb hr hlocks hK hP hD hS (ln_a (by omega) hv6) dX4_readLength_21
def rX4_readPredecessors : Room := { frames := 3, cells := 0, slots := 0, locals := 66 }
set_option maxHeartbeats 4000000 in
set_option maxRecDepth 100000 in
/-- readPredecessors(task) -/
theorem mX4_readPredecessors (l : Launch) (D : va_G) (ca : Nat → ClassId) (sz : Nat) (tx : Nat) (th : Nat) (ts : Nat) (tl : Nat) (tp : Nat) (sg : Nat → Int) (ta : Nat) (tb : Nat) (tc : Nat) (T : Nat) (E : Int) (C : Int) (G : Nat → Nat → Int) (t : Nat) (htl : tl ≤ 60) (hsg : ∀ j, j < 60 → 0 ≤ sg j ∧ sg j ≤ 65535) (htp : tp ≤ tl) (hT : T ≤ 20) (htt : t < T ∧ 1 ≤ t) (hG : GOK G) (hEl : E = lnk G) : MM l yX4_readPredecessors wsX4_readPredecessors rX4_readPredecessors D ca [.ref tx, .int (nI t)] sz [(tx, .inr (4, [.int (nI tl), .int (nI tp), .ref th, .ref ts])), (ts, .inl (ca 2, 60, .inl (zF sg))), (th, .inr (7, [.int (nI T), .int (iZ E), .int (iZ C), .ref ta, .ref tb, .ref tc])), (tc, .inl (ca 0, 400, .inl (zG G)))] (QI D ca (fun (r : Int32) (u : Nat × Int × (Nat → Nat → Int)) => r = bI (pdN sg tl t t 0 tp G).1 ∧ u.1 = (pdN sg tl t t 0 tp G).2.1 ∧ u.2.2 = (pdN sg tl t t 0 tp G).2.2 ∧ u.2.1 = lnk u.2.2) (fun u => [(tx, .inr (4, [.int (nI tl), .int (nI u.1), .ref th, .ref ts])), (ts, .inl (ca 2, 60, .inl (zF sg))), (th, .inr (7, [.int (nI T), .int (iZ u.2.1), .int (iZ C), .ref ta, .ref tb, .ref tc])), (tc, .inl (ca 0, 400, .inl (zG u.2.2)))])) := by
  refine MM_of (cc := cX4_readPredecessors) (maxL := 5) (ret := (some .boolean)) (lv0 := [(0, .ref tx), (1, .int (nI t))]) RX4 (by decide) rfl rfl (Nat.le_of_ble_eq_true rfl) rfl ?_
  intro pG eV s mI args below meth cO hx hb hr hml hts hown hlocks hnm A hA H locs hsz hP hK hD hS Q hE ls hl
  have f21 := hts (.fieldLink RX4 21 "SlackPlan$PlanText" "plan" "LSlackPlan$State;") (List.mem_of_getElem? (i := 1) rfl)
  have inX4 : ∀ w ∈ u_ws RX4 TX4 4, w ∈ wsX4_readPredecessors := in_r _ [34, 35, 36, 37] rfl
  have ml55 := hts (.methodLink RX4 55 Lib.Math.max.name) (List.mem_of_getElem? (i := 2) rfl)
  have stmax := hts (.static Lib.Math.max.name) (List.mem_of_getElem? (i := 3) rfl)
  have iniM := hts (.initialized "java/lang/Math") (List.mem_of_getElem? (i := 4) rfl)
  have cdmax := hts (.code Lib.Math.max.name Lib.Math.max.code 2 (some .int)) (List.mem_of_getElem? (i := 5) rfl)
  refine lv_iconst (v := nI (0)) hx hb dX4_readPredecessors_0 (by decide) ?_
  refine lv_istore_n (lv' := [(2, .int (nI 0)), (0, .ref tx), (1, .int (nI t))]) hx hb dX4_readPredecessors_1 rfl hl (by decide) rfl (fun ls hl => ?_)
  refine lv_iconst (v := nI (0)) hx hb dX4_readPredecessors_2 (by decide) ?_
  refine lv_istore_n (lv' := [(3, .int (nI 0)), (2, .int (nI 0)), (0, .ref tx), (1, .int (nI t))]) hx hb dX4_readPredecessors_3 rfl hl (by decide) rfl (fun ls hl => ?_)
  have L4 : ∀ (fu : Nat) (cn : Nat) (lq : Nat) (p : Nat) (E2 : Int) (G2 : Nat → Nat → Int), (cn ≤ lq ∧ lq < t) → (p ≤ tl) → (GOK G2) → (E2 = lnk G2) → (pdN sg tl t t 0 tp G = pdN sg tl t (t - cn) lq p G2) → (t - cn) < fu → ∀ (H : Heap) (locs : List Loc), va_P D vwCl [(tx, .inr (4, [.int (nI tl), .int (nI p), .ref th, .ref ts])), (ts, .inl (ca 2, 60, .inl (zF sg))), (th, .inr (7, [.int (nI T), .int (iZ E2), .int (iZ C), .ref ta, .ref tb, .ref tc])), (tc, .inl (ca 0, 400, .inl (zG G2)))] H → va_D A [(tx, .inr (4, [.int (nI tl), .int (nI p), .ref th, .ref ts])), (ts, .inl (ca 2, 60, .inl (zF sg))), (th, .inr (7, [.int (nI T), .int (iZ E2), .int (iZ C), .ref ta, .ref tb, .ref tc])), (tc, .inl (ca 0, 400, .inl (zG G2)))] → va_S A s.heap H locs → ∀ ls : Array Slot, lv_has ls 5 [(3, .int (nI cn)), (2, .int (nI lq)), (0, .ref tx), (1, .int (nI t))] → W pG l eV rX4_readPredecessors s mI args below meth cO H locs 0 0 Q (F0 mI 4 ls []) := by
    clear hP hD hS hl
    intro fu; induction fu with
    | zero => intro cn lq p E2 G2 hcn hp hG2 hE2 hpd hmu; exact absurd hmu (Nat.not_lt_zero _)
    | succ n4 ih4 =>
      intro cn lq p E2 G2 hcn hp hG2 hE2 hpd hmu4 H locs hP hD hS ls hl
      refine lv_iload_n hx hb dX4_readPredecessors_4 rfl (lv_at hl 0 rfl) ?_
      refine lv_iload_n hx hb dX4_readPredecessors_5 rfl (lv_at hl 3 rfl) ?_
      refine lv_icmp_ge (tgt := 79) hx hb dX4_readPredecessors_6 (by decide) (fun h6 => ?_) (fun h6 => ?_)
      · skip
        have h6 := (cL (nI_toInt (by omega)) (nI_toInt (by omega))).mp h6
        exact absurd h6 (by omega)
      · skip
        have h6 := (not_congr (cL (nI_toInt (by omega)) (nI_toInt (by omega)))).mp h6
        have hfu : t - cn = (t - cn - 1) + 1 := by omega
        refine lv_aload_n hx hb dX4_readPredecessors_9 rfl (lv_at hl 2 rfl) ?_
        refine lv_bipush (v := nI (97)) hx hb dX4_readPredecessors_10 (by decide) ?_
        refine lv_iload_n hx hb dX4_readPredecessors_12 rfl (lv_at hl 1 rfl) ?_
        refine lv_iload_n hx hb dX4_readPredecessors_13 rfl (lv_at hl 3 rfl) ?_
        refine lv_iconst (v := nI (1)) hx hb dX4_readPredecessors_14 (by decide) ?_
        refine xr_isub_nn hx hb dX4_readPredecessors_15 ?_
        refine xr_top (y := nI (t - 1)) (by rw [iZ_n]; exact congrArg iZ (by omega)) ?_
        refine xk_i [(th, .inr (7, [.int (nI T), .int (iZ E2), .int (iZ C), .ref ta, .ref tb, .ref tc])), (tc, .inl (ca 0, 400, .inl (zG G2)))] (fun u => [(tx, .inr (4, [.int (nI tl), .int (nI u), .ref th, .ref ts])), (ts, .inl (ca 2, 60, .inl (zF sg))), (th, .inr (7, [.int (nI T), .int (iZ E2), .int (iZ C), .ref ta, .ref tb, .ref tc])), (tc, .inl (ca 0, 400, .inl (zG G2)))]) (xk_V (As := [.int (nI 97), .int (nI lq), .int (nI (t - 1))]) (rest := []) ⟨hx, hb, hml, hown, hts⟩ (mX4_readFrom l D ca H.size tx th ts tl p sg 97 lq (t - 1) (by omega) hsg (by omega) (by omega)) (cwV 3 hts gX4_readPredecessors_X4_readFrom rfl rfl rfl (by decide +kernel) ⟨Nat.le_of_ble_eq_true rfl, Nat.le_of_ble_eq_true rfl⟩) hK hP hD (va_recv (q := (RX4, TX4, 4)) hK hP (ci := 4) (q0 := 0) rfl rfl) [0, 1] rfl rfl rfl hl.1 rfl (Nat.le_of_ble_eq_true rfl) dX4_readPredecessors_16 ⟨Nat.le_of_ble_eq_true rfl, Nat.le_of_ble_eq_true rfl⟩) hP hD hS hA [0, 1] [2, 3] [2, 3, 0, 1] rfl rfl rfl rfl (fun _ => rfl) rfl (fun r16 u16 H locs hw16 hP hD hS => ?_)
        obtain ⟨p116, hu16⟩ : ∃ z, z = u16 := ⟨_, rfl⟩
        subst hu16
        have hw16 : r16 = iZ (rdV sg tl p 97 lq (t - 1)) ∧ p116 = rdP sg tl p 97 lq (t - 1) := hw16
        have hP : va_P D vwCl [(tx, .inr (4, [.int (nI tl), .int (nI p116), .ref th, .ref ts])), (ts, .inl (ca 2, 60, .inl (zF sg))), (th, .inr (7, [.int (nI T), .int (iZ E2), .int (iZ C), .ref ta, .ref tb, .ref tc])), (tc, .inl (ca 0, 400, .inl (zG G2)))] H := hP
        have hD : va_D A [(tx, .inr (4, [.int (nI tl), .int (nI p116), .ref th, .ref ts])), (ts, .inl (ca 2, 60, .inl (zF sg))), (th, .inr (7, [.int (nI T), .int (iZ E2), .int (iZ C), .ref ta, .ref tb, .ref tc])), (tc, .inl (ca 0, 400, .inl (zG G2)))] := hD
        obtain ⟨hwr16, hv16⟩ := hw16
        subst hwr16
        have hq1 := rdV_rng sg tl p 97 lq (t - 1)
        have hq2 := rdP_le sg tl p 97 lq (t - 1)
        refine lv_istore (lv' := [(4, .int (iZ (rdV sg tl p 97 lq (t - 1)))), (3, .int (nI cn)), (2, .int (nI lq)), (0, .ref tx), (1, .int (nI t))]) hx hb dX4_readPredecessors_19 hl (by decide) rfl (fun ls hl => ?_)
        refine lv_iload hx hb dX4_readPredecessors_21 (lv_at hl 0 rfl) ?_
        refine lv_iconst (v := iZ (-1)) hx hb dX4_readPredecessors_23 (by decide) ?_
        refine lv_icmp_ne (tgt := 29) hx hb dX4_readPredecessors_24 (by decide) (fun h24 => ?_) (fun h24 => ?_)
        · skip
          have h24 := (not_congr (cE (iZ_toInt (by omega) (by omega)) (iZ_toInt (by omega) (by omega)))).mp h24
          refine lv_aload_n hx hb dX4_readPredecessors_29 rfl (lv_at hl 3 rfl) ?_
          refine va_get (D := D) (ci := 4) (v := .ref th) (C := RX4) (T := TX4) (N := 4) hx hb hts inX4 hown hK hP 0 rfl rfl 2 (by decide) f21 (fun _ h9 => h9) rfl dX4_readPredecessors_30 ?_
          refine lv_iload hx hb dX4_readPredecessors_33 (lv_at hl 0 rfl) ?_
          refine xr_top (y := nI ((rdV sg tl p 97 lq (t - 1)).toNat)) (by rw [iZ_n]; exact congrArg iZ (by omega)) ?_
          refine lv_iload_n hx hb dX4_readPredecessors_35 rfl (lv_at hl 4 rfl) ?_
          refine lv_iconst (v := iZ 0) hx hb dX4_readPredecessors_36 (by decide) ?_
          refine lv_aload_n hx hb dX4_readPredecessors_37 rfl (lv_at hl 3 rfl) ?_
          refine lv_bipush (v := nI (48)) hx hb dX4_readPredecessors_38 (by decide) ?_
          refine lv_iconst (v := nI (0)) hx hb dX4_readPredecessors_40 (by decide) ?_
          refine lv_bipush (v := nI (9)) hx hb dX4_readPredecessors_41 (by decide) ?_
          refine xk_i [(th, .inr (7, [.int (nI T), .int (iZ E2), .int (iZ C), .ref ta, .ref tb, .ref tc])), (tc, .inl (ca 0, 400, .inl (zG G2)))] (fun u => [(tx, .inr (4, [.int (nI tl), .int (nI u), .ref th, .ref ts])), (ts, .inl (ca 2, 60, .inl (zF sg))), (th, .inr (7, [.int (nI T), .int (iZ E2), .int (iZ C), .ref ta, .ref tb, .ref tc])), (tc, .inl (ca 0, 400, .inl (zG G2)))]) (xk_V (As := [.int (nI 48), .int (nI 0), .int (nI 9)]) (rest := [.int (iZ 0), .int (nI t), .int (nI ((rdV sg tl p 97 lq (t - 1)).toNat)), .ref th]) ⟨hx, hb, hml, hown, hts⟩ (mX4_readFrom l D ca H.size tx th ts tl p116 sg 48 0 9 (by omega) hsg (by omega) (by omega)) (cwV 3 hts gX4_readPredecessors_X4_readFrom rfl rfl rfl (by decide +kernel) ⟨Nat.le_of_ble_eq_true rfl, Nat.le_of_ble_eq_true rfl⟩) hK hP hD (va_recv (q := (RX4, TX4, 4)) hK hP (ci := 4) (q0 := 0) rfl rfl) [0, 1] rfl rfl rfl hl.1 rfl (Nat.le_of_ble_eq_true rfl) dX4_readPredecessors_43 ⟨Nat.le_of_ble_eq_true rfl, Nat.le_of_ble_eq_true rfl⟩) hP hD hS hA [0, 1] [2, 3] [2, 3, 0, 1] rfl rfl rfl rfl (fun _ => rfl) rfl (fun r43 u43 H locs hw43 hP hD hS => ?_)
          obtain ⟨p143, hu43⟩ : ∃ z, z = u43 := ⟨_, rfl⟩
          subst hu43
          have hw43 : r43 = iZ (rdV sg tl p116 48 0 9) ∧ p143 = rdP sg tl p116 48 0 9 := hw43
          have hP : va_P D vwCl [(tx, .inr (4, [.int (nI tl), .int (nI p143), .ref th, .ref ts])), (ts, .inl (ca 2, 60, .inl (zF sg))), (th, .inr (7, [.int (nI T), .int (iZ E2), .int (iZ C), .ref ta, .ref tb, .ref tc])), (tc, .inl (ca 0, 400, .inl (zG G2)))] H := hP
          have hD : va_D A [(tx, .inr (4, [.int (nI tl), .int (nI p143), .ref th, .ref ts])), (ts, .inl (ca 2, 60, .inl (zF sg))), (th, .inr (7, [.int (nI T), .int (iZ E2), .int (iZ C), .ref ta, .ref tb, .ref tc])), (tc, .inl (ca 0, 400, .inl (zG G2)))] := hD
          obtain ⟨hwr43, hv43⟩ := hw43
          subst hwr43
          have hq3 := rdV_rng sg tl p116 48 0 9
          have hq4 := rdP_le sg tl p116 48 0 9
          refine va_mmax hx hb (by rw [hml]; exact hl.1.symm) hown ml55 stmax iniM cdmax (Nat.le_of_ble_eq_true rfl) (Nat.le_of_ble_eq_true rfl) (Nat.zero_le _) (Nat.zero_le _) dX4_readPredecessors_46 ?_
          refine xr_top (y := iZ (max 0 (rdV sg tl p116 48 0 9))) (imax (iZ_toInt (by omega) (by omega)) (iZ_toInt (by omega) (by omega))) ?_
          refine xk_v [(tx, .inr (4, [.int (nI tl), .int (nI p143), .ref th, .ref ts])), (ts, .inl (ca 2, 60, .inl (zF sg)))] (fun u => [(tx, .inr (4, [.int (nI tl), .int (nI p143), .ref th, .ref ts])), (ts, .inl (ca 2, 60, .inl (zF sg))), (th, .inr (7, [.int (nI T), .int (iZ u), .int (iZ C), .ref ta, .ref tb, .ref tc])), (tc, .inl (ca 0, 400, .inl (zG (upG G2 ((rdV sg tl p 97 lq (t - 1)).toNat) t (max 0 (rdV sg tl p116 48 0 9))))))]) (xk_V (As := [.int (nI ((rdV sg tl p 97 lq (t - 1)).toNat)), .int (nI t), .int (iZ (max 0 (rdV sg tl p116 48 0 9)))]) (rest := []) ⟨hx, hb, hml, hown, hts⟩ (mX7_link l D ca H.size th ta tb tc T E2 C G2 ((rdV sg tl p 97 lq (t - 1)).toNat) t (max 0 (rdV sg tl p116 48 0 9)) (by omega) (by omega) (by omega) hG2) (cwV 3 hts gX4_readPredecessors_X7_link rfl rfl rfl (by decide +kernel) ⟨Nat.le_of_ble_eq_true rfl, Nat.le_of_ble_eq_true rfl⟩) hK hP hD (va_recv (q := (RX7, TX7, 6)) hK hP (ci := 7) (q0 := 2) rfl rfl) [2, 3] rfl rfl rfl hl.1 rfl (Nat.le_of_ble_eq_true rfl) dX4_readPredecessors_49 ⟨Nat.le_of_ble_eq_true rfl, Nat.le_of_ble_eq_true rfl⟩) hP hD hS hA [2, 3] [0, 1] [0, 1, 2, 3] rfl rfl rfl rfl (fun _ => rfl) rfl (fun u49 H locs hw49 hP hD hS => ?_)
          obtain ⟨E149, hu49⟩ : ∃ z, z = u49 := ⟨_, rfl⟩
          subst hu49
          have hw49 : E149 = E2 + (1 - isD G2 ((rdV sg tl p 97 lq (t - 1)).toNat) t) := hw49
          have hP : va_P D vwCl [(tx, .inr (4, [.int (nI tl), .int (nI p143), .ref th, .ref ts])), (ts, .inl (ca 2, 60, .inl (zF sg))), (th, .inr (7, [.int (nI T), .int (iZ E149), .int (iZ C), .ref ta, .ref tb, .ref tc])), (tc, .inl (ca 0, 400, .inl (zG (upG G2 ((rdV sg tl p 97 lq (t - 1)).toNat) t (max 0 (rdV sg tl p116 48 0 9))))))] H := hP
          have hD : va_D A [(tx, .inr (4, [.int (nI tl), .int (nI p143), .ref th, .ref ts])), (ts, .inl (ca 2, 60, .inl (zF sg))), (th, .inr (7, [.int (nI T), .int (iZ E149), .int (iZ C), .ref ta, .ref tb, .ref tc])), (tc, .inl (ca 0, 400, .inl (zG (upG G2 ((rdV sg tl p 97 lq (t - 1)).toNat) t (max 0 (rdV sg tl p116 48 0 9))))))] := hD
          refine lv_iload hx hb dX4_readPredecessors_52 (lv_at hl 0 rfl) ?_
          refine lv_iconst (v := nI (1)) hx hb dX4_readPredecessors_54 (by decide) ?_
          refine xr_iadd_zn hx hb dX4_readPredecessors_55 ?_
          refine xr_top (y := nI ((rdV sg tl p 97 lq (t - 1)).toNat + 1)) (by rw [iZ_n]; exact congrArg iZ (by omega)) ?_
          refine lv_istore_n (lv' := [(2, .int (nI ((rdV sg tl p 97 lq (t - 1)).toNat + 1))), (4, .int (iZ (rdV sg tl p 97 lq (t - 1)))), (3, .int (nI cn)), (0, .ref tx), (1, .int (nI t))]) hx hb dX4_readPredecessors_56 rfl hl (by decide) rfl (fun ls hl => ?_)
          refine lv_iload_n hx hb dX4_readPredecessors_57 rfl (lv_at hl 0 rfl) ?_
          refine lv_iload_n hx hb dX4_readPredecessors_58 rfl (lv_at hl 4 rfl) ?_
          refine lv_icmp_eq (tgt := 71) hx hb dX4_readPredecessors_59 (by decide) (fun h59 => ?_) (fun h59 => ?_)
          · skip
            have h59 := (cE (nI_toInt (by omega)) (nI_toInt (by omega))).mp h59
            refine lv_iconst (v := nI (1)) hx hb dX4_readPredecessors_71 (by decide) ?_
            have h9 := pd_b (G := G2) (f := t - cn - 1) h24 hv16 hv43 (Or.inl (by omega))
            rw [← hE]
            exact xe_z (p143, E149, upG G2 ((rdV sg tl p 97 lq (t - 1)).toNat) t (max 0 (rdV sg tl p116 48 0 9))) hx hb hr hlocks hK hP hD hS rfl (⟨by rw [hpd, hfu, h9]; rfl, by rw [hpd, hfu, h9], by rw [hpd, hfu, h9], lnk_put (by omega) (by omega) (by omega) hE2 hw49⟩) dX4_readPredecessors_72
          · skip
            have h59 := (not_congr (cE (nI_toInt (by omega)) (nI_toInt (by omega)))).mp h59
            refine lv_aload_n hx hb dX4_readPredecessors_62 rfl (lv_at hl 3 rfl) ?_
            refine lv_bipush (v := nI (43)) hx hb dX4_readPredecessors_63 (by decide) ?_
            refine xk_i [(th, .inr (7, [.int (nI T), .int (iZ E149), .int (iZ C), .ref ta, .ref tb, .ref tc])), (tc, .inl (ca 0, 400, .inl (zG (upG G2 ((rdV sg tl p 97 lq (t - 1)).toNat) t (max 0 (rdV sg tl p116 48 0 9))))))] (fun u => [(tx, .inr (4, [.int (nI tl), .int (nI u), .ref th, .ref ts])), (ts, .inl (ca 2, 60, .inl (zF sg))), (th, .inr (7, [.int (nI T), .int (iZ E149), .int (iZ C), .ref ta, .ref tb, .ref tc])), (tc, .inl (ca 0, 400, .inl (zG (upG G2 ((rdV sg tl p 97 lq (t - 1)).toNat) t (max 0 (rdV sg tl p116 48 0 9))))))]) (xk_V (As := [.int (nI 43)]) (rest := []) ⟨hx, hb, hml, hown, hts⟩ (mX4_take l D ca H.size tx th ts tl p143 sg 43 (by omega) hsg (by omega) (by omega)) (cwV 1 hts gX4_readPredecessors_X4_take rfl rfl rfl (by decide +kernel) ⟨Nat.le_of_ble_eq_true rfl, Nat.le_of_ble_eq_true rfl⟩) hK hP hD (va_recv (q := (RX4, TX4, 4)) hK hP (ci := 4) (q0 := 0) rfl rfl) [0, 1] rfl rfl rfl hl.1 rfl (Nat.le_of_ble_eq_true rfl) dX4_readPredecessors_65 ⟨Nat.le_of_ble_eq_true rfl, Nat.le_of_ble_eq_true rfl⟩) hP hD hS hA [0, 1] [2, 3] [2, 3, 0, 1] rfl rfl rfl rfl (fun _ => rfl) rfl (fun r65 u65 H locs hw65 hP hD hS => ?_)
            obtain ⟨p165, hu65⟩ : ∃ z, z = u65 := ⟨_, rfl⟩
            subst hu65
            have hw65 : r65 = bI (rdC sg tl p143 43 0 0) ∧ p165 = rdP sg tl p143 43 0 0 := hw65
            have hP : va_P D vwCl [(tx, .inr (4, [.int (nI tl), .int (nI p165), .ref th, .ref ts])), (ts, .inl (ca 2, 60, .inl (zF sg))), (th, .inr (7, [.int (nI T), .int (iZ E149), .int (iZ C), .ref ta, .ref tb, .ref tc])), (tc, .inl (ca 0, 400, .inl (zG (upG G2 ((rdV sg tl p 97 lq (t - 1)).toNat) t (max 0 (rdV sg tl p116 48 0 9))))))] H := hP
            have hD : va_D A [(tx, .inr (4, [.int (nI tl), .int (nI p165), .ref th, .ref ts])), (ts, .inl (ca 2, 60, .inl (zF sg))), (th, .inr (7, [.int (nI T), .int (iZ E149), .int (iZ C), .ref ta, .ref tb, .ref tc])), (tc, .inl (ca 0, 400, .inl (zG (upG G2 ((rdV sg tl p 97 lq (t - 1)).toNat) t (max 0 (rdV sg tl p116 48 0 9))))))] := hD
            obtain ⟨hwr65, hv65⟩ := hw65
            subst hwr65
            refine lv_if_ne (tgt := 73) hx hb dX4_readPredecessors_68 (by decide) (fun h68 => ?_) (fun h68 => ?_)
            · skip
              have h68 := bI_n0.mp h68
              have hq6 := (decide_eq_true_iff).mp h68
              have e9 : p143 + 1 = p165 := Eq.symm (hv65.trans (rdP_t h68))
              subst e9
              have hP : va_P D vwCl [(tx, .inr (4, [.int (nI tl), .int (nI ((p143 + 1))), .ref th, .ref ts])), (ts, .inl (ca 2, 60, .inl (zF sg))), (th, .inr (7, [.int (nI T), .int (iZ E149), .int (iZ C), .ref ta, .ref tb, .ref tc])), (tc, .inl (ca 0, 400, .inl (zG (upG G2 ((rdV sg tl p 97 lq (t - 1)).toNat) t (max 0 (rdV sg tl p116 48 0 9))))))] H := hP
              have hD : va_D A [(tx, .inr (4, [.int (nI tl), .int (nI ((p143 + 1))), .ref th, .ref ts])), (ts, .inl (ca 2, 60, .inl (zF sg))), (th, .inr (7, [.int (nI T), .int (iZ E149), .int (iZ C), .ref ta, .ref tb, .ref tc])), (tc, .inl (ca 0, 400, .inl (zG (upG G2 ((rdV sg tl p 97 lq (t - 1)).toNat) t (max 0 (rdV sg tl p116 48 0 9))))))] := hD
              refine lv_iinc (v := nI (cn + 1)) (lv' := [(3, .int (nI (cn + 1))), (2, .int (nI ((rdV sg tl p 97 lq (t - 1)).toNat + 1))), (4, .int (iZ (rdV sg tl p 97 lq (t - 1)))), (0, .ref tx), (1, .int (nI t))]) hx hb dX4_readPredecessors_73 hl (k := 2) rfl (nI_add _ 1) (by decide) rfl (fun ls hl => ?_)
              refine lv_goto (tgt := 4) hx hb dX4_readPredecessors_76 (by decide) ?_
              exact ih4 (cn + 1) ((rdV sg tl p 97 lq (t - 1)).toNat + 1) (p143 + 1) E149 (upG G2 ((rdV sg tl p 97 lq (t - 1)).toNat) t (max 0 (rdV sg tl p116 48 0 9))) (by omega) (by omega) (upG_ok2 hG2 (by omega)) (lnk_put (by omega) (by omega) (by omega) hE2 hw49) (by rw [hpd, hfu, pd_c h24 hv16 hv43 (by omega) h68, show t - (cn + 1) = t - cn - 1 by omega]) (by omega) _ _ hP hD hS _ (lv_sub hl [0, 1, 3, 4] rfl)
            · skip
              have h68 := bI_0.mp h68
              have e9 : p143 = p165 := Eq.symm (hv65.trans (rdP_f h68))
              subst e9
              have hP : va_P D vwCl [(tx, .inr (4, [.int (nI tl), .int (nI p143), .ref th, .ref ts])), (ts, .inl (ca 2, 60, .inl (zF sg))), (th, .inr (7, [.int (nI T), .int (iZ E149), .int (iZ C), .ref ta, .ref tb, .ref tc])), (tc, .inl (ca 0, 400, .inl (zG (upG G2 ((rdV sg tl p 97 lq (t - 1)).toNat) t (max 0 (rdV sg tl p116 48 0 9))))))] H := hP
              have hD : va_D A [(tx, .inr (4, [.int (nI tl), .int (nI p143), .ref th, .ref ts])), (ts, .inl (ca 2, 60, .inl (zF sg))), (th, .inr (7, [.int (nI T), .int (iZ E149), .int (iZ C), .ref ta, .ref tb, .ref tc])), (tc, .inl (ca 0, 400, .inl (zG (upG G2 ((rdV sg tl p 97 lq (t - 1)).toNat) t (max 0 (rdV sg tl p116 48 0 9))))))] := hD
              refine lv_iconst (v := nI (1)) hx hb dX4_readPredecessors_71 (by decide) ?_
              have h9 := pd_b (G := G2) (f := t - cn - 1) h24 hv16 hv43 (Or.inr h68)
              rw [← hE]
              exact xe_z (p143, E149, upG G2 ((rdV sg tl p 97 lq (t - 1)).toNat) t (max 0 (rdV sg tl p116 48 0 9))) hx hb hr hlocks hK hP hD hS rfl (⟨by rw [hpd, hfu, h9]; rfl, by rw [hpd, hfu, h9], by rw [hpd, hfu, h9], lnk_put (by omega) (by omega) (by omega) hE2 hw49⟩) dX4_readPredecessors_72
        · skip
          have h24 := (cE (iZ_toInt (by omega) (by omega)) (iZ_toInt (by omega) (by omega))).mp h24
          refine lv_iconst (v := nI (0)) hx hb dX4_readPredecessors_27 (by decide) ?_
          rw [← hE]
          exact xe_z (p116, E2, G2) hx hb hr hlocks hK hP hD hS rfl (⟨by rw [hpd, hfu, pd_a h24]; rfl, by rw [hpd, hfu, pd_a h24]; exact hv16, by rw [hpd, hfu, pd_a h24], hE2⟩) dX4_readPredecessors_28
  exact L4 _ 0 0 tp E G (by omega) (by omega) (by omega) (by omega) (by rw [Nat.sub_zero]) (Nat.lt_succ_self _) _ _ hP hD hS _ (lv_sub hl [0, 1, 2, 3] rfl)
def rX4_readTask : Room := { frames := 4, cells := 0, slots := 0, locals := 90 }
set_option maxHeartbeats 4000000 in
set_option maxRecDepth 100000 in
/-- readTask(task) -/
theorem mX4_readTask (l : Launch) (D : va_G) (ca : Nat → ClassId) (sz : Nat) (tx : Nat) (th : Nat) (ts : Nat) (tl : Nat) (tp : Nat) (sg : Nat → Int) (ta : Nat) (tb : Nat) (tc : Nat) (T : Nat) (E : Int) (C : Int) (L : Nat → Int) (N : Nat → Int) (G : Nat → Nat → Int) (htl : tl ≤ 60) (hsg : ∀ j, j < 60 → 0 ≤ sg j ∧ sg j ≤ 65535) (htp : tp ≤ tl) (hT : T < 20) (hG : GOK G) (hEl : E = lnk G) : MM l yX4_readTask wsX4_readTask rX4_readTask D ca [.ref tx, .int (nI T)] sz [(tx, .inr (4, [.int (nI tl), .int (nI tp), .ref th, .ref ts])), (ts, .inl (ca 2, 60, .inl (zF sg))), (th, .inr (7, [.int (nI T), .int (iZ E), .int (iZ C), .ref ta, .ref tb, .ref tc])), (ta, .inl (ca 0, 20, .inl (zF L))), (tb, .inl (ca 0, 20, .inl (zF N))), (tc, .inl (ca 0, 400, .inl (zG G)))] (QI D ca (fun (r : Int32) (u : Nat × Nat × Int × (Nat → Int) × (Nat → Int) × (Nat → Nat → Int)) => r = bI (tkN sg tl T tp G).1 ∧ u.1 = (tkN sg tl T tp G).2.1 ∧ ((tkN sg tl T tp G).1 = true → u.2.1 = T + 1 ∧ u.2.2.2.1 = upZ L T (tkN sg tl T tp G).2.2.1 ∧ u.2.2.2.2.1 = upZ N T (tkN sg tl T tp G).2.2.2.1 ∧ u.2.2.2.2.2 = (tkN sg tl T tp G).2.2.2.2 ∧ u.2.2.1 = lnk u.2.2.2.2.2)) (fun u => [(tx, .inr (4, [.int (nI tl), .int (nI u.1), .ref th, .ref ts])), (ts, .inl (ca 2, 60, .inl (zF sg))), (th, .inr (7, [.int (nI u.2.1), .int (iZ u.2.2.1), .int (iZ C), .ref ta, .ref tb, .ref tc])), (ta, .inl (ca 0, 20, .inl (zF u.2.2.2.1))), (tb, .inl (ca 0, 20, .inl (zF u.2.2.2.2.1))), (tc, .inl (ca 0, 400, .inl (zG u.2.2.2.2.2)))])) := by
  refine MM_of (cc := cX4_readTask) (maxL := 4) (ret := (some .boolean)) (lv0 := [(0, .ref tx), (1, .int (nI T))]) RX4 (by decide) rfl rfl (Nat.le_of_ble_eq_true rfl) rfl ?_
  intro pG eV s mI args below meth cO hx hb hr hml hts hown hlocks hnm A hA H locs hsz hP hK hD hS Q hE ls hl
  have f21 := hts (.fieldLink RX4 21 "SlackPlan$PlanText" "plan" "LSlackPlan$State;") (List.mem_of_getElem? (i := 1) rfl)
  have inX4 : ∀ w ∈ u_ws RX4 TX4 4, w ∈ wsX4_readTask := in_r _ [48, 49, 50, 51] rfl
  refine lv_aload_n hx hb dX4_readTask_0 rfl (lv_at hl 0 rfl) ?_
  refine lv_bipush (v := nI (97)) hx hb dX4_readTask_1 (by decide) ?_
  refine lv_iload_n hx hb dX4_readTask_3 rfl (lv_at hl 1 rfl) ?_
  refine xr_iadd hx hb dX4_readTask_4 ?_
  refine lv_i2c (v := nI (97 + T)) hx hb dX4_readTask_5 (c16 (by omega)) ?_
  refine xk_i [(th, .inr (7, [.int (nI T), .int (iZ E), .int (iZ C), .ref ta, .ref tb, .ref tc])), (ta, .inl (ca 0, 20, .inl (zF L))), (tb, .inl (ca 0, 20, .inl (zF N))), (tc, .inl (ca 0, 400, .inl (zG G)))] (fun u => [(tx, .inr (4, [.int (nI tl), .int (nI u), .ref th, .ref ts])), (ts, .inl (ca 2, 60, .inl (zF sg))), (th, .inr (7, [.int (nI T), .int (iZ E), .int (iZ C), .ref ta, .ref tb, .ref tc])), (ta, .inl (ca 0, 20, .inl (zF L))), (tb, .inl (ca 0, 20, .inl (zF N))), (tc, .inl (ca 0, 400, .inl (zG G)))]) (xk_V (As := [.int (nI (97 + T))]) (rest := []) ⟨hx, hb, hml, hown, hts⟩ (mX4_take l D ca H.size tx th ts tl tp sg (97 + T) (by omega) hsg (by omega) (by omega)) (cwV 1 hts gX4_readTask_X4_take rfl rfl rfl (by decide +kernel) ⟨Nat.le_of_ble_eq_true rfl, Nat.le_of_ble_eq_true rfl⟩) hK hP hD (va_recv (q := (RX4, TX4, 4)) hK hP (ci := 4) (q0 := 0) rfl rfl) [0, 1] rfl rfl rfl hl.1 rfl (Nat.le_of_ble_eq_true rfl) dX4_readTask_6 ⟨Nat.le_of_ble_eq_true rfl, Nat.le_of_ble_eq_true rfl⟩) hP hD hS hA [0, 1] [2, 3, 4, 5] [4, 5, 0, 1, 2, 3] rfl rfl rfl rfl (fun _ => rfl) rfl (fun r6 u6 H locs hw6 hP hD hS => ?_)
  obtain ⟨p16, hu6⟩ : ∃ z, z = u6 := ⟨_, rfl⟩
  subst hu6
  have hw6 : r6 = bI (rdC sg tl tp (97 + T) 0 0) ∧ p16 = rdP sg tl tp (97 + T) 0 0 := hw6
  have hP : va_P D vwCl [(tx, .inr (4, [.int (nI tl), .int (nI p16), .ref th, .ref ts])), (ts, .inl (ca 2, 60, .inl (zF sg))), (th, .inr (7, [.int (nI T), .int (iZ E), .int (iZ C), .ref ta, .ref tb, .ref tc])), (ta, .inl (ca 0, 20, .inl (zF L))), (tb, .inl (ca 0, 20, .inl (zF N))), (tc, .inl (ca 0, 400, .inl (zG G)))] H := hP
  have hD : va_D A [(tx, .inr (4, [.int (nI tl), .int (nI p16), .ref th, .ref ts])), (ts, .inl (ca 2, 60, .inl (zF sg))), (th, .inr (7, [.int (nI T), .int (iZ E), .int (iZ C), .ref ta, .ref tb, .ref tc])), (ta, .inl (ca 0, 20, .inl (zF L))), (tb, .inl (ca 0, 20, .inl (zF N))), (tc, .inl (ca 0, 400, .inl (zG G)))] := hD
  obtain ⟨hwr6, hv6⟩ := hw6
  subst hwr6
  refine lv_if_ne (tgt := 14) hx hb dX4_readTask_9 (by decide) (fun h9 => ?_) (fun h9 => ?_)
  · skip
    have h9 := bI_n0.mp h9
    have h9a : rdC sg tl tp (97 + T) 0 0 = true := h9
    have hq1 := (decide_eq_true_iff).mp h9
    have e9 : tp + 1 = p16 := Eq.symm (hv6.trans (rdP_t h9))
    subst e9
    have hP : va_P D vwCl [(tx, .inr (4, [.int (nI tl), .int (nI ((tp + 1))), .ref th, .ref ts])), (ts, .inl (ca 2, 60, .inl (zF sg))), (th, .inr (7, [.int (nI T), .int (iZ E), .int (iZ C), .ref ta, .ref tb, .ref tc])), (ta, .inl (ca 0, 20, .inl (zF L))), (tb, .inl (ca 0, 20, .inl (zF N))), (tc, .inl (ca 0, 400, .inl (zG G)))] H := hP
    have hD : va_D A [(tx, .inr (4, [.int (nI tl), .int (nI ((tp + 1))), .ref th, .ref ts])), (ts, .inl (ca 2, 60, .inl (zF sg))), (th, .inr (7, [.int (nI T), .int (iZ E), .int (iZ C), .ref ta, .ref tb, .ref tc])), (ta, .inl (ca 0, 20, .inl (zF L))), (tb, .inl (ca 0, 20, .inl (zF N))), (tc, .inl (ca 0, 400, .inl (zG G)))] := hD
    refine lv_aload_n hx hb dX4_readTask_14 rfl (lv_at hl 0 rfl) ?_
    refine xk_i [(th, .inr (7, [.int (nI T), .int (iZ E), .int (iZ C), .ref ta, .ref tb, .ref tc])), (ta, .inl (ca 0, 20, .inl (zF L))), (tb, .inl (ca 0, 20, .inl (zF N))), (tc, .inl (ca 0, 400, .inl (zG G)))] (fun u => [(tx, .inr (4, [.int (nI tl), .int (nI u), .ref th, .ref ts])), (ts, .inl (ca 2, 60, .inl (zF sg))), (th, .inr (7, [.int (nI T), .int (iZ E), .int (iZ C), .ref ta, .ref tb, .ref tc])), (ta, .inl (ca 0, 20, .inl (zF L))), (tb, .inl (ca 0, 20, .inl (zF N))), (tc, .inl (ca 0, 400, .inl (zG G)))]) (xk_V (As := []) (rest := []) ⟨hx, hb, hml, hown, hts⟩ (mX4_readLength l D ca H.size tx th ts tl (tp + 1) sg (by omega) hsg (by omega)) (cwV 0 hts gX4_readTask_X4_readLength rfl rfl rfl (by decide +kernel) ⟨Nat.le_of_ble_eq_true rfl, Nat.le_of_ble_eq_true rfl⟩) hK hP hD (va_recv (q := (RX4, TX4, 4)) hK hP (ci := 4) (q0 := 0) rfl rfl) [0, 1] rfl rfl rfl hl.1 rfl (Nat.le_of_ble_eq_true rfl) dX4_readTask_15 ⟨Nat.le_of_ble_eq_true rfl, Nat.le_of_ble_eq_true rfl⟩) hP hD hS hA [0, 1] [2, 3, 4, 5] [4, 5, 0, 1, 2, 3] rfl rfl rfl rfl (fun _ => rfl) rfl (fun r15 u15 H locs hw15 hP hD hS => ?_)
    obtain ⟨p115, hu15⟩ : ∃ z, z = u15 := ⟨_, rfl⟩
    subst hu15
    have hw15 : r15 = iZ (lnV sg tl (tp + 1)) ∧ p115 = lnP sg tl (tp + 1) := hw15
    have hP : va_P D vwCl [(tx, .inr (4, [.int (nI tl), .int (nI p115), .ref th, .ref ts])), (ts, .inl (ca 2, 60, .inl (zF sg))), (th, .inr (7, [.int (nI T), .int (iZ E), .int (iZ C), .ref ta, .ref tb, .ref tc])), (ta, .inl (ca 0, 20, .inl (zF L))), (tb, .inl (ca 0, 20, .inl (zF N))), (tc, .inl (ca 0, 400, .inl (zG G)))] H := hP
    have hD : va_D A [(tx, .inr (4, [.int (nI tl), .int (nI p115), .ref th, .ref ts])), (ts, .inl (ca 2, 60, .inl (zF sg))), (th, .inr (7, [.int (nI T), .int (iZ E), .int (iZ C), .ref ta, .ref tb, .ref tc])), (ta, .inl (ca 0, 20, .inl (zF L))), (tb, .inl (ca 0, 20, .inl (zF N))), (tc, .inl (ca 0, 400, .inl (zG G)))] := hD
    obtain ⟨hwr15, hv15⟩ := hw15
    subst hwr15
    have hq2 := lnV_rng sg tl (tp + 1)
    have hq3 := lnP_le sg tl (tp + 1) (by omega)
    refine lv_istore_n (lv' := [(2, .int (iZ (lnV sg tl (tp + 1)))), (0, .ref tx), (1, .int (nI T))]) hx hb dX4_readTask_18 rfl hl (by decide) rfl (fun ls hl => ?_)
    refine lv_iload_n hx hb dX4_readTask_19 rfl (lv_at hl 0 rfl) ?_
    refine lv_iconst (v := iZ (-1)) hx hb dX4_readTask_20 (by decide) ?_
    refine lv_icmp_ne (tgt := 26) hx hb dX4_readTask_21 (by decide) (fun h21 => ?_) (fun h21 => ?_)
    · skip
      have h21 := (not_congr (cE (iZ_toInt (by omega) (by omega)) (iZ_toInt (by omega) (by omega)))).mp h21
      refine lv_iconst (v := iZ 1) hx hb dX4_readTask_26 (by decide) ?_
      refine lv_istore_n (lv' := [(3, .int (iZ 1)), (2, .int (iZ (lnV sg tl (tp + 1)))), (0, .ref tx), (1, .int (nI T))]) hx hb dX4_readTask_27 rfl hl (by decide) rfl (fun ls hl => ?_)
      refine lv_aload_n hx hb dX4_readTask_28 rfl (lv_at hl 2 rfl) ?_
      refine lv_bipush (v := nI (42)) hx hb dX4_readTask_29 (by decide) ?_
      refine xk_i [(th, .inr (7, [.int (nI T), .int (iZ E), .int (iZ C), .ref ta, .ref tb, .ref tc])), (ta, .inl (ca 0, 20, .inl (zF L))), (tb, .inl (ca 0, 20, .inl (zF N))), (tc, .inl (ca 0, 400, .inl (zG G)))] (fun u => [(tx, .inr (4, [.int (nI tl), .int (nI u), .ref th, .ref ts])), (ts, .inl (ca 2, 60, .inl (zF sg))), (th, .inr (7, [.int (nI T), .int (iZ E), .int (iZ C), .ref ta, .ref tb, .ref tc])), (ta, .inl (ca 0, 20, .inl (zF L))), (tb, .inl (ca 0, 20, .inl (zF N))), (tc, .inl (ca 0, 400, .inl (zG G)))]) (xk_V (As := [.int (nI 42)]) (rest := []) ⟨hx, hb, hml, hown, hts⟩ (mX4_take l D ca H.size tx th ts tl p115 sg 42 (by omega) hsg (by omega) (by omega)) (cwV 1 hts gX4_readTask_X4_take rfl rfl rfl (by decide +kernel) ⟨Nat.le_of_ble_eq_true rfl, Nat.le_of_ble_eq_true rfl⟩) hK hP hD (va_recv (q := (RX4, TX4, 4)) hK hP (ci := 4) (q0 := 0) rfl rfl) [0, 1] rfl rfl rfl hl.1 rfl (Nat.le_of_ble_eq_true rfl) dX4_readTask_31 ⟨Nat.le_of_ble_eq_true rfl, Nat.le_of_ble_eq_true rfl⟩) hP hD hS hA [0, 1] [2, 3, 4, 5] [4, 5, 0, 1, 2, 3] rfl rfl rfl rfl (fun _ => rfl) rfl (fun r31 u31 H locs hw31 hP hD hS => ?_)
      obtain ⟨p131, hu31⟩ : ∃ z, z = u31 := ⟨_, rfl⟩
      subst hu31
      have hw31 : r31 = bI (rdC sg tl p115 42 0 0) ∧ p131 = rdP sg tl p115 42 0 0 := hw31
      have hP : va_P D vwCl [(tx, .inr (4, [.int (nI tl), .int (nI p131), .ref th, .ref ts])), (ts, .inl (ca 2, 60, .inl (zF sg))), (th, .inr (7, [.int (nI T), .int (iZ E), .int (iZ C), .ref ta, .ref tb, .ref tc])), (ta, .inl (ca 0, 20, .inl (zF L))), (tb, .inl (ca 0, 20, .inl (zF N))), (tc, .inl (ca 0, 400, .inl (zG G)))] H := hP
      have hD : va_D A [(tx, .inr (4, [.int (nI tl), .int (nI p131), .ref th, .ref ts])), (ts, .inl (ca 2, 60, .inl (zF sg))), (th, .inr (7, [.int (nI T), .int (iZ E), .int (iZ C), .ref ta, .ref tb, .ref tc])), (ta, .inl (ca 0, 20, .inl (zF L))), (tb, .inl (ca 0, 20, .inl (zF N))), (tc, .inl (ca 0, 400, .inl (zG G)))] := hD
      obtain ⟨hwr31, hv31⟩ := hw31
      subst hwr31
      refine lv_if_eq (tgt := 53) hx hb dX4_readTask_34 (by decide) (fun h34 => ?_) (fun h34 => ?_)
      · skip
        have h34 := bI_0.mp h34
        have e9 : p115 = p131 := Eq.symm (hv31.trans (rdP_f h34))
        subst e9
        have hP : va_P D vwCl [(tx, .inr (4, [.int (nI tl), .int (nI p115), .ref th, .ref ts])), (ts, .inl (ca 2, 60, .inl (zF sg))), (th, .inr (7, [.int (nI T), .int (iZ E), .int (iZ C), .ref ta, .ref tb, .ref tc])), (ta, .inl (ca 0, 20, .inl (zF L))), (tb, .inl (ca 0, 20, .inl (zF N))), (tc, .inl (ca 0, 400, .inl (zG G)))] H := hP
        have hD : va_D A [(tx, .inr (4, [.int (nI tl), .int (nI p115), .ref th, .ref ts])), (ts, .inl (ca 2, 60, .inl (zF sg))), (th, .inr (7, [.int (nI T), .int (iZ E), .int (iZ C), .ref ta, .ref tb, .ref tc])), (ta, .inl (ca 0, 20, .inl (zF L))), (tb, .inl (ca 0, 20, .inl (zF N))), (tc, .inl (ca 0, 400, .inl (zG G)))] := hD
        refine lv_aload_n hx hb dX4_readTask_53 rfl (lv_at hl 2 rfl) ?_
        refine va_get (D := D) (ci := 4) (v := .ref th) (C := RX4) (T := TX4) (N := 4) hx hb hts inX4 hown hK hP 0 rfl rfl 2 (by decide) f21 (fun _ h9 => h9) rfl dX4_readTask_54 ?_
        refine lv_iload_n hx hb dX4_readTask_57 rfl (lv_at hl 1 rfl) ?_
        refine lv_iload_n hx hb dX4_readTask_58 rfl (lv_at hl 0 rfl) ?_
        refine xk_v [(tx, .inr (4, [.int (nI tl), .int (nI p115), .ref th, .ref ts])), (ts, .inl (ca 2, 60, .inl (zF sg))), (tc, .inl (ca 0, 400, .inl (zG G)))] (fun u => [(tx, .inr (4, [.int (nI tl), .int (nI p115), .ref th, .ref ts])), (ts, .inl (ca 2, 60, .inl (zF sg))), (th, .inr (7, [.int (nI (T + 1)), .int (iZ E), .int (iZ C), .ref ta, .ref tb, .ref tc])), (ta, .inl (ca 0, 20, .inl (zF (upZ L T (lnV sg tl (tp + 1)))))), (tb, .inl (ca 0, 20, .inl (zF (upZ N T 1)))), (tc, .inl (ca 0, 400, .inl (zG G)))]) (xk_V (As := [.int (iZ (lnV sg tl (tp + 1))), .int (iZ 1)]) (rest := []) ⟨hx, hb, hml, hown, hts⟩ (mX7_add l D ca H.size th ta tb tc T E C L N (lnV sg tl (tp + 1)) 1 (by omega)) (cwV 2 hts gX4_readTask_X7_add rfl rfl rfl (by decide +kernel) ⟨Nat.le_of_ble_eq_true rfl, Nat.le_of_ble_eq_true rfl⟩) hK hP hD (va_recv (q := (RX7, TX7, 6)) hK hP (ci := 7) (q0 := 2) rfl rfl) [2, 3, 4] rfl rfl rfl hl.1 rfl (Nat.le_of_ble_eq_true rfl) dX4_readTask_59 ⟨Nat.le_of_ble_eq_true rfl, Nat.le_of_ble_eq_true rfl⟩) hP hD hS hA [2, 3, 4] [0, 1, 5] [0, 1, 3, 4, 5, 2] rfl rfl rfl rfl (fun _ => rfl) rfl (fun u59 H locs hw59 hP hD hS => ?_)
        have hw59 : True := hw59
        have hP : va_P D vwCl [(tx, .inr (4, [.int (nI tl), .int (nI p115), .ref th, .ref ts])), (ts, .inl (ca 2, 60, .inl (zF sg))), (th, .inr (7, [.int (nI (T + 1)), .int (iZ E), .int (iZ C), .ref ta, .ref tb, .ref tc])), (ta, .inl (ca 0, 20, .inl (zF (upZ L T (lnV sg tl (tp + 1)))))), (tb, .inl (ca 0, 20, .inl (zF (upZ N T 1)))), (tc, .inl (ca 0, 400, .inl (zG G)))] H := hP
        have hD : va_D A [(tx, .inr (4, [.int (nI tl), .int (nI p115), .ref th, .ref ts])), (ts, .inl (ca 2, 60, .inl (zF sg))), (th, .inr (7, [.int (nI (T + 1)), .int (iZ E), .int (iZ C), .ref ta, .ref tb, .ref tc])), (ta, .inl (ca 0, 20, .inl (zF (upZ L T (lnV sg tl (tp + 1)))))), (tb, .inl (ca 0, 20, .inl (zF (upZ N T 1)))), (tc, .inl (ca 0, 400, .inl (zG G)))] := hD
        refine lv_iload_n hx hb dX4_readTask_62 rfl (lv_at hl 3 rfl) ?_
        refine lv_if_eq (tgt := 83) hx hb dX4_readTask_63 (by decide) (fun h63 => ?_) (fun h63 => ?_)
        · skip
          have h63 := (cE (nI_toInt (by omega)) z0_toInt).mp h63
          refine lv_iconst (v := nI (1)) hx hb dX4_readTask_83 (by decide) ?_
          refine lv_goto (tgt := 88) hx hb dX4_readTask_84 (by decide) ?_
          have h9 := tk_d (G := G) h9a h21 rfl hv15 (by omega) (nd_f h34).1 (nd_f h34).2 (Or.inl (by omega))
          rw [← hE]
          exact xe_z (p115, T + 1, E, upZ L T (lnV sg tl (tp + 1)), upZ N T 1, G) hx hb hr hlocks hK hP hD hS rfl (⟨by rw [h9]; rfl, by rw [h9], fun _ => ⟨rfl, by rw [h9], by rw [h9], by rw [h9], by exact hEl⟩⟩) dX4_readTask_88
        · skip
          have h63 := (not_congr (cE (nI_toInt (by omega)) z0_toInt)).mp h63
          refine lv_aload_n hx hb dX4_readTask_66 rfl (lv_at hl 2 rfl) ?_
          refine lv_bipush (v := nI (60)) hx hb dX4_readTask_67 (by decide) ?_
          refine xk_i [(th, .inr (7, [.int (nI (T + 1)), .int (iZ E), .int (iZ C), .ref ta, .ref tb, .ref tc])), (ta, .inl (ca 0, 20, .inl (zF (upZ L T (lnV sg tl (tp + 1)))))), (tb, .inl (ca 0, 20, .inl (zF (upZ N T 1)))), (tc, .inl (ca 0, 400, .inl (zG G)))] (fun u => [(tx, .inr (4, [.int (nI tl), .int (nI u), .ref th, .ref ts])), (ts, .inl (ca 2, 60, .inl (zF sg))), (th, .inr (7, [.int (nI (T + 1)), .int (iZ E), .int (iZ C), .ref ta, .ref tb, .ref tc])), (ta, .inl (ca 0, 20, .inl (zF (upZ L T (lnV sg tl (tp + 1)))))), (tb, .inl (ca 0, 20, .inl (zF (upZ N T 1)))), (tc, .inl (ca 0, 400, .inl (zG G)))]) (xk_V (As := [.int (nI 60)]) (rest := []) ⟨hx, hb, hml, hown, hts⟩ (mX4_take l D ca H.size tx th ts tl p115 sg 60 (by omega) hsg (by omega) (by omega)) (cwV 1 hts gX4_readTask_X4_take rfl rfl rfl (by decide +kernel) ⟨Nat.le_of_ble_eq_true rfl, Nat.le_of_ble_eq_true rfl⟩) hK hP hD (va_recv (q := (RX4, TX4, 4)) hK hP (ci := 4) (q0 := 0) rfl rfl) [0, 1] rfl rfl rfl hl.1 rfl (Nat.le_of_ble_eq_true rfl) dX4_readTask_69 ⟨Nat.le_of_ble_eq_true rfl, Nat.le_of_ble_eq_true rfl⟩) hP hD hS hA [0, 1] [2, 3, 4, 5] [4, 5, 0, 1, 2, 3] rfl rfl rfl rfl (fun _ => rfl) rfl (fun r69 u69 H locs hw69 hP hD hS => ?_)
          obtain ⟨p169, hu69⟩ : ∃ z, z = u69 := ⟨_, rfl⟩
          subst hu69
          have hw69 : r69 = bI (rdC sg tl p115 60 0 0) ∧ p169 = rdP sg tl p115 60 0 0 := hw69
          have hP : va_P D vwCl [(tx, .inr (4, [.int (nI tl), .int (nI p169), .ref th, .ref ts])), (ts, .inl (ca 2, 60, .inl (zF sg))), (th, .inr (7, [.int (nI (T + 1)), .int (iZ E), .int (iZ C), .ref ta, .ref tb, .ref tc])), (ta, .inl (ca 0, 20, .inl (zF (upZ L T (lnV sg tl (tp + 1)))))), (tb, .inl (ca 0, 20, .inl (zF (upZ N T 1)))), (tc, .inl (ca 0, 400, .inl (zG G)))] H := hP
          have hD : va_D A [(tx, .inr (4, [.int (nI tl), .int (nI p169), .ref th, .ref ts])), (ts, .inl (ca 2, 60, .inl (zF sg))), (th, .inr (7, [.int (nI (T + 1)), .int (iZ E), .int (iZ C), .ref ta, .ref tb, .ref tc])), (ta, .inl (ca 0, 20, .inl (zF (upZ L T (lnV sg tl (tp + 1)))))), (tb, .inl (ca 0, 20, .inl (zF (upZ N T 1)))), (tc, .inl (ca 0, 400, .inl (zG G)))] := hD
          obtain ⟨hwr69, hv69⟩ := hw69
          subst hwr69
          refine lv_if_eq (tgt := 83) hx hb dX4_readTask_72 (by decide) (fun h72 => ?_) (fun h72 => ?_)
          · skip
            have h72 := bI_0.mp h72
            have e9 : p115 = p169 := Eq.symm (hv69.trans (rdP_f h72))
            subst e9
            have hP : va_P D vwCl [(tx, .inr (4, [.int (nI tl), .int (nI p115), .ref th, .ref ts])), (ts, .inl (ca 2, 60, .inl (zF sg))), (th, .inr (7, [.int (nI (T + 1)), .int (iZ E), .int (iZ C), .ref ta, .ref tb, .ref tc])), (ta, .inl (ca 0, 20, .inl (zF (upZ L T (lnV sg tl (tp + 1)))))), (tb, .inl (ca 0, 20, .inl (zF (upZ N T 1)))), (tc, .inl (ca 0, 400, .inl (zG G)))] H := hP
            have hD : va_D A [(tx, .inr (4, [.int (nI tl), .int (nI p115), .ref th, .ref ts])), (ts, .inl (ca 2, 60, .inl (zF sg))), (th, .inr (7, [.int (nI (T + 1)), .int (iZ E), .int (iZ C), .ref ta, .ref tb, .ref tc])), (ta, .inl (ca 0, 20, .inl (zF (upZ L T (lnV sg tl (tp + 1)))))), (tb, .inl (ca 0, 20, .inl (zF (upZ N T 1)))), (tc, .inl (ca 0, 400, .inl (zG G)))] := hD
            refine lv_iconst (v := nI (1)) hx hb dX4_readTask_83 (by decide) ?_
            refine lv_goto (tgt := 88) hx hb dX4_readTask_84 (by decide) ?_
            have h9 := tk_d (G := G) h9a h21 rfl hv15 (by omega) (nd_f h34).1 (nd_f h34).2 (Or.inr h72)
            rw [← hE]
            exact xe_z (p115, T + 1, E, upZ L T (lnV sg tl (tp + 1)), upZ N T 1, G) hx hb hr hlocks hK hP hD hS rfl (⟨by rw [h9]; rfl, by rw [h9], fun _ => ⟨rfl, by rw [h9], by rw [h9], by rw [h9], by exact hEl⟩⟩) dX4_readTask_88
          · skip
            have h72 := bI_n0.mp h72
            have hq7 := (decide_eq_true_iff).mp h72
            have e9 : p115 + 1 = p169 := Eq.symm (hv69.trans (rdP_t h72))
            subst e9
            have hP : va_P D vwCl [(tx, .inr (4, [.int (nI tl), .int (nI ((p115 + 1))), .ref th, .ref ts])), (ts, .inl (ca 2, 60, .inl (zF sg))), (th, .inr (7, [.int (nI (T + 1)), .int (iZ E), .int (iZ C), .ref ta, .ref tb, .ref tc])), (ta, .inl (ca 0, 20, .inl (zF (upZ L T (lnV sg tl (tp + 1)))))), (tb, .inl (ca 0, 20, .inl (zF (upZ N T 1)))), (tc, .inl (ca 0, 400, .inl (zG G)))] H := hP
            have hD : va_D A [(tx, .inr (4, [.int (nI tl), .int (nI ((p115 + 1))), .ref th, .ref ts])), (ts, .inl (ca 2, 60, .inl (zF sg))), (th, .inr (7, [.int (nI (T + 1)), .int (iZ E), .int (iZ C), .ref ta, .ref tb, .ref tc])), (ta, .inl (ca 0, 20, .inl (zF (upZ L T (lnV sg tl (tp + 1)))))), (tb, .inl (ca 0, 20, .inl (zF (upZ N T 1)))), (tc, .inl (ca 0, 400, .inl (zG G)))] := hD
            refine lv_aload_n hx hb dX4_readTask_75 rfl (lv_at hl 2 rfl) ?_
            refine lv_iload_n hx hb dX4_readTask_76 rfl (lv_at hl 3 rfl) ?_
            refine xk_i [(ta, .inl (ca 0, 20, .inl (zF (upZ L T (lnV sg tl (tp + 1)))))), (tb, .inl (ca 0, 20, .inl (zF (upZ N T 1))))] (fun u => [(tx, .inr (4, [.int (nI tl), .int (nI u.1), .ref th, .ref ts])), (ts, .inl (ca 2, 60, .inl (zF sg))), (th, .inr (7, [.int (nI ((T + 1))), .int (iZ u.2.1), .int (iZ C), .ref ta, .ref tb, .ref tc])), (ta, .inl (ca 0, 20, .inl (zF (upZ L T (lnV sg tl (tp + 1)))))), (tb, .inl (ca 0, 20, .inl (zF (upZ N T 1)))), (tc, .inl (ca 0, 400, .inl (zG u.2.2)))]) (xk_V (As := [.int (nI T)]) (rest := []) ⟨hx, hb, hml, hown, hts⟩ (mX4_readPredecessors l D ca H.size tx th ts tl (p115 + 1) sg ta tb tc (T + 1) E C G T (by omega) hsg (by omega) (by omega) (by omega) hG hEl) (cwV 1 hts gX4_readTask_X4_readPredecessors rfl rfl rfl (by decide +kernel) ⟨Nat.le_of_ble_eq_true rfl, Nat.le_of_ble_eq_true rfl⟩) hK hP hD (va_recv (q := (RX4, TX4, 4)) hK hP (ci := 4) (q0 := 0) rfl rfl) [0, 1, 2, 5] rfl rfl rfl hl.1 rfl (Nat.le_of_ble_eq_true rfl) dX4_readTask_77 ⟨Nat.le_of_ble_eq_true rfl, Nat.le_of_ble_eq_true rfl⟩) hP hD hS hA [0, 1, 2, 5] [3, 4] [2, 3, 4, 0, 1, 5] rfl rfl rfl rfl (fun _ => rfl) rfl (fun r77 u77 H locs hw77 hP hD hS => ?_)
            obtain ⟨p177, E177, G177⟩ := u77
            have hw77 : r77 = bI (pdN sg tl T T 0 (p115 + 1) G).1 ∧ p177 = (pdN sg tl T T 0 (p115 + 1) G).2.1 ∧ G177 = (pdN sg tl T T 0 (p115 + 1) G).2.2 ∧ E177 = lnk G177 := hw77
            have hP : va_P D vwCl [(tx, .inr (4, [.int (nI tl), .int (nI p177), .ref th, .ref ts])), (ts, .inl (ca 2, 60, .inl (zF sg))), (th, .inr (7, [.int (nI ((T + 1))), .int (iZ E177), .int (iZ C), .ref ta, .ref tb, .ref tc])), (ta, .inl (ca 0, 20, .inl (zF (upZ L T (lnV sg tl (tp + 1)))))), (tb, .inl (ca 0, 20, .inl (zF (upZ N T 1)))), (tc, .inl (ca 0, 400, .inl (zG G177)))] H := hP
            have hD : va_D A [(tx, .inr (4, [.int (nI tl), .int (nI p177), .ref th, .ref ts])), (ts, .inl (ca 2, 60, .inl (zF sg))), (th, .inr (7, [.int (nI ((T + 1))), .int (iZ E177), .int (iZ C), .ref ta, .ref tb, .ref tc])), (ta, .inl (ca 0, 20, .inl (zF (upZ L T (lnV sg tl (tp + 1)))))), (tb, .inl (ca 0, 20, .inl (zF (upZ N T 1)))), (tc, .inl (ca 0, 400, .inl (zG G177)))] := hD
            obtain ⟨hwr77, hv77⟩ := hw77
            subst hwr77
            refine lv_if_eq (tgt := 87) hx hb dX4_readTask_80 (by decide) (fun h80 => ?_) (fun h80 => ?_)
            · skip
              have h80 := bI_0.mp h80
              refine lv_iconst (v := nI (0)) hx hb dX4_readTask_87 (by decide) ?_
              have h9 := tk_e (G := G) h9a h21 rfl hv15 (by omega) (nd_f h34).1 (nd_f h34).2 (by omega) h72
              rw [← hE]
              exact xe_z (p177, (T + 1), E177, upZ L T (lnV sg tl (tp + 1)), upZ N T 1, G177) hx hb hr hlocks hK hP hD hS rfl (⟨by rw [h9]; show _ = bI (pdN sg tl T T 0 (p115 + 1) G).1; rw [h80]; rfl, by rw [h9]; exact hv77.1, fun _ => ⟨rfl, by rw [h9], by rw [h9], by rw [h9]; exact hv77.2.1, hv77.2.2⟩⟩) dX4_readTask_88
            · skip
              have h80 := bI_n0.mp h80
              refine lv_iconst (v := nI (1)) hx hb dX4_readTask_83 (by decide) ?_
              refine lv_goto (tgt := 88) hx hb dX4_readTask_84 (by decide) ?_
              have h9 := tk_e (G := G) h9a h21 rfl hv15 (by omega) (nd_f h34).1 (nd_f h34).2 (by omega) h72
              rw [← hE]
              exact xe_z (p177, (T + 1), E177, upZ L T (lnV sg tl (tp + 1)), upZ N T 1, G177) hx hb hr hlocks hK hP hD hS rfl (⟨by rw [h9]; show _ = bI (pdN sg tl T T 0 (p115 + 1) G).1; rw [h80]; rfl, by rw [h9]; exact hv77.1, fun _ => ⟨rfl, by rw [h9], by rw [h9], by rw [h9]; exact hv77.2.1, hv77.2.2⟩⟩) dX4_readTask_88
      · skip
        have h34 := bI_n0.mp h34
        have hq4 := (decide_eq_true_iff).mp h34
        have e9 : p115 + 1 = p131 := Eq.symm (hv31.trans (rdP_t h34))
        subst e9
        have hP : va_P D vwCl [(tx, .inr (4, [.int (nI tl), .int (nI ((p115 + 1))), .ref th, .ref ts])), (ts, .inl (ca 2, 60, .inl (zF sg))), (th, .inr (7, [.int (nI T), .int (iZ E), .int (iZ C), .ref ta, .ref tb, .ref tc])), (ta, .inl (ca 0, 20, .inl (zF L))), (tb, .inl (ca 0, 20, .inl (zF N))), (tc, .inl (ca 0, 400, .inl (zG G)))] H := hP
        have hD : va_D A [(tx, .inr (4, [.int (nI tl), .int (nI ((p115 + 1))), .ref th, .ref ts])), (ts, .inl (ca 2, 60, .inl (zF sg))), (th, .inr (7, [.int (nI T), .int (iZ E), .int (iZ C), .ref ta, .ref tb, .ref tc])), (ta, .inl (ca 0, 20, .inl (zF L))), (tb, .inl (ca 0, 20, .inl (zF N))), (tc, .inl (ca 0, 400, .inl (zG G)))] := hD
        refine lv_aload_n hx hb dX4_readTask_37 rfl (lv_at hl 2 rfl) ?_
        refine lv_bipush (v := nI (48)) hx hb dX4_readTask_38 (by decide) ?_
        refine lv_iconst (v := nI (0)) hx hb dX4_readTask_40 (by decide) ?_
        refine lv_iconst (v := nI (5)) hx hb dX4_readTask_41 (by decide) ?_
        refine xk_i [(th, .inr (7, [.int (nI T), .int (iZ E), .int (iZ C), .ref ta, .ref tb, .ref tc])), (ta, .inl (ca 0, 20, .inl (zF L))), (tb, .inl (ca 0, 20, .inl (zF N))), (tc, .inl (ca 0, 400, .inl (zG G)))] (fun u => [(tx, .inr (4, [.int (nI tl), .int (nI u), .ref th, .ref ts])), (ts, .inl (ca 2, 60, .inl (zF sg))), (th, .inr (7, [.int (nI T), .int (iZ E), .int (iZ C), .ref ta, .ref tb, .ref tc])), (ta, .inl (ca 0, 20, .inl (zF L))), (tb, .inl (ca 0, 20, .inl (zF N))), (tc, .inl (ca 0, 400, .inl (zG G)))]) (xk_V (As := [.int (nI 48), .int (nI 0), .int (nI 5)]) (rest := []) ⟨hx, hb, hml, hown, hts⟩ (mX4_readFrom l D ca H.size tx th ts tl (p115 + 1) sg 48 0 5 (by omega) hsg (by omega) (by omega)) (cwV 3 hts gX4_readTask_X4_readFrom rfl rfl rfl (by decide +kernel) ⟨Nat.le_of_ble_eq_true rfl, Nat.le_of_ble_eq_true rfl⟩) hK hP hD (va_recv (q := (RX4, TX4, 4)) hK hP (ci := 4) (q0 := 0) rfl rfl) [0, 1] rfl rfl rfl hl.1 rfl (Nat.le_of_ble_eq_true rfl) dX4_readTask_42 ⟨Nat.le_of_ble_eq_true rfl, Nat.le_of_ble_eq_true rfl⟩) hP hD hS hA [0, 1] [2, 3, 4, 5] [4, 5, 0, 1, 2, 3] rfl rfl rfl rfl (fun _ => rfl) rfl (fun r42 u42 H locs hw42 hP hD hS => ?_)
        obtain ⟨p142, hu42⟩ : ∃ z, z = u42 := ⟨_, rfl⟩
        subst hu42
        have hw42 : r42 = iZ (rdV sg tl (p115 + 1) 48 0 5) ∧ p142 = rdP sg tl (p115 + 1) 48 0 5 := hw42
        have hP : va_P D vwCl [(tx, .inr (4, [.int (nI tl), .int (nI p142), .ref th, .ref ts])), (ts, .inl (ca 2, 60, .inl (zF sg))), (th, .inr (7, [.int (nI T), .int (iZ E), .int (iZ C), .ref ta, .ref tb, .ref tc])), (ta, .inl (ca 0, 20, .inl (zF L))), (tb, .inl (ca 0, 20, .inl (zF N))), (tc, .inl (ca 0, 400, .inl (zG G)))] H := hP
        have hD : va_D A [(tx, .inr (4, [.int (nI tl), .int (nI p142), .ref th, .ref ts])), (ts, .inl (ca 2, 60, .inl (zF sg))), (th, .inr (7, [.int (nI T), .int (iZ E), .int (iZ C), .ref ta, .ref tb, .ref tc])), (ta, .inl (ca 0, 20, .inl (zF L))), (tb, .inl (ca 0, 20, .inl (zF N))), (tc, .inl (ca 0, 400, .inl (zG G)))] := hD
        obtain ⟨hwr42, hv42⟩ := hw42
        subst hwr42
        have hq5 := rdV_rng sg tl (p115 + 1) 48 0 5
        have hq6 := rdP_le sg tl (p115 + 1) 48 0 5
        refine lv_istore_n (lv' := [(3, .int (iZ (rdV sg tl (p115 + 1) 48 0 5))), (2, .int (iZ (lnV sg tl (tp + 1)))), (0, .ref tx), (1, .int (nI T))]) hx hb dX4_readTask_45 rfl hl (by decide) rfl (fun ls hl => ?_)
        refine lv_iload_n hx hb dX4_readTask_46 rfl (lv_at hl 0 rfl) ?_
        refine lv_iconst (v := iZ (-1)) hx hb dX4_readTask_47 (by decide) ?_
        refine lv_icmp_ne (tgt := 53) hx hb dX4_readTask_48 (by decide) (fun h48 => ?_) (fun h48 => ?_)
        · skip
          have h48 := (not_congr (cE (iZ_toInt (by omega) (by omega)) (iZ_toInt (by omega) (by omega)))).mp h48
          refine lv_aload_n hx hb dX4_readTask_53 rfl (lv_at hl 2 rfl) ?_
          refine va_get (D := D) (ci := 4) (v := .ref th) (C := RX4) (T := TX4) (N := 4) hx hb hts inX4 hown hK hP 0 rfl rfl 2 (by decide) f21 (fun _ h9 => h9) rfl dX4_readTask_54 ?_
          refine lv_iload_n hx hb dX4_readTask_57 rfl (lv_at hl 1 rfl) ?_
          refine lv_iload_n hx hb dX4_readTask_58 rfl (lv_at hl 0 rfl) ?_
          refine xk_v [(tx, .inr (4, [.int (nI tl), .int (nI p142), .ref th, .ref ts])), (ts, .inl (ca 2, 60, .inl (zF sg))), (tc, .inl (ca 0, 400, .inl (zG G)))] (fun u => [(tx, .inr (4, [.int (nI tl), .int (nI p142), .ref th, .ref ts])), (ts, .inl (ca 2, 60, .inl (zF sg))), (th, .inr (7, [.int (nI (T + 1)), .int (iZ E), .int (iZ C), .ref ta, .ref tb, .ref tc])), (ta, .inl (ca 0, 20, .inl (zF (upZ L T (lnV sg tl (tp + 1)))))), (tb, .inl (ca 0, 20, .inl (zF (upZ N T (rdV sg tl (p115 + 1) 48 0 5))))), (tc, .inl (ca 0, 400, .inl (zG G)))]) (xk_V (As := [.int (iZ (lnV sg tl (tp + 1))), .int (iZ (rdV sg tl (p115 + 1) 48 0 5))]) (rest := []) ⟨hx, hb, hml, hown, hts⟩ (mX7_add l D ca H.size th ta tb tc T E C L N (lnV sg tl (tp + 1)) (rdV sg tl (p115 + 1) 48 0 5) (by omega)) (cwV 2 hts gX4_readTask_X7_add rfl rfl rfl (by decide +kernel) ⟨Nat.le_of_ble_eq_true rfl, Nat.le_of_ble_eq_true rfl⟩) hK hP hD (va_recv (q := (RX7, TX7, 6)) hK hP (ci := 7) (q0 := 2) rfl rfl) [2, 3, 4] rfl rfl rfl hl.1 rfl (Nat.le_of_ble_eq_true rfl) dX4_readTask_59 ⟨Nat.le_of_ble_eq_true rfl, Nat.le_of_ble_eq_true rfl⟩) hP hD hS hA [2, 3, 4] [0, 1, 5] [0, 1, 3, 4, 5, 2] rfl rfl rfl rfl (fun _ => rfl) rfl (fun u59 H locs hw59 hP hD hS => ?_)
          have hw59 : True := hw59
          have hP : va_P D vwCl [(tx, .inr (4, [.int (nI tl), .int (nI p142), .ref th, .ref ts])), (ts, .inl (ca 2, 60, .inl (zF sg))), (th, .inr (7, [.int (nI (T + 1)), .int (iZ E), .int (iZ C), .ref ta, .ref tb, .ref tc])), (ta, .inl (ca 0, 20, .inl (zF (upZ L T (lnV sg tl (tp + 1)))))), (tb, .inl (ca 0, 20, .inl (zF (upZ N T (rdV sg tl (p115 + 1) 48 0 5))))), (tc, .inl (ca 0, 400, .inl (zG G)))] H := hP
          have hD : va_D A [(tx, .inr (4, [.int (nI tl), .int (nI p142), .ref th, .ref ts])), (ts, .inl (ca 2, 60, .inl (zF sg))), (th, .inr (7, [.int (nI (T + 1)), .int (iZ E), .int (iZ C), .ref ta, .ref tb, .ref tc])), (ta, .inl (ca 0, 20, .inl (zF (upZ L T (lnV sg tl (tp + 1)))))), (tb, .inl (ca 0, 20, .inl (zF (upZ N T (rdV sg tl (p115 + 1) 48 0 5))))), (tc, .inl (ca 0, 400, .inl (zG G)))] := hD
          refine lv_iload_n hx hb dX4_readTask_62 rfl (lv_at hl 3 rfl) ?_
          refine lv_if_eq (tgt := 83) hx hb dX4_readTask_63 (by decide) (fun h63 => ?_) (fun h63 => ?_)
          · skip
            have h63 := (cE (nI_toInt (by omega)) z0_toInt).mp h63
            refine lv_iconst (v := nI (1)) hx hb dX4_readTask_83 (by decide) ?_
            refine lv_goto (tgt := 88) hx hb dX4_readTask_84 (by decide) ?_
            have h9 := tk_d (G := G) h9a h21 rfl hv15 h48 (nd_t h34).1 (hv42.trans (nd_t h34).2) (Or.inl (by omega))
            rw [← hE]
            exact xe_z (p142, T + 1, E, upZ L T (lnV sg tl (tp + 1)), upZ N T (rdV sg tl (p115 + 1) 48 0 5), G) hx hb hr hlocks hK hP hD hS rfl (⟨by rw [h9]; rfl, by rw [h9], fun _ => ⟨rfl, by rw [h9], by rw [h9], by rw [h9], by exact hEl⟩⟩) dX4_readTask_88
          · skip
            have h63 := (not_congr (cE (nI_toInt (by omega)) z0_toInt)).mp h63
            refine lv_aload_n hx hb dX4_readTask_66 rfl (lv_at hl 2 rfl) ?_
            refine lv_bipush (v := nI (60)) hx hb dX4_readTask_67 (by decide) ?_
            refine xk_i [(th, .inr (7, [.int (nI (T + 1)), .int (iZ E), .int (iZ C), .ref ta, .ref tb, .ref tc])), (ta, .inl (ca 0, 20, .inl (zF (upZ L T (lnV sg tl (tp + 1)))))), (tb, .inl (ca 0, 20, .inl (zF (upZ N T (rdV sg tl (p115 + 1) 48 0 5))))), (tc, .inl (ca 0, 400, .inl (zG G)))] (fun u => [(tx, .inr (4, [.int (nI tl), .int (nI u), .ref th, .ref ts])), (ts, .inl (ca 2, 60, .inl (zF sg))), (th, .inr (7, [.int (nI (T + 1)), .int (iZ E), .int (iZ C), .ref ta, .ref tb, .ref tc])), (ta, .inl (ca 0, 20, .inl (zF (upZ L T (lnV sg tl (tp + 1)))))), (tb, .inl (ca 0, 20, .inl (zF (upZ N T (rdV sg tl (p115 + 1) 48 0 5))))), (tc, .inl (ca 0, 400, .inl (zG G)))]) (xk_V (As := [.int (nI 60)]) (rest := []) ⟨hx, hb, hml, hown, hts⟩ (mX4_take l D ca H.size tx th ts tl p142 sg 60 (by omega) hsg (by omega) (by omega)) (cwV 1 hts gX4_readTask_X4_take rfl rfl rfl (by decide +kernel) ⟨Nat.le_of_ble_eq_true rfl, Nat.le_of_ble_eq_true rfl⟩) hK hP hD (va_recv (q := (RX4, TX4, 4)) hK hP (ci := 4) (q0 := 0) rfl rfl) [0, 1] rfl rfl rfl hl.1 rfl (Nat.le_of_ble_eq_true rfl) dX4_readTask_69 ⟨Nat.le_of_ble_eq_true rfl, Nat.le_of_ble_eq_true rfl⟩) hP hD hS hA [0, 1] [2, 3, 4, 5] [4, 5, 0, 1, 2, 3] rfl rfl rfl rfl (fun _ => rfl) rfl (fun r69 u69 H locs hw69 hP hD hS => ?_)
            obtain ⟨p169, hu69⟩ : ∃ z, z = u69 := ⟨_, rfl⟩
            subst hu69
            have hw69 : r69 = bI (rdC sg tl p142 60 0 0) ∧ p169 = rdP sg tl p142 60 0 0 := hw69
            have hP : va_P D vwCl [(tx, .inr (4, [.int (nI tl), .int (nI p169), .ref th, .ref ts])), (ts, .inl (ca 2, 60, .inl (zF sg))), (th, .inr (7, [.int (nI (T + 1)), .int (iZ E), .int (iZ C), .ref ta, .ref tb, .ref tc])), (ta, .inl (ca 0, 20, .inl (zF (upZ L T (lnV sg tl (tp + 1)))))), (tb, .inl (ca 0, 20, .inl (zF (upZ N T (rdV sg tl (p115 + 1) 48 0 5))))), (tc, .inl (ca 0, 400, .inl (zG G)))] H := hP
            have hD : va_D A [(tx, .inr (4, [.int (nI tl), .int (nI p169), .ref th, .ref ts])), (ts, .inl (ca 2, 60, .inl (zF sg))), (th, .inr (7, [.int (nI (T + 1)), .int (iZ E), .int (iZ C), .ref ta, .ref tb, .ref tc])), (ta, .inl (ca 0, 20, .inl (zF (upZ L T (lnV sg tl (tp + 1)))))), (tb, .inl (ca 0, 20, .inl (zF (upZ N T (rdV sg tl (p115 + 1) 48 0 5))))), (tc, .inl (ca 0, 400, .inl (zG G)))] := hD
            obtain ⟨hwr69, hv69⟩ := hw69
            subst hwr69
            refine lv_if_eq (tgt := 83) hx hb dX4_readTask_72 (by decide) (fun h72 => ?_) (fun h72 => ?_)
            · skip
              have h72 := bI_0.mp h72
              have e9 : p142 = p169 := Eq.symm (hv69.trans (rdP_f h72))
              subst e9
              have hP : va_P D vwCl [(tx, .inr (4, [.int (nI tl), .int (nI p142), .ref th, .ref ts])), (ts, .inl (ca 2, 60, .inl (zF sg))), (th, .inr (7, [.int (nI (T + 1)), .int (iZ E), .int (iZ C), .ref ta, .ref tb, .ref tc])), (ta, .inl (ca 0, 20, .inl (zF (upZ L T (lnV sg tl (tp + 1)))))), (tb, .inl (ca 0, 20, .inl (zF (upZ N T (rdV sg tl (p115 + 1) 48 0 5))))), (tc, .inl (ca 0, 400, .inl (zG G)))] H := hP
              have hD : va_D A [(tx, .inr (4, [.int (nI tl), .int (nI p142), .ref th, .ref ts])), (ts, .inl (ca 2, 60, .inl (zF sg))), (th, .inr (7, [.int (nI (T + 1)), .int (iZ E), .int (iZ C), .ref ta, .ref tb, .ref tc])), (ta, .inl (ca 0, 20, .inl (zF (upZ L T (lnV sg tl (tp + 1)))))), (tb, .inl (ca 0, 20, .inl (zF (upZ N T (rdV sg tl (p115 + 1) 48 0 5))))), (tc, .inl (ca 0, 400, .inl (zG G)))] := hD
              refine lv_iconst (v := nI (1)) hx hb dX4_readTask_83 (by decide) ?_
              refine lv_goto (tgt := 88) hx hb dX4_readTask_84 (by decide) ?_
              have h9 := tk_d (G := G) h9a h21 rfl hv15 h48 (nd_t h34).1 (hv42.trans (nd_t h34).2) (Or.inr h72)
              rw [← hE]
              exact xe_z (p142, T + 1, E, upZ L T (lnV sg tl (tp + 1)), upZ N T (rdV sg tl (p115 + 1) 48 0 5), G) hx hb hr hlocks hK hP hD hS rfl (⟨by rw [h9]; rfl, by rw [h9], fun _ => ⟨rfl, by rw [h9], by rw [h9], by rw [h9], by exact hEl⟩⟩) dX4_readTask_88
            · skip
              have h72 := bI_n0.mp h72
              have hq7 := (decide_eq_true_iff).mp h72
              have e9 : p142 + 1 = p169 := Eq.symm (hv69.trans (rdP_t h72))
              subst e9
              have hP : va_P D vwCl [(tx, .inr (4, [.int (nI tl), .int (nI ((p142 + 1))), .ref th, .ref ts])), (ts, .inl (ca 2, 60, .inl (zF sg))), (th, .inr (7, [.int (nI (T + 1)), .int (iZ E), .int (iZ C), .ref ta, .ref tb, .ref tc])), (ta, .inl (ca 0, 20, .inl (zF (upZ L T (lnV sg tl (tp + 1)))))), (tb, .inl (ca 0, 20, .inl (zF (upZ N T (rdV sg tl (p115 + 1) 48 0 5))))), (tc, .inl (ca 0, 400, .inl (zG G)))] H := hP
              have hD : va_D A [(tx, .inr (4, [.int (nI tl), .int (nI ((p142 + 1))), .ref th, .ref ts])), (ts, .inl (ca 2, 60, .inl (zF sg))), (th, .inr (7, [.int (nI (T + 1)), .int (iZ E), .int (iZ C), .ref ta, .ref tb, .ref tc])), (ta, .inl (ca 0, 20, .inl (zF (upZ L T (lnV sg tl (tp + 1)))))), (tb, .inl (ca 0, 20, .inl (zF (upZ N T (rdV sg tl (p115 + 1) 48 0 5))))), (tc, .inl (ca 0, 400, .inl (zG G)))] := hD
              refine lv_aload_n hx hb dX4_readTask_75 rfl (lv_at hl 2 rfl) ?_
              refine lv_iload_n hx hb dX4_readTask_76 rfl (lv_at hl 3 rfl) ?_
              refine xk_i [(ta, .inl (ca 0, 20, .inl (zF (upZ L T (lnV sg tl (tp + 1)))))), (tb, .inl (ca 0, 20, .inl (zF (upZ N T (rdV sg tl (p115 + 1) 48 0 5)))))] (fun u => [(tx, .inr (4, [.int (nI tl), .int (nI u.1), .ref th, .ref ts])), (ts, .inl (ca 2, 60, .inl (zF sg))), (th, .inr (7, [.int (nI ((T + 1))), .int (iZ u.2.1), .int (iZ C), .ref ta, .ref tb, .ref tc])), (ta, .inl (ca 0, 20, .inl (zF (upZ L T (lnV sg tl (tp + 1)))))), (tb, .inl (ca 0, 20, .inl (zF (upZ N T (rdV sg tl (p115 + 1) 48 0 5))))), (tc, .inl (ca 0, 400, .inl (zG u.2.2)))]) (xk_V (As := [.int (nI T)]) (rest := []) ⟨hx, hb, hml, hown, hts⟩ (mX4_readPredecessors l D ca H.size tx th ts tl (p142 + 1) sg ta tb tc (T + 1) E C G T (by omega) hsg (by omega) (by omega) (by omega) hG hEl) (cwV 1 hts gX4_readTask_X4_readPredecessors rfl rfl rfl (by decide +kernel) ⟨Nat.le_of_ble_eq_true rfl, Nat.le_of_ble_eq_true rfl⟩) hK hP hD (va_recv (q := (RX4, TX4, 4)) hK hP (ci := 4) (q0 := 0) rfl rfl) [0, 1, 2, 5] rfl rfl rfl hl.1 rfl (Nat.le_of_ble_eq_true rfl) dX4_readTask_77 ⟨Nat.le_of_ble_eq_true rfl, Nat.le_of_ble_eq_true rfl⟩) hP hD hS hA [0, 1, 2, 5] [3, 4] [2, 3, 4, 0, 1, 5] rfl rfl rfl rfl (fun _ => rfl) rfl (fun r77 u77 H locs hw77 hP hD hS => ?_)
              obtain ⟨p177, E177, G177⟩ := u77
              have hw77 : r77 = bI (pdN sg tl T T 0 (p142 + 1) G).1 ∧ p177 = (pdN sg tl T T 0 (p142 + 1) G).2.1 ∧ G177 = (pdN sg tl T T 0 (p142 + 1) G).2.2 ∧ E177 = lnk G177 := hw77
              have hP : va_P D vwCl [(tx, .inr (4, [.int (nI tl), .int (nI p177), .ref th, .ref ts])), (ts, .inl (ca 2, 60, .inl (zF sg))), (th, .inr (7, [.int (nI ((T + 1))), .int (iZ E177), .int (iZ C), .ref ta, .ref tb, .ref tc])), (ta, .inl (ca 0, 20, .inl (zF (upZ L T (lnV sg tl (tp + 1)))))), (tb, .inl (ca 0, 20, .inl (zF (upZ N T (rdV sg tl (p115 + 1) 48 0 5))))), (tc, .inl (ca 0, 400, .inl (zG G177)))] H := hP
              have hD : va_D A [(tx, .inr (4, [.int (nI tl), .int (nI p177), .ref th, .ref ts])), (ts, .inl (ca 2, 60, .inl (zF sg))), (th, .inr (7, [.int (nI ((T + 1))), .int (iZ E177), .int (iZ C), .ref ta, .ref tb, .ref tc])), (ta, .inl (ca 0, 20, .inl (zF (upZ L T (lnV sg tl (tp + 1)))))), (tb, .inl (ca 0, 20, .inl (zF (upZ N T (rdV sg tl (p115 + 1) 48 0 5))))), (tc, .inl (ca 0, 400, .inl (zG G177)))] := hD
              obtain ⟨hwr77, hv77⟩ := hw77
              subst hwr77
              refine lv_if_eq (tgt := 87) hx hb dX4_readTask_80 (by decide) (fun h80 => ?_) (fun h80 => ?_)
              · skip
                have h80 := bI_0.mp h80
                refine lv_iconst (v := nI (0)) hx hb dX4_readTask_87 (by decide) ?_
                have h9 := tk_e (G := G) h9a h21 rfl hv15 h48 (nd_t h34).1 (hv42.trans (nd_t h34).2) (by omega) h72
                rw [← hE]
                exact xe_z (p177, (T + 1), E177, upZ L T (lnV sg tl (tp + 1)), upZ N T (rdV sg tl (p115 + 1) 48 0 5), G177) hx hb hr hlocks hK hP hD hS rfl (⟨by rw [h9]; show _ = bI (pdN sg tl T T 0 (p142 + 1) G).1; rw [h80]; rfl, by rw [h9]; exact hv77.1, fun _ => ⟨rfl, by rw [h9], by rw [h9], by rw [h9]; exact hv77.2.1, hv77.2.2⟩⟩) dX4_readTask_88
              · skip
                have h80 := bI_n0.mp h80
                refine lv_iconst (v := nI (1)) hx hb dX4_readTask_83 (by decide) ?_
                refine lv_goto (tgt := 88) hx hb dX4_readTask_84 (by decide) ?_
                have h9 := tk_e (G := G) h9a h21 rfl hv15 h48 (nd_t h34).1 (hv42.trans (nd_t h34).2) (by omega) h72
                rw [← hE]
                exact xe_z (p177, (T + 1), E177, upZ L T (lnV sg tl (tp + 1)), upZ N T (rdV sg tl (p115 + 1) 48 0 5), G177) hx hb hr hlocks hK hP hD hS rfl (⟨by rw [h9]; show _ = bI (pdN sg tl T T 0 (p142 + 1) G).1; rw [h80]; rfl, by rw [h9]; exact hv77.1, fun _ => ⟨rfl, by rw [h9], by rw [h9], by rw [h9]; exact hv77.2.1, hv77.2.2⟩⟩) dX4_readTask_88
        · skip
          have h48 := (cE (iZ_toInt (by omega) (by omega)) (iZ_toInt (by omega) (by omega))).mp h48
          refine lv_iconst (v := nI (0)) hx hb dX4_readTask_51 (by decide) ?_
          have h9 := tk_c (G := G) h9a h21 hv15 ((nd_t h34).1.symm.trans h48) (hv42.trans (nd_t h34).2)
          rw [← hE]
          exact xe_z (p142, T, E, L, N, G) hx hb hr hlocks hK hP hD hS rfl (⟨by rw [h9]; rfl, by rw [h9], fun k9 => by rw [h9] at k9; cases k9⟩) dX4_readTask_52
    · skip
      have h21 := (cE (iZ_toInt (by omega) (by omega)) (iZ_toInt (by omega) (by omega))).mp h21
      refine lv_iconst (v := nI (0)) hx hb dX4_readTask_24 (by decide) ?_
      have h9 := tk_b (G := G) h9a h21 hv15
      rw [← hE]
      exact xe_z (p115, T, E, L, N, G) hx hb hr hlocks hK hP hD hS rfl (⟨by rw [h9]; rfl, by rw [h9], fun k9 => by rw [h9] at k9; cases k9⟩) dX4_readTask_25
  · skip
    have h9 := bI_0.mp h9
    have h9a : rdC sg tl tp (97 + T) 0 0 = false := h9
    have e9 : tp = p16 := Eq.symm (hv6.trans (rdP_f h9))
    subst e9
    have hP : va_P D vwCl [(tx, .inr (4, [.int (nI tl), .int (nI tp), .ref th, .ref ts])), (ts, .inl (ca 2, 60, .inl (zF sg))), (th, .inr (7, [.int (nI T), .int (iZ E), .int (iZ C), .ref ta, .ref tb, .ref tc])), (ta, .inl (ca 0, 20, .inl (zF L))), (tb, .inl (ca 0, 20, .inl (zF N))), (tc, .inl (ca 0, 400, .inl (zG G)))] H := hP
    have hD : va_D A [(tx, .inr (4, [.int (nI tl), .int (nI tp), .ref th, .ref ts])), (ts, .inl (ca 2, 60, .inl (zF sg))), (th, .inr (7, [.int (nI T), .int (iZ E), .int (iZ C), .ref ta, .ref tb, .ref tc])), (ta, .inl (ca 0, 20, .inl (zF L))), (tb, .inl (ca 0, 20, .inl (zF N))), (tc, .inl (ca 0, 400, .inl (zG G)))] := hD
    refine lv_iconst (v := nI (0)) hx hb dX4_readTask_12 (by decide) ?_
    have h9 := tk_a (G := G) h9a
    rw [← hE]
    exact xe_z (tp, T, E, L, N, G) hx hb hr hlocks hK hP hD hS rfl (⟨by rw [h9]; rfl, by rw [h9], fun k9 => by rw [h9] at k9; cases k9⟩) dX4_readTask_13
def rX4_read : Room := { frames := 5, cells := 0, slots := 0, locals := 113 }
set_option maxHeartbeats 4000000 in
set_option maxRecDepth 100000 in
/-- read() -/
theorem mX4_read (l : Launch) (D : va_G) (ca : Nat → ClassId) (sz : Nat) (tx : Nat) (th : Nat) (ts : Nat) (tl : Nat) (tp : Nat) (sg : Nat → Int) (ta : Nat) (tb : Nat) (tc : Nat) (T : Nat) (E : Int) (C : Int) (L : Nat → Int) (N : Nat → Int) (G : Nat → Nat → Int) (htl : tl ≤ 60) (hsg : ∀ j, j < 60 → 0 ≤ sg j ∧ sg j ≤ 65535) : MM l yX4_read wsX4_read rX4_read D ca [.ref tx] sz [(tx, .inr (4, [.int (nI tl), .int (nI tp), .ref th, .ref ts])), (ts, .inl (ca 2, 60, .inl (zF sg))), (th, .inr (7, [.int (nI T), .int (iZ E), .int (iZ C), .ref ta, .ref tb, .ref tc])), (ta, .inl (ca 0, 20, .inl (zF L))), (tb, .inl (ca 0, 20, .inl (zF N))), (tc, .inl (ca 0, 400, .inl (zG G)))] (QI D ca (fun (r : Int32) (u : Nat × Nat × Int × (Nat → Int) × (Nat → Int) × (Nat → Nat → Int)) => r = bI (prs sg tl).1 ∧ u.1 = (prs sg tl).2.1 ∧ ((prs sg tl).1 = true → u.2.1 = (prs sg tl).2.2.1 ∧ (∀ t, t < u.2.1 → u.2.2.2.1 t = (prs sg tl).2.2.2.1 t ∧ u.2.2.2.2.1 t = (prs sg tl).2.2.2.2.1 t) ∧ u.2.2.2.2.2 = (prs sg tl).2.2.2.2.2 ∧ u.2.2.1 = lnk u.2.2.2.2.2)) (fun u => [(tx, .inr (4, [.int (nI tl), .int (nI u.1), .ref th, .ref ts])), (ts, .inl (ca 2, 60, .inl (zF sg))), (th, .inr (7, [.int (nI u.2.1), .int (iZ u.2.2.1), .int (iZ C), .ref ta, .ref tb, .ref tc])), (ta, .inl (ca 0, 20, .inl (zF u.2.2.2.1))), (tb, .inl (ca 0, 20, .inl (zF u.2.2.2.2.1))), (tc, .inl (ca 0, 400, .inl (zG u.2.2.2.2.2)))])) := by
  refine MM_of (cc := cX4_read) (maxL := 2) (ret := (some .boolean)) (lv0 := [(0, .ref tx)]) RX4 (by decide) rfl rfl (Nat.le_of_ble_eq_true rfl) rfl ?_
  intro pG eV s mI args below meth cO hx hb hr hml hts hown hlocks hnm A hA H locs hsz hP hK hD hS Q hE ls hl
  have f15 := hts (.fieldLink RX4 15 "SlackPlan$PlanText" "position" "I") (List.mem_of_getElem? (i := 1) rfl)
  have inX4 : ∀ w ∈ u_ws RX4 TX4 4, w ∈ wsX4_read := in_r _ [60, 61, 62, 63] rfl
  have f21 := hts (.fieldLink RX4 21 "SlackPlan$PlanText" "plan" "LSlackPlan$State;") (List.mem_of_getElem? (i := 2) rfl)
  have f9 := hts (.fieldLink RX4 9 "SlackPlan$PlanText" "length" "I") (List.mem_of_getElem? (i := 3) rfl)
  refine lv_aload_n hx hb dX4_read_0 rfl (lv_at hl 0 rfl) ?_
  refine lv_iconst (v := nI 0) hx hb dX4_read_1 (by decide) ?_
  refine va_put (D := D) (ci := 4) (v := .int (nI 0)) (ty := .int) (C := RX4) (T := TX4) (N := 4) hx hb hts inX4 tyX4 tyX4_ok nmX4 hown hK hP hD hS 0 rfl rfl 1 (by decide) f15 (fun _ h9 => h9) rfl (by decide +kernel) rfl rfl (Nat.le_of_ble_eq_true rfl) dX4_read_2 (fun H locs hP hD hS => ?_)
  have hP : va_P D vwCl [(tx, .inr (4, [.int (nI tl), .int (nI 0), .ref th, .ref ts])), (ts, .inl (ca 2, 60, .inl (zF sg))), (th, .inr (7, [.int (nI T), .int (iZ E), .int (iZ C), .ref ta, .ref tb, .ref tc])), (ta, .inl (ca 0, 20, .inl (zF L))), (tb, .inl (ca 0, 20, .inl (zF N))), (tc, .inl (ca 0, 400, .inl (zG G)))] H := hP
  have hD : va_D A [(tx, .inr (4, [.int (nI tl), .int (nI 0), .ref th, .ref ts])), (ts, .inl (ca 2, 60, .inl (zF sg))), (th, .inr (7, [.int (nI T), .int (iZ E), .int (iZ C), .ref ta, .ref tb, .ref tc])), (ta, .inl (ca 0, 20, .inl (zF L))), (tb, .inl (ca 0, 20, .inl (zF N))), (tc, .inl (ca 0, 400, .inl (zG G)))] := hD
  refine lv_aload_n hx hb dX4_read_5 rfl (lv_at hl 0 rfl) ?_
  refine va_get (D := D) (ci := 4) (v := .ref th) (C := RX4) (T := TX4) (N := 4) hx hb hts inX4 hown hK hP 0 rfl rfl 2 (by decide) f21 (fun _ h9 => h9) rfl dX4_read_6 ?_
  refine xk_v [(tx, .inr (4, [.int (nI tl), .int (nI 0), .ref th, .ref ts])), (ts, .inl (ca 2, 60, .inl (zF sg))), (ta, .inl (ca 0, 20, .inl (zF L))), (tb, .inl (ca 0, 20, .inl (zF N)))] (fun u => [(tx, .inr (4, [.int (nI tl), .int (nI 0), .ref th, .ref ts])), (ts, .inl (ca 2, 60, .inl (zF sg))), (th, .inr (7, [.int (nI 0), .int (iZ 0), .int (iZ C), .ref ta, .ref tb, .ref tc])), (ta, .inl (ca 0, 20, .inl (zF L))), (tb, .inl (ca 0, 20, .inl (zF N))), (tc, .inl (ca 0, 400, .inl (zG noG)))]) (xk_V (As := []) (rest := []) ⟨hx, hb, hml, hown, hts⟩ (mX7_removeAll l D ca H.size th ta tb tc T E C G ) (cwV 0 hts gX4_read_X7_removeAll rfl rfl rfl (by decide +kernel) ⟨Nat.le_of_ble_eq_true rfl, Nat.le_of_ble_eq_true rfl⟩) hK hP hD (va_recv (q := (RX7, TX7, 6)) hK hP (ci := 7) (q0 := 2) rfl rfl) [2, 5] rfl rfl rfl hl.1 rfl (Nat.le_of_ble_eq_true rfl) dX4_read_9 ⟨Nat.le_of_ble_eq_true rfl, Nat.le_of_ble_eq_true rfl⟩) hP hD hS hA [2, 5] [0, 1, 3, 4] [0, 1, 4, 2, 3, 5] rfl rfl rfl rfl (fun _ => rfl) rfl (fun u9 H locs hw9 hP hD hS => ?_)
  have hw9 : True := hw9
  have hP : va_P D vwCl [(tx, .inr (4, [.int (nI tl), .int (nI 0), .ref th, .ref ts])), (ts, .inl (ca 2, 60, .inl (zF sg))), (th, .inr (7, [.int (nI 0), .int (iZ 0), .int (iZ C), .ref ta, .ref tb, .ref tc])), (ta, .inl (ca 0, 20, .inl (zF L))), (tb, .inl (ca 0, 20, .inl (zF N))), (tc, .inl (ca 0, 400, .inl (zG noG)))] H := hP
  have hD : va_D A [(tx, .inr (4, [.int (nI tl), .int (nI 0), .ref th, .ref ts])), (ts, .inl (ca 2, 60, .inl (zF sg))), (th, .inr (7, [.int (nI 0), .int (iZ 0), .int (iZ C), .ref ta, .ref tb, .ref tc])), (ta, .inl (ca 0, 20, .inl (zF L))), (tb, .inl (ca 0, 20, .inl (zF N))), (tc, .inl (ca 0, 400, .inl (zG noG)))] := hD
  refine lv_iconst (v := nI (0)) hx hb dX4_read_12 (by decide) ?_
  refine lv_istore_n (lv' := [(1, .int (nI 0)), (0, .ref tx)]) hx hb dX4_read_13 rfl hl (by decide) rfl (fun ls hl => ?_)
  have L14 : ∀ (fu : Nat) (k : Nat) (p : Nat) (E2 : Int) (L2 : Nat → Int) (N2 : Nat → Int) (G2 : Nat → Nat → Int) (Lc : Nat → Int) (Nc : Nat → Int), (k < 20) → (p ≤ tl) → (E2 = lnk G2) → (FWD G2 k) → (∀ j, j < k → L2 j = Lc j ∧ N2 j = Nc j) → (prs sg tl = rdN sg tl (20 - k) k p Lc Nc G2) → (20 - k) < fu → ∀ (H : Heap) (locs : List Loc), va_P D vwCl [(tx, .inr (4, [.int (nI tl), .int (nI p), .ref th, .ref ts])), (ts, .inl (ca 2, 60, .inl (zF sg))), (th, .inr (7, [.int (nI k), .int (iZ E2), .int (iZ C), .ref ta, .ref tb, .ref tc])), (ta, .inl (ca 0, 20, .inl (zF L2))), (tb, .inl (ca 0, 20, .inl (zF N2))), (tc, .inl (ca 0, 400, .inl (zG G2)))] H → va_D A [(tx, .inr (4, [.int (nI tl), .int (nI p), .ref th, .ref ts])), (ts, .inl (ca 2, 60, .inl (zF sg))), (th, .inr (7, [.int (nI k), .int (iZ E2), .int (iZ C), .ref ta, .ref tb, .ref tc])), (ta, .inl (ca 0, 20, .inl (zF L2))), (tb, .inl (ca 0, 20, .inl (zF N2))), (tc, .inl (ca 0, 400, .inl (zG G2)))] → va_S A s.heap H locs → ∀ ls : Array Slot, lv_has ls 2 [(1, .int (nI k)), (0, .ref tx)] → W pG l eV rX4_read s mI args below meth cO H locs 0 0 Q (F0 mI 14 ls []) := by
    clear hP hD hS hl
    intro fu; induction fu with
    | zero => intro k p E2 L2 N2 G2 Lc Nc hk hp hE2 hF hag hrd hmu; exact absurd hmu (Nat.not_lt_zero _)
    | succ n14 ih14 =>
      intro k p E2 L2 N2 G2 Lc Nc hk hp hE2 hF hag hrd hmu14 H locs hP hD hS ls hl
      refine lv_iload_n hx hb dX4_read_14 rfl (lv_at hl 0 rfl) ?_
      refine lv_bipush (v := nI (20)) hx hb dX4_read_15 (by decide) ?_
      refine lv_icmp_ge (tgt := 68) hx hb dX4_read_17 (by decide) (fun h17 => ?_) (fun h17 => ?_)
      · skip
        have h17 := (cL (nI_toInt (by omega)) (nI_toInt (by omega))).mp h17
        exact absurd h17 (by omega)
      · skip
        have h17 := (not_congr (cL (nI_toInt (by omega)) (nI_toInt (by omega)))).mp h17
        have hfu : 20 - k = (20 - k - 1) + 1 := by omega
        refine lv_aload_n hx hb dX4_read_20 rfl (lv_at hl 1 rfl) ?_
        refine lv_iload_n hx hb dX4_read_21 rfl (lv_at hl 0 rfl) ?_
        refine xk_i [] (fun u => [(tx, .inr (4, [.int (nI tl), .int (nI u.1), .ref th, .ref ts])), (ts, .inl (ca 2, 60, .inl (zF sg))), (th, .inr (7, [.int (nI u.2.1), .int (iZ u.2.2.1), .int (iZ C), .ref ta, .ref tb, .ref tc])), (ta, .inl (ca 0, 20, .inl (zF u.2.2.2.1))), (tb, .inl (ca 0, 20, .inl (zF u.2.2.2.2.1))), (tc, .inl (ca 0, 400, .inl (zG u.2.2.2.2.2)))]) (xk_V (As := [.int (nI k)]) (rest := []) ⟨hx, hb, hml, hown, hts⟩ (mX4_readTask l D ca H.size tx th ts tl p sg ta tb tc k E2 C L2 N2 G2 (by omega) hsg (by omega) (by omega) hF.1 hE2) (cwV 1 hts gX4_read_X4_readTask rfl rfl rfl (by decide +kernel) ⟨Nat.le_of_ble_eq_true rfl, Nat.le_of_ble_eq_true rfl⟩) hK hP hD (va_recv (q := (RX4, TX4, 4)) hK hP (ci := 4) (q0 := 0) rfl rfl) [0, 1, 2, 3, 4, 5] rfl rfl rfl hl.1 rfl (Nat.le_of_ble_eq_true rfl) dX4_read_22 ⟨Nat.le_of_ble_eq_true rfl, Nat.le_of_ble_eq_true rfl⟩) hP hD hS hA [0, 1, 2, 3, 4, 5] [] [0, 1, 2, 3, 4, 5] rfl rfl rfl rfl (fun _ => rfl) rfl (fun r22 u22 H locs hw22 hP hD hS => ?_)
        obtain ⟨p122, T122, E122, L122, N122, G122⟩ := u22
        have hw22 : r22 = bI (tkN sg tl k p G2).1 ∧ p122 = (tkN sg tl k p G2).2.1 ∧ ((tkN sg tl k p G2).1 = true → T122 = k + 1 ∧ L122 = upZ L2 k (tkN sg tl k p G2).2.2.1 ∧ N122 = upZ N2 k (tkN sg tl k p G2).2.2.2.1 ∧ G122 = (tkN sg tl k p G2).2.2.2.2 ∧ E122 = lnk G122) := hw22
        have hP : va_P D vwCl [(tx, .inr (4, [.int (nI tl), .int (nI p122), .ref th, .ref ts])), (ts, .inl (ca 2, 60, .inl (zF sg))), (th, .inr (7, [.int (nI T122), .int (iZ E122), .int (iZ C), .ref ta, .ref tb, .ref tc])), (ta, .inl (ca 0, 20, .inl (zF L122))), (tb, .inl (ca 0, 20, .inl (zF N122))), (tc, .inl (ca 0, 400, .inl (zG G122)))] H := hP
        have hD : va_D A [(tx, .inr (4, [.int (nI tl), .int (nI p122), .ref th, .ref ts])), (ts, .inl (ca 2, 60, .inl (zF sg))), (th, .inr (7, [.int (nI T122), .int (iZ E122), .int (iZ C), .ref ta, .ref tb, .ref tc])), (ta, .inl (ca 0, 20, .inl (zF L122))), (tb, .inl (ca 0, 20, .inl (zF N122))), (tc, .inl (ca 0, 400, .inl (zG G122)))] := hD
        obtain ⟨hwr22, hv22⟩ := hw22
        subst hwr22
        refine lv_if_ne (tgt := 30) hx hb dX4_read_25 (by decide) (fun h25 => ?_) (fun h25 => ?_)
        · skip
          have h25 := bI_n0.mp h25
          obtain ⟨hz1, hz2, hz3, hz4, hz5⟩ := hv22.2 h25
          have e9 : k + 1 = T122 := Eq.symm (hz1)
          subst e9
          have hP : va_P D vwCl [(tx, .inr (4, [.int (nI tl), .int (nI p122), .ref th, .ref ts])), (ts, .inl (ca 2, 60, .inl (zF sg))), (th, .inr (7, [.int (nI ((k + 1))), .int (iZ E122), .int (iZ C), .ref ta, .ref tb, .ref tc])), (ta, .inl (ca 0, 20, .inl (zF L122))), (tb, .inl (ca 0, 20, .inl (zF N122))), (tc, .inl (ca 0, 400, .inl (zG G122)))] H := hP
          have hD : va_D A [(tx, .inr (4, [.int (nI tl), .int (nI p122), .ref th, .ref ts])), (ts, .inl (ca 2, 60, .inl (zF sg))), (th, .inr (7, [.int (nI ((k + 1))), .int (iZ E122), .int (iZ C), .ref ta, .ref tb, .ref tc])), (ta, .inl (ca 0, 20, .inl (zF L122))), (tb, .inl (ca 0, 20, .inl (zF N122))), (tc, .inl (ca 0, 400, .inl (zG G122)))] := hD
          have e9 : upZ L2 k (tkN sg tl k p G2).2.2.1 = L122 := Eq.symm (hz2)
          subst e9
          have hP : va_P D vwCl [(tx, .inr (4, [.int (nI tl), .int (nI p122), .ref th, .ref ts])), (ts, .inl (ca 2, 60, .inl (zF sg))), (th, .inr (7, [.int (nI ((k + 1))), .int (iZ E122), .int (iZ C), .ref ta, .ref tb, .ref tc])), (ta, .inl (ca 0, 20, .inl (zF (upZ L2 k (tkN sg tl k p G2).2.2.1)))), (tb, .inl (ca 0, 20, .inl (zF N122))), (tc, .inl (ca 0, 400, .inl (zG G122)))] H := hP
          have hD : va_D A [(tx, .inr (4, [.int (nI tl), .int (nI p122), .ref th, .ref ts])), (ts, .inl (ca 2, 60, .inl (zF sg))), (th, .inr (7, [.int (nI ((k + 1))), .int (iZ E122), .int (iZ C), .ref ta, .ref tb, .ref tc])), (ta, .inl (ca 0, 20, .inl (zF (upZ L2 k (tkN sg tl k p G2).2.2.1)))), (tb, .inl (ca 0, 20, .inl (zF N122))), (tc, .inl (ca 0, 400, .inl (zG G122)))] := hD
          have e9 : upZ N2 k (tkN sg tl k p G2).2.2.2.1 = N122 := Eq.symm (hz3)
          subst e9
          have hP : va_P D vwCl [(tx, .inr (4, [.int (nI tl), .int (nI p122), .ref th, .ref ts])), (ts, .inl (ca 2, 60, .inl (zF sg))), (th, .inr (7, [.int (nI ((k + 1))), .int (iZ E122), .int (iZ C), .ref ta, .ref tb, .ref tc])), (ta, .inl (ca 0, 20, .inl (zF (upZ L2 k (tkN sg tl k p G2).2.2.1)))), (tb, .inl (ca 0, 20, .inl (zF (upZ N2 k (tkN sg tl k p G2).2.2.2.1)))), (tc, .inl (ca 0, 400, .inl (zG G122)))] H := hP
          have hD : va_D A [(tx, .inr (4, [.int (nI tl), .int (nI p122), .ref th, .ref ts])), (ts, .inl (ca 2, 60, .inl (zF sg))), (th, .inr (7, [.int (nI ((k + 1))), .int (iZ E122), .int (iZ C), .ref ta, .ref tb, .ref tc])), (ta, .inl (ca 0, 20, .inl (zF (upZ L2 k (tkN sg tl k p G2).2.2.1)))), (tb, .inl (ca 0, 20, .inl (zF (upZ N2 k (tkN sg tl k p G2).2.2.2.1)))), (tc, .inl (ca 0, 400, .inl (zG G122)))] := hD
          have e9 : (tkN sg tl k p G2).2.2.2.2 = G122 := Eq.symm (hz4)
          subst e9
          have hP : va_P D vwCl [(tx, .inr (4, [.int (nI tl), .int (nI p122), .ref th, .ref ts])), (ts, .inl (ca 2, 60, .inl (zF sg))), (th, .inr (7, [.int (nI ((k + 1))), .int (iZ E122), .int (iZ C), .ref ta, .ref tb, .ref tc])), (ta, .inl (ca 0, 20, .inl (zF (upZ L2 k (tkN sg tl k p G2).2.2.1)))), (tb, .inl (ca 0, 20, .inl (zF (upZ N2 k (tkN sg tl k p G2).2.2.2.1)))), (tc, .inl (ca 0, 400, .inl (zG ((tkN sg tl k p G2).2.2.2.2))))] H := hP
          have hD : va_D A [(tx, .inr (4, [.int (nI tl), .int (nI p122), .ref th, .ref ts])), (ts, .inl (ca 2, 60, .inl (zF sg))), (th, .inr (7, [.int (nI ((k + 1))), .int (iZ E122), .int (iZ C), .ref ta, .ref tb, .ref tc])), (ta, .inl (ca 0, 20, .inl (zF (upZ L2 k (tkN sg tl k p G2).2.2.1)))), (tb, .inl (ca 0, 20, .inl (zF (upZ N2 k (tkN sg tl k p G2).2.2.2.1)))), (tc, .inl (ca 0, 400, .inl (zG ((tkN sg tl k p G2).2.2.2.2))))] := hD
          have hq1 := tkP_le sg tl k p G2 hp
          refine lv_iload_n hx hb dX4_read_30 rfl (lv_at hl 0 rfl) ?_
          refine lv_bipush (v := nI (19)) hx hb dX4_read_31 (by decide) ?_
          refine lv_icmp_eq (tgt := 45) hx hb dX4_read_33 (by decide) (fun h33 => ?_) (fun h33 => ?_)
          · skip
            have h33 := (cE (nI_toInt (by omega)) (nI_toInt (by omega))).mp h33
            refine lv_aload_n hx hb dX4_read_45 rfl (lv_at hl 1 rfl) ?_
            refine va_get (D := D) (ci := 4) (v := .int (nI p122)) (C := RX4) (T := TX4) (N := 4) hx hb hts inX4 hown hK hP 0 rfl rfl 1 (by decide) f15 (fun _ h9 => h9) rfl dX4_read_46 ?_
            refine lv_aload_n hx hb dX4_read_49 rfl (lv_at hl 1 rfl) ?_
            refine va_get (D := D) (ci := 4) (v := .int (nI tl)) (C := RX4) (T := TX4) (N := 4) hx hb hts inX4 hown hK hP 0 rfl rfl 0 (by decide) f9 (fun _ h9 => h9) rfl dX4_read_50 ?_
            refine lv_icmp_ne (tgt := 60) hx hb dX4_read_53 (by decide) (fun h53 => ?_) (fun h53 => ?_)
            · skip
              have h53 := (not_congr (cE (nI_toInt (by omega)) (nI_toInt (by omega)))).mp h53
              refine lv_iconst (v := nI (0)) hx hb dX4_read_60 (by decide) ?_
              have h9 := rn_b (L := Lc) (N := Nc) (f := 20 - k - 1) h25 hv22.1 (Or.inl (by omega))
              rw [← hE]
              exact xe_z (p122, (k + 1), E122, (upZ L2 k (tkN sg tl k p G2).2.2.1), (upZ N2 k (tkN sg tl k p G2).2.2.2.1), ((tkN sg tl k p G2).2.2.2.2)) hx hb hr hlocks hK hP hD hS rfl (⟨by rw [hrd, hfu, h9]; show _ = bI (decide _); rw [decide_eq_false (show ¬ p122 = tl by omega)]; rfl, by rw [hrd, hfu, h9], fun _ => ⟨by rw [hrd, hfu, h9], fun j hj => by rw [hrd, hfu, h9]; exact (ag_s hag) j hj, by rw [hrd, hfu, h9], hz5⟩⟩) dX4_read_61
            · skip
              have h53 := (cE (nI_toInt (by omega)) (nI_toInt (by omega))).mp h53
              refine lv_iconst (v := nI (1)) hx hb dX4_read_56 (by decide) ?_
              refine lv_goto (tgt := 61) hx hb dX4_read_57 (by decide) ?_
              have h9 := rn_b (L := Lc) (N := Nc) (f := 20 - k - 1) h25 hv22.1 (Or.inl (by omega))
              rw [← hE]
              exact xe_z (p122, (k + 1), E122, (upZ L2 k (tkN sg tl k p G2).2.2.1), (upZ N2 k (tkN sg tl k p G2).2.2.2.1), ((tkN sg tl k p G2).2.2.2.2)) hx hb hr hlocks hK hP hD hS rfl (⟨by rw [hrd, hfu, h9]; show _ = bI (decide _); rw [decide_eq_true (show p122 = tl by omega)]; rfl, by rw [hrd, hfu, h9], fun _ => ⟨by rw [hrd, hfu, h9], fun j hj => by rw [hrd, hfu, h9]; exact (ag_s hag) j hj, by rw [hrd, hfu, h9], hz5⟩⟩) dX4_read_61
          · skip
            have h33 := (not_congr (cE (nI_toInt (by omega)) (nI_toInt (by omega)))).mp h33
            refine lv_aload_n hx hb dX4_read_36 rfl (lv_at hl 1 rfl) ?_
            refine lv_bipush (v := nI (59)) hx hb dX4_read_37 (by decide) ?_
            refine xk_i [(th, .inr (7, [.int (nI ((k + 1))), .int (iZ E122), .int (iZ C), .ref ta, .ref tb, .ref tc])), (ta, .inl (ca 0, 20, .inl (zF (upZ L2 k (tkN sg tl k p G2).2.2.1)))), (tb, .inl (ca 0, 20, .inl (zF (upZ N2 k (tkN sg tl k p G2).2.2.2.1)))), (tc, .inl (ca 0, 400, .inl (zG ((tkN sg tl k p G2).2.2.2.2))))] (fun u => [(tx, .inr (4, [.int (nI tl), .int (nI u), .ref th, .ref ts])), (ts, .inl (ca 2, 60, .inl (zF sg))), (th, .inr (7, [.int (nI ((k + 1))), .int (iZ E122), .int (iZ C), .ref ta, .ref tb, .ref tc])), (ta, .inl (ca 0, 20, .inl (zF (upZ L2 k (tkN sg tl k p G2).2.2.1)))), (tb, .inl (ca 0, 20, .inl (zF (upZ N2 k (tkN sg tl k p G2).2.2.2.1)))), (tc, .inl (ca 0, 400, .inl (zG ((tkN sg tl k p G2).2.2.2.2))))]) (xk_V (As := [.int (nI 59)]) (rest := []) ⟨hx, hb, hml, hown, hts⟩ (mX4_take l D ca H.size tx th ts tl p122 sg 59 (by omega) hsg (by omega) (by omega)) (cwV 1 hts gX4_read_X4_take rfl rfl rfl (by decide +kernel) ⟨Nat.le_of_ble_eq_true rfl, Nat.le_of_ble_eq_true rfl⟩) hK hP hD (va_recv (q := (RX4, TX4, 4)) hK hP (ci := 4) (q0 := 0) rfl rfl) [0, 1] rfl rfl rfl hl.1 rfl (Nat.le_of_ble_eq_true rfl) dX4_read_39 ⟨Nat.le_of_ble_eq_true rfl, Nat.le_of_ble_eq_true rfl⟩) hP hD hS hA [0, 1] [2, 3, 4, 5] [4, 5, 0, 1, 2, 3] rfl rfl rfl rfl (fun _ => rfl) rfl (fun r39 u39 H locs hw39 hP hD hS => ?_)
            obtain ⟨p139, hu39⟩ : ∃ z, z = u39 := ⟨_, rfl⟩
            subst hu39
            have hw39 : r39 = bI (rdC sg tl p122 59 0 0) ∧ p139 = rdP sg tl p122 59 0 0 := hw39
            have hP : va_P D vwCl [(tx, .inr (4, [.int (nI tl), .int (nI p139), .ref th, .ref ts])), (ts, .inl (ca 2, 60, .inl (zF sg))), (th, .inr (7, [.int (nI ((k + 1))), .int (iZ E122), .int (iZ C), .ref ta, .ref tb, .ref tc])), (ta, .inl (ca 0, 20, .inl (zF (upZ L2 k (tkN sg tl k p G2).2.2.1)))), (tb, .inl (ca 0, 20, .inl (zF (upZ N2 k (tkN sg tl k p G2).2.2.2.1)))), (tc, .inl (ca 0, 400, .inl (zG ((tkN sg tl k p G2).2.2.2.2))))] H := hP
            have hD : va_D A [(tx, .inr (4, [.int (nI tl), .int (nI p139), .ref th, .ref ts])), (ts, .inl (ca 2, 60, .inl (zF sg))), (th, .inr (7, [.int (nI ((k + 1))), .int (iZ E122), .int (iZ C), .ref ta, .ref tb, .ref tc])), (ta, .inl (ca 0, 20, .inl (zF (upZ L2 k (tkN sg tl k p G2).2.2.1)))), (tb, .inl (ca 0, 20, .inl (zF (upZ N2 k (tkN sg tl k p G2).2.2.2.1)))), (tc, .inl (ca 0, 400, .inl (zG ((tkN sg tl k p G2).2.2.2.2))))] := hD
            obtain ⟨hwr39, hv39⟩ := hw39
            subst hwr39
            refine lv_if_ne (tgt := 62) hx hb dX4_read_42 (by decide) (fun h42 => ?_) (fun h42 => ?_)
            · skip
              have h42 := bI_n0.mp h42
              have hq2 := (decide_eq_true_iff).mp h42
              have e9 : p122 + 1 = p139 := Eq.symm (hv39.trans (rdP_t h42))
              subst e9
              have hP : va_P D vwCl [(tx, .inr (4, [.int (nI tl), .int (nI ((p122 + 1))), .ref th, .ref ts])), (ts, .inl (ca 2, 60, .inl (zF sg))), (th, .inr (7, [.int (nI ((k + 1))), .int (iZ E122), .int (iZ C), .ref ta, .ref tb, .ref tc])), (ta, .inl (ca 0, 20, .inl (zF (upZ L2 k (tkN sg tl k p G2).2.2.1)))), (tb, .inl (ca 0, 20, .inl (zF (upZ N2 k (tkN sg tl k p G2).2.2.2.1)))), (tc, .inl (ca 0, 400, .inl (zG ((tkN sg tl k p G2).2.2.2.2))))] H := hP
              have hD : va_D A [(tx, .inr (4, [.int (nI tl), .int (nI ((p122 + 1))), .ref th, .ref ts])), (ts, .inl (ca 2, 60, .inl (zF sg))), (th, .inr (7, [.int (nI ((k + 1))), .int (iZ E122), .int (iZ C), .ref ta, .ref tb, .ref tc])), (ta, .inl (ca 0, 20, .inl (zF (upZ L2 k (tkN sg tl k p G2).2.2.1)))), (tb, .inl (ca 0, 20, .inl (zF (upZ N2 k (tkN sg tl k p G2).2.2.2.1)))), (tc, .inl (ca 0, 400, .inl (zG ((tkN sg tl k p G2).2.2.2.2))))] := hD
              refine lv_iinc (v := nI (k + 1)) (lv' := [(1, .int (nI (k + 1))), (0, .ref tx)]) hx hb dX4_read_62 hl (k := 0) rfl (nI_add _ 1) (by decide) rfl (fun ls hl => ?_)
              refine lv_goto (tgt := 14) hx hb dX4_read_65 (by decide) ?_
              exact ih14 (k + 1) (p122 + 1) E122 (upZ L2 k (tkN sg tl k p G2).2.2.1) (upZ N2 k (tkN sg tl k p G2).2.2.2.1) ((tkN sg tl k p G2).2.2.2.2) (upZ Lc k (tkN sg tl k p G2).2.2.1) (upZ Nc k (tkN sg tl k p G2).2.2.2.1) (by omega) (by omega) hz5 (tk_fwd hF) (ag_s hag) (by rw [hrd, hfu, rn_c h25 hv22.1 (by omega) h42, show 20 - (k + 1) = 20 - k - 1 by omega]) (by omega) _ _ hP hD hS _ (lv_sub hl [0, 1] rfl)
            · skip
              have h42 := bI_0.mp h42
              have e9 : p122 = p139 := Eq.symm (hv39.trans (rdP_f h42))
              subst e9
              have hP : va_P D vwCl [(tx, .inr (4, [.int (nI tl), .int (nI p122), .ref th, .ref ts])), (ts, .inl (ca 2, 60, .inl (zF sg))), (th, .inr (7, [.int (nI ((k + 1))), .int (iZ E122), .int (iZ C), .ref ta, .ref tb, .ref tc])), (ta, .inl (ca 0, 20, .inl (zF (upZ L2 k (tkN sg tl k p G2).2.2.1)))), (tb, .inl (ca 0, 20, .inl (zF (upZ N2 k (tkN sg tl k p G2).2.2.2.1)))), (tc, .inl (ca 0, 400, .inl (zG ((tkN sg tl k p G2).2.2.2.2))))] H := hP
              have hD : va_D A [(tx, .inr (4, [.int (nI tl), .int (nI p122), .ref th, .ref ts])), (ts, .inl (ca 2, 60, .inl (zF sg))), (th, .inr (7, [.int (nI ((k + 1))), .int (iZ E122), .int (iZ C), .ref ta, .ref tb, .ref tc])), (ta, .inl (ca 0, 20, .inl (zF (upZ L2 k (tkN sg tl k p G2).2.2.1)))), (tb, .inl (ca 0, 20, .inl (zF (upZ N2 k (tkN sg tl k p G2).2.2.2.1)))), (tc, .inl (ca 0, 400, .inl (zG ((tkN sg tl k p G2).2.2.2.2))))] := hD
              refine lv_aload_n hx hb dX4_read_45 rfl (lv_at hl 1 rfl) ?_
              refine va_get (D := D) (ci := 4) (v := .int (nI p122)) (C := RX4) (T := TX4) (N := 4) hx hb hts inX4 hown hK hP 0 rfl rfl 1 (by decide) f15 (fun _ h9 => h9) rfl dX4_read_46 ?_
              refine lv_aload_n hx hb dX4_read_49 rfl (lv_at hl 1 rfl) ?_
              refine va_get (D := D) (ci := 4) (v := .int (nI tl)) (C := RX4) (T := TX4) (N := 4) hx hb hts inX4 hown hK hP 0 rfl rfl 0 (by decide) f9 (fun _ h9 => h9) rfl dX4_read_50 ?_
              refine lv_icmp_ne (tgt := 60) hx hb dX4_read_53 (by decide) (fun h53 => ?_) (fun h53 => ?_)
              · skip
                have h53 := (not_congr (cE (nI_toInt (by omega)) (nI_toInt (by omega)))).mp h53
                refine lv_iconst (v := nI (0)) hx hb dX4_read_60 (by decide) ?_
                have h9 := rn_b (L := Lc) (N := Nc) (f := 20 - k - 1) h25 hv22.1 (Or.inr h42)
                rw [← hE]
                exact xe_z (p122, (k + 1), E122, (upZ L2 k (tkN sg tl k p G2).2.2.1), (upZ N2 k (tkN sg tl k p G2).2.2.2.1), ((tkN sg tl k p G2).2.2.2.2)) hx hb hr hlocks hK hP hD hS rfl (⟨by rw [hrd, hfu, h9]; show _ = bI (decide _); rw [decide_eq_false (show ¬ p122 = tl by omega)]; rfl, by rw [hrd, hfu, h9], fun _ => ⟨by rw [hrd, hfu, h9], fun j hj => by rw [hrd, hfu, h9]; exact (ag_s hag) j hj, by rw [hrd, hfu, h9], hz5⟩⟩) dX4_read_61
              · skip
                have h53 := (cE (nI_toInt (by omega)) (nI_toInt (by omega))).mp h53
                refine lv_iconst (v := nI (1)) hx hb dX4_read_56 (by decide) ?_
                refine lv_goto (tgt := 61) hx hb dX4_read_57 (by decide) ?_
                have h9 := rn_b (L := Lc) (N := Nc) (f := 20 - k - 1) h25 hv22.1 (Or.inr h42)
                rw [← hE]
                exact xe_z (p122, (k + 1), E122, (upZ L2 k (tkN sg tl k p G2).2.2.1), (upZ N2 k (tkN sg tl k p G2).2.2.2.1), ((tkN sg tl k p G2).2.2.2.2)) hx hb hr hlocks hK hP hD hS rfl (⟨by rw [hrd, hfu, h9]; show _ = bI (decide _); rw [decide_eq_true (show p122 = tl by omega)]; rfl, by rw [hrd, hfu, h9], fun _ => ⟨by rw [hrd, hfu, h9], fun j hj => by rw [hrd, hfu, h9]; exact (ag_s hag) j hj, by rw [hrd, hfu, h9], hz5⟩⟩) dX4_read_61
        · skip
          have h25 := bI_0.mp h25
          refine lv_iconst (v := nI (0)) hx hb dX4_read_28 (by decide) ?_
          have h9 := rn_a (L := Lc) (N := Nc) (f := 20 - k - 1) h25 hv22.1
          rw [← hE]
          exact xe_z (p122, T122, E122, L122, N122, G122) hx hb hr hlocks hK hP hD hS rfl (⟨by rw [hrd, hfu, h9]; rfl, by rw [hrd, hfu, h9], fun k9 => by rw [hrd, hfu, h9] at k9; cases k9⟩) dX4_read_29
  exact L14 _ 0 0 0 L N noG (fun _ => 0) (fun _ => 0) (by omega) (by omega) lnk_0.symm FWD_0 (fun j hj => absurd hj (Nat.not_lt_zero j)) rfl (Nat.lt_succ_self _) _ _ hP hD hS _ (lv_sub hl [0, 1] rfl)

