def rX9_busy : Room := { frames := 0, cells := 0, slots := 0, locals := 0 }
set_option maxHeartbeats 4000000 in
set_option maxRecDepth 100000 in
theorem mX9_busy (l : Launch) (D : va_G) (ca : Nat → ClassId) (sz : Nat) (mo : Nat) (na : Nat) (nb : Nat) (nc : Nat) (nd : Nat) (ne : Nat) (nf : Nat) (ng : Nat) (nh : Nat) (ni : Nat) (nj : Nat) (nl : Nat) (ms : Bool) (mk : Nat) (my : Nat) (mt : Nat) (mp : Nat) (sa : Nat) (sv : Nat → Int) (st : Nat → Int) (T : Nat) (C : Int) (L : Nat → Int) (N : Nat → Int) (G : Nat → Nat → Int) (x : Nat) (hT : T ≤ 20) (hM : MS sv T C L N G) (hst : ∀ t, t < T → -1 ≤ st t ∧ st t ≤ 1000) (hx9 : x ≤ 2000) (hL30 : L30 T L) (hNk : NOK T N) : MM l yX9_busy wsX9_busy rX9_busy D ca [.ref mo, .ref sa, .int (nI x)] sz [(mo, .inr (9, [.ref na, .ref nb, .ref nc, .ref nd, .int (bI (ms)), .int (nI mk), .ref ne, .int (nI my), .int (nI mt), .int (nI mp), .ref nf, .ref ng, .ref nh, .ref ni, .ref nj, .ref nl])), (nh, .inl (ca 0, 20, .inl (zF st))), (sa, .inl (ca 0, 442, .inl (zF sv)))] (QI D ca (fun (r : Int32) (u : Unit) => r = iZ (bsy L N st (x : Int) T)) (fun _ => [(mo, .inr (9, [.ref na, .ref nb, .ref nc, .ref nd, .int (bI (ms)), .int (nI mk), .ref ne, .int (nI my), .int (nI mt), .int (nI mp), .ref nf, .ref ng, .ref nh, .ref ni, .ref nj, .ref nl])), (nh, .inl (ca 0, 20, .inl (zF st))), (sa, .inl (ca 0, 442, .inl (zF sv)))])) := by
  refine MM_of (cc := cX9_busy) (maxL := 6) (ret := (some .int)) (lv0 := [(0, .ref mo), (1, .ref sa), (2, .int (nI x))]) RX9 (by decide) rfl rfl (Nat.le_of_ble_eq_true rfl) rfl ?_
  intro pG eV s mI args below meth cO hx hb hr hml hts hown hlocks hnm A hA H locs hsz hP hK hD hS Q hE ls hl
  have f31 := hts (.fieldLink RX9 31 "SlackPlanModel" "start" "[I") (List.mem_of_getElem? (i := 1) rfl)
  have inX9 : ∀ w ∈ u_ws RX9 TX9 16, w ∈ wsX9_busy := in_r _ [2, 3, 4, 5, 6, 7, 8, 9, 10, 11, 12, 13, 14, 15, 16, 17] rfl
  refine lv_iconst (v := iZ 0) hx hb dX9_busy_0 (by decide) ?_
  refine lv_istore_n (lv' := [(3, .int (iZ 0)), (0, .ref mo), (1, .ref sa), (2, .int (nI x))]) hx hb dX9_busy_1 rfl hl (by decide) rfl (fun ls hl => ?_)
  refine lv_iconst (v := nI (0)) hx hb dX9_busy_2 (by decide) ?_
  refine lv_istore (lv' := [(4, .int (nI 0)), (3, .int (iZ 0)), (0, .ref mo), (1, .ref sa), (2, .int (nI x))]) hx hb dX9_busy_3 hl (by decide) rfl (fun ls hl => ?_)
  have L5 : ∀ (fu : Nat) (j : Nat) (n : Int), (j ≤ T) → (n = bsy L N st (x : Int) j) → (T - j) < fu → ∀ (H : Heap) (locs : List Loc), va_P D vwCl [(mo, .inr (9, [.ref na, .ref nb, .ref nc, .ref nd, .int (bI (ms)), .int (nI mk), .ref ne, .int (nI my), .int (nI mt), .int (nI mp), .ref nf, .ref ng, .ref nh, .ref ni, .ref nj, .ref nl])), (nh, .inl (ca 0, 20, .inl (zF st))), (sa, .inl (ca 0, 442, .inl (zF sv)))] H → va_D A [(mo, .inr (9, [.ref na, .ref nb, .ref nc, .ref nd, .int (bI (ms)), .int (nI mk), .ref ne, .int (nI my), .int (nI mt), .int (nI mp), .ref nf, .ref ng, .ref nh, .ref ni, .ref nj, .ref nl])), (nh, .inl (ca 0, 20, .inl (zF st))), (sa, .inl (ca 0, 442, .inl (zF sv)))] → va_S A s.heap H locs → ∀ ls : Array Slot, lv_has ls 6 [(4, .int (nI j)), (3, .int (iZ n)), (0, .ref mo), (1, .ref sa), (2, .int (nI x))] → W pG l eV rX9_busy s mI args below meth cO H locs 0 0 Q (F0 mI 5 ls []) := by
    clear hP hD hS hl
    intro fu; induction fu with
    | zero => intro j n hj hn hmu; exact absurd hmu (Nat.not_lt_zero _)
    | succ n5 ih5 =>
      intro j n hj hn hmu5 H locs hP hD hS ls hl
      have hs0 := hM.1
      refine lv_iload hx hb dX9_busy_5 (lv_at hl 0 rfl) ?_
      refine lv_aload_n hx hb dX9_busy_7 rfl (lv_at hl 3 rfl) ?_
      refine lv_iconst (v := nI (0)) hx hb dX9_busy_8 (by decide) ?_
      refine xr_iald hx hb hK hP 2 0 rfl rfl (by omega) (Nat.le_of_ble_eq_true rfl) (v := iZ (sv 0)) rfl dX9_busy_9 ?_
      refine lv_icmp_ge (tgt := 84) hx hb dX9_busy_10 (by decide) (fun h10 => ?_) (fun h10 => ?_)
      · skip
        have h10 := (cL (iZ_toInt (by omega) (by omega)) (nI_toInt (by omega))).mp h10
        refine lv_iload_n hx hb dX9_busy_84 rfl (lv_at hl 1 rfl) ?_
        rw [← hE]
        exact xe_i () hx hb hr hlocks hK hP hD hS (by rw [hn, show j = T by omega]) dX9_busy_85
      · skip
        have h10 := (not_congr (cL (iZ_toInt (by omega) (by omega)) (nI_toInt (by omega)))).mp h10
        refine lv_aload_n hx hb dX9_busy_13 rfl (lv_at hl 2 rfl) ?_
        refine va_get (D := D) (ci := 9) (v := .ref nh) (C := RX9) (T := TX9) (N := 16) hx hb hts inX9 hown hK hP 0 rfl rfl 12 (by decide) f31 (fun _ h9 => h9) rfl dX9_busy_14 ?_
        refine lv_iload hx hb dX9_busy_17 (lv_at hl 0 rfl) ?_
        refine xr_iald hx hb hK hP 1 0 rfl rfl (by omega) (Nat.le_of_ble_eq_true rfl) (v := iZ (st j)) rfl dX9_busy_19 ?_
        have hb1 := hst j (by omega)
        have hb2 := (hM.2.2.1 j (by omega)).1
        have hb3 := hL30 j (by omega)
        have hb4 := (hM.2.2.1 j (by omega)).2
        refine lv_if_lt (tgt := 56) hx hb dX9_busy_20 (by decide) (fun h20 => ?_) (fun h20 => ?_)
        · skip
          have h20 := (cT (iZ_toInt (by omega) (by omega)) z0_toInt).mp h20
          refine lv_iconst (v := nI (0)) hx hb dX9_busy_56 (by decide) ?_
          refine lv_istore (lv' := [(5, .int (nI 0)), (4, .int (nI j)), (3, .int (iZ n)), (0, .ref mo), (1, .ref sa), (2, .int (nI x))]) hx hb dX9_busy_57 hl (by decide) rfl (fun ls hl => ?_)
          refine lv_iload_n hx hb dX9_busy_59 rfl (lv_at hl 2 rfl) ?_
          refine lv_iload hx hb dX9_busy_60 (lv_at hl 0 rfl) ?_
          refine lv_if_eq (tgt := 75) hx hb dX9_busy_62 (by decide) (fun h62 => ?_) (fun h62 => ?_)
          · skip
            have h62 := (cE (nI_toInt (by omega)) z0_toInt).mp h62
            refine lv_iconst (v := nI (0)) hx hb dX9_busy_75 (by decide) ?_
            refine xr_iadd_zn hx hb dX9_busy_76 ?_
            refine lv_istore_n (lv' := [(3, .int (iZ (n + 0))), (5, .int (nI 0)), (4, .int (nI j)), (0, .ref mo), (1, .ref sa), (2, .int (nI x))]) hx hb dX9_busy_77 rfl hl (by decide) rfl (fun ls hl => ?_)
            refine lv_iinc (v := nI (j + 1)) (lv' := [(4, .int (nI (j + 1))), (3, .int (iZ (n + 0))), (5, .int (nI 0)), (0, .ref mo), (1, .ref sa), (2, .int (nI x))]) hx hb dX9_busy_78 hl (k := 2) rfl (nI_add _ 1) (by decide) rfl (fun ls hl => ?_)
            refine lv_goto (tgt := 5) hx hb dX9_busy_81 (by decide) ?_
            exact ih5 (j + 1) (n + 0) (by omega) (by rw [hn, bsy, if_neg (by omega)]) (by omega) _ _ hP hD hS _ (lv_sub hl [0, 1, 3, 4, 5] rfl)
          · skip
            have h62 := (not_congr (cE (nI_toInt (by omega)) z0_toInt)).mp h62
            exact absurd h62 (by omega)
        · skip
          have h20 := (not_congr (cT (iZ_toInt (by omega) (by omega)) z0_toInt)).mp h20
          refine lv_iload_n hx hb dX9_busy_23 rfl (lv_at hl 4 rfl) ?_
          refine lv_aload_n hx hb dX9_busy_24 rfl (lv_at hl 2 rfl) ?_
          refine va_get (D := D) (ci := 9) (v := .ref nh) (C := RX9) (T := TX9) (N := 16) hx hb hts inX9 hown hK hP 0 rfl rfl 12 (by decide) f31 (fun _ h9 => h9) rfl dX9_busy_25 ?_
          refine lv_iload hx hb dX9_busy_28 (lv_at hl 0 rfl) ?_
          refine xr_iald hx hb hK hP 1 0 rfl rfl (by omega) (Nat.le_of_ble_eq_true rfl) (v := iZ (st j)) rfl dX9_busy_30 ?_
          refine lv_icmp_lt (tgt := 56) hx hb dX9_busy_31 (by decide) (fun h31 => ?_) (fun h31 => ?_)
          · skip
            have h31 := (cT (nI_toInt (by omega)) (iZ_toInt (by omega) (by omega))).mp h31
            refine lv_iconst (v := nI (0)) hx hb dX9_busy_56 (by decide) ?_
            refine lv_istore (lv' := [(5, .int (nI 0)), (4, .int (nI j)), (3, .int (iZ n)), (0, .ref mo), (1, .ref sa), (2, .int (nI x))]) hx hb dX9_busy_57 hl (by decide) rfl (fun ls hl => ?_)
            refine lv_iload_n hx hb dX9_busy_59 rfl (lv_at hl 2 rfl) ?_
            refine lv_iload hx hb dX9_busy_60 (lv_at hl 0 rfl) ?_
            refine lv_if_eq (tgt := 75) hx hb dX9_busy_62 (by decide) (fun h62 => ?_) (fun h62 => ?_)
            · skip
              have h62 := (cE (nI_toInt (by omega)) z0_toInt).mp h62
              refine lv_iconst (v := nI (0)) hx hb dX9_busy_75 (by decide) ?_
              refine xr_iadd_zn hx hb dX9_busy_76 ?_
              refine lv_istore_n (lv' := [(3, .int (iZ (n + 0))), (5, .int (nI 0)), (4, .int (nI j)), (0, .ref mo), (1, .ref sa), (2, .int (nI x))]) hx hb dX9_busy_77 rfl hl (by decide) rfl (fun ls hl => ?_)
              refine lv_iinc (v := nI (j + 1)) (lv' := [(4, .int (nI (j + 1))), (3, .int (iZ (n + 0))), (5, .int (nI 0)), (0, .ref mo), (1, .ref sa), (2, .int (nI x))]) hx hb dX9_busy_78 hl (k := 2) rfl (nI_add _ 1) (by decide) rfl (fun ls hl => ?_)
              refine lv_goto (tgt := 5) hx hb dX9_busy_81 (by decide) ?_
              exact ih5 (j + 1) (n + 0) (by omega) (by rw [hn, bsy, if_neg (by omega)]) (by omega) _ _ hP hD hS _ (lv_sub hl [0, 1, 3, 4, 5] rfl)
            · skip
              have h62 := (not_congr (cE (nI_toInt (by omega)) z0_toInt)).mp h62
              exact absurd h62 (by omega)
          · skip
            have h31 := (not_congr (cT (nI_toInt (by omega)) (iZ_toInt (by omega) (by omega)))).mp h31
            refine lv_iload_n hx hb dX9_busy_34 rfl (lv_at hl 4 rfl) ?_
            refine lv_aload_n hx hb dX9_busy_35 rfl (lv_at hl 2 rfl) ?_
            refine va_get (D := D) (ci := 9) (v := .ref nh) (C := RX9) (T := TX9) (N := 16) hx hb hts inX9 hown hK hP 0 rfl rfl 12 (by decide) f31 (fun _ h9 => h9) rfl dX9_busy_36 ?_
            refine lv_iload hx hb dX9_busy_39 (lv_at hl 0 rfl) ?_
            refine xr_iald hx hb hK hP 1 0 rfl rfl (by omega) (Nat.le_of_ble_eq_true rfl) (v := iZ (st j)) rfl dX9_busy_41 ?_
            refine lv_aload_n hx hb dX9_busy_42 rfl (lv_at hl 3 rfl) ?_
            refine lv_iconst (v := nI (2)) hx hb dX9_busy_43 (by decide) ?_
            refine lv_iload hx hb dX9_busy_44 (lv_at hl 0 rfl) ?_
            refine xr_iadd hx hb dX9_busy_46 ?_
            refine xr_iald hx hb hK hP 2 0 rfl rfl (by omega) (Nat.le_of_ble_eq_true rfl) (v := iZ (sv (2 + j))) rfl dX9_busy_47 ?_
            refine xr_iadd_zz hx hb dX9_busy_48 ?_
            refine lv_icmp_ge (tgt := 56) hx hb dX9_busy_49 (by decide) (fun h49 => ?_) (fun h49 => ?_)
            · skip
              have h49 := (cL (iZ_toInt (by omega) (by omega)) (nI_toInt (by omega))).mp h49
              refine lv_iconst (v := nI (0)) hx hb dX9_busy_56 (by decide) ?_
              refine lv_istore (lv' := [(5, .int (nI 0)), (4, .int (nI j)), (3, .int (iZ n)), (0, .ref mo), (1, .ref sa), (2, .int (nI x))]) hx hb dX9_busy_57 hl (by decide) rfl (fun ls hl => ?_)
              refine lv_iload_n hx hb dX9_busy_59 rfl (lv_at hl 2 rfl) ?_
              refine lv_iload hx hb dX9_busy_60 (lv_at hl 0 rfl) ?_
              refine lv_if_eq (tgt := 75) hx hb dX9_busy_62 (by decide) (fun h62 => ?_) (fun h62 => ?_)
              · skip
                have h62 := (cE (nI_toInt (by omega)) z0_toInt).mp h62
                refine lv_iconst (v := nI (0)) hx hb dX9_busy_75 (by decide) ?_
                refine xr_iadd_zn hx hb dX9_busy_76 ?_
                refine lv_istore_n (lv' := [(3, .int (iZ (n + 0))), (5, .int (nI 0)), (4, .int (nI j)), (0, .ref mo), (1, .ref sa), (2, .int (nI x))]) hx hb dX9_busy_77 rfl hl (by decide) rfl (fun ls hl => ?_)
                refine lv_iinc (v := nI (j + 1)) (lv' := [(4, .int (nI (j + 1))), (3, .int (iZ (n + 0))), (5, .int (nI 0)), (0, .ref mo), (1, .ref sa), (2, .int (nI x))]) hx hb dX9_busy_78 hl (k := 2) rfl (nI_add _ 1) (by decide) rfl (fun ls hl => ?_)
                refine lv_goto (tgt := 5) hx hb dX9_busy_81 (by decide) ?_
                exact ih5 (j + 1) (n + 0) (by omega) (by rw [hn, bsy, if_neg (by omega)]) (by omega) _ _ hP hD hS _ (lv_sub hl [0, 1, 3, 4, 5] rfl)
              · skip
                have h62 := (not_congr (cE (nI_toInt (by omega)) z0_toInt)).mp h62
                exact absurd h62 (by omega)
            · skip
              have h49 := (not_congr (cL (iZ_toInt (by omega) (by omega)) (nI_toInt (by omega)))).mp h49
              refine lv_iconst (v := nI (1)) hx hb dX9_busy_52 (by decide) ?_
              refine lv_goto (tgt := 57) hx hb dX9_busy_53 (by decide) ?_
              refine lv_istore (lv' := [(5, .int (nI 1)), (4, .int (nI j)), (3, .int (iZ n)), (0, .ref mo), (1, .ref sa), (2, .int (nI x))]) hx hb dX9_busy_57 hl (by decide) rfl (fun ls hl => ?_)
              refine lv_iload_n hx hb dX9_busy_59 rfl (lv_at hl 2 rfl) ?_
              refine lv_iload hx hb dX9_busy_60 (lv_at hl 0 rfl) ?_
              refine lv_if_eq (tgt := 75) hx hb dX9_busy_62 (by decide) (fun h62 => ?_) (fun h62 => ?_)
              · skip
                have h62 := (cE (nI_toInt (by omega)) z0_toInt).mp h62
                exact absurd h62 (by omega)
              · skip
                have h62 := (not_congr (cE (nI_toInt (by omega)) z0_toInt)).mp h62
                refine lv_aload_n hx hb dX9_busy_65 rfl (lv_at hl 4 rfl) ?_
                refine lv_bipush (v := nI (22)) hx hb dX9_busy_66 (by decide) ?_
                refine lv_iload hx hb dX9_busy_68 (lv_at hl 1 rfl) ?_
                refine xr_iadd hx hb dX9_busy_70 ?_
                refine xr_iald hx hb hK hP 2 0 rfl rfl (by omega) (Nat.le_of_ble_eq_true rfl) (v := iZ (sv (22 + j))) rfl dX9_busy_71 ?_
                refine xr_top (y := iZ (N j)) (congrArg iZ hb4) ?_
                refine lv_goto (tgt := 76) hx hb dX9_busy_72 (by decide) ?_
                refine xr_iadd_zz hx hb dX9_busy_76 ?_
                refine lv_istore_n (lv' := [(3, .int (iZ (n + (N j)))), (5, .int (nI 1)), (4, .int (nI j)), (0, .ref mo), (1, .ref sa), (2, .int (nI x))]) hx hb dX9_busy_77 rfl hl (by decide) rfl (fun ls hl => ?_)
                refine lv_iinc (v := nI (j + 1)) (lv' := [(4, .int (nI (j + 1))), (3, .int (iZ (n + (N j)))), (5, .int (nI 1)), (0, .ref mo), (1, .ref sa), (2, .int (nI x))]) hx hb dX9_busy_78 hl (k := 2) rfl (nI_add _ 1) (by decide) rfl (fun ls hl => ?_)
                refine lv_goto (tgt := 5) hx hb dX9_busy_81 (by decide) ?_
                exact ih5 (j + 1) (n + (N j)) (by omega) (by rw [hn, bsy, if_pos ⟨by omega, by omega, by omega⟩]) (by omega) _ _ hP hD hS _ (lv_sub hl [0, 1, 3, 4, 5] rfl)
  exact L5 _ 0 0 (by omega) rfl (Nat.lt_succ_self _) _ _ hP hD hS _ (lv_sub hl [0, 1, 2, 3, 4] rfl)
def rX9_nextTask : Room := { frames := 1, cells := 0, slots := 0, locals := 22 }
set_option maxHeartbeats 4000000 in
set_option maxRecDepth 100000 in
theorem mX9_nextTask (l : Launch) (D : va_G) (ca : Nat → ClassId) (sz : Nat) (mo : Nat) (na : Nat) (nb : Nat) (nc : Nat) (nd : Nat) (ne : Nat) (nf : Nat) (ng : Nat) (nh : Nat) (ni : Nat) (nj : Nat) (nl : Nat) (ms : Bool) (mk : Nat) (my : Nat) (mt : Nat) (mp : Nat) (sa : Nat) (sv : Nat → Int) (f : Nat → Int) (st : Nat → Int) (T : Nat) (C : Int) (L : Nat → Int) (N : Nat → Int) (G : Nat → Nat → Int) (hT : T ≤ 20) (hG : GOK G) (hM : MS sv T C L N G) (hst : ∀ t, t < T → -1 ≤ st t ∧ st t ≤ 1000) (hf : ∀ t, t < T → -5000 ≤ f t ∧ f t ≤ 5000) : MM l yX9_nextTask wsX9_nextTask rX9_nextTask D ca [.ref mo, .ref sa] sz [(mo, .inr (9, [.ref na, .ref nb, .ref nc, .ref nd, .int (bI (ms)), .int (nI mk), .ref ne, .int (nI my), .int (nI mt), .int (nI mp), .ref nf, .ref ng, .ref nh, .ref ni, .ref nj, .ref nl])), (ng, .inl (ca 0, 20, .inl (zF f))), (nh, .inl (ca 0, 20, .inl (zF st))), (sa, .inl (ca 0, 442, .inl (zF sv)))] (QI D ca (fun (r : Int32) (u : Unit) => r = iZ (oZ (nxt f (canB G T st) T))) (fun _ => [(mo, .inr (9, [.ref na, .ref nb, .ref nc, .ref nd, .int (bI (ms)), .int (nI mk), .ref ne, .int (nI my), .int (nI mt), .int (nI mp), .ref nf, .ref ng, .ref nh, .ref ni, .ref nj, .ref nl])), (ng, .inl (ca 0, 20, .inl (zF f))), (nh, .inl (ca 0, 20, .inl (zF st))), (sa, .inl (ca 0, 442, .inl (zF sv)))])) := by
  refine MM_of (cc := cX9_nextTask) (maxL := 6) (ret := (some .int)) (lv0 := [(0, .ref mo), (1, .ref sa)]) RX9 (by decide) rfl rfl (Nat.le_of_ble_eq_true rfl) rfl ?_
  intro pG eV s mI args below meth cO hx hb hr hml hts hown hlocks hnm A hA H locs hsz hP hK hD hS Q hE ls hl
  have f31 := hts (.fieldLink RX9 31 "SlackPlanModel" "start" "[I") (List.mem_of_getElem? (i := 1) rfl)
  have inX9 : ∀ w ∈ u_ws RX9 TX9 16, w ∈ wsX9_nextTask := in_r _ [7, 8, 9, 10, 11, 12, 13, 14, 15, 16, 17, 18, 19, 20, 21, 22] rfl
  have f28 := hts (.fieldLink RX9 28 "SlackPlanModel" "late" "[I") (List.mem_of_getElem? (i := 2) rfl)
  refine lv_iconst (v := iZ (-1)) hx hb dX9_nextTask_0 (by decide) ?_
  refine lv_istore_n (lv' := [(2, .int (iZ (-1))), (0, .ref mo), (1, .ref sa)]) hx hb dX9_nextTask_1 rfl hl (by decide) rfl (fun ls hl => ?_)
  refine lv_iconst (v := nI (0)) hx hb dX9_nextTask_2 (by decide) ?_
  refine lv_istore_n (lv' := [(3, .int (nI 0)), (2, .int (iZ (-1))), (0, .ref mo), (1, .ref sa)]) hx hb dX9_nextTask_3 rfl hl (by decide) rfl (fun ls hl => ?_)
  have L4 : ∀ (fu : Nat) (k : Nat) (op : Option Nat), (k ≤ T) → (op = nxt f (canB G T st) k) → (T - k) < fu → ∀ (H : Heap) (locs : List Loc), va_P D vwCl [(mo, .inr (9, [.ref na, .ref nb, .ref nc, .ref nd, .int (bI (ms)), .int (nI mk), .ref ne, .int (nI my), .int (nI mt), .int (nI mp), .ref nf, .ref ng, .ref nh, .ref ni, .ref nj, .ref nl])), (ng, .inl (ca 0, 20, .inl (zF f))), (nh, .inl (ca 0, 20, .inl (zF st))), (sa, .inl (ca 0, 442, .inl (zF sv)))] H → va_D A [(mo, .inr (9, [.ref na, .ref nb, .ref nc, .ref nd, .int (bI (ms)), .int (nI mk), .ref ne, .int (nI my), .int (nI mt), .int (nI mp), .ref nf, .ref ng, .ref nh, .ref ni, .ref nj, .ref nl])), (ng, .inl (ca 0, 20, .inl (zF f))), (nh, .inl (ca 0, 20, .inl (zF st))), (sa, .inl (ca 0, 442, .inl (zF sv)))] → va_S A s.heap H locs → ∀ ls : Array Slot, lv_has ls 6 [(3, .int (nI k)), (2, .int (iZ (oZ op))), (0, .ref mo), (1, .ref sa)] → W pG l eV rX9_nextTask s mI args below meth cO H locs 0 0 Q (F0 mI 4 ls []) := by
    clear hP hD hS hl
    intro fu; induction fu with
    | zero => intro k op hk ho hmu; exact absurd hmu (Nat.not_lt_zero _)
    | succ n4 ih4 =>
      intro k op hk ho hmu4 H locs hP hD hS ls hl
      have hs0 := hM.1
      refine lv_iload_n hx hb dX9_nextTask_4 rfl (lv_at hl 0 rfl) ?_
      refine lv_aload_n hx hb dX9_nextTask_5 rfl (lv_at hl 3 rfl) ?_
      refine lv_iconst (v := nI (0)) hx hb dX9_nextTask_6 (by decide) ?_
      refine xr_iald hx hb hK hP 3 0 rfl rfl (by omega) (Nat.le_of_ble_eq_true rfl) (v := iZ (sv 0)) rfl dX9_nextTask_7 ?_
      refine lv_icmp_ge (tgt := 112) hx hb dX9_nextTask_8 (by decide) (fun h8 => ?_) (fun h8 => ?_)
      · skip
        have h8 := (cL (iZ_toInt (by omega) (by omega)) (nI_toInt (by omega))).mp h8
        refine lv_iload_n hx hb dX9_nextTask_112 rfl (lv_at hl 1 rfl) ?_
        rw [← hE]
        exact xe_i () hx hb hr hlocks hK hP hD hS (by rw [ho, show k = T by omega]) dX9_nextTask_113
      · skip
        have h8 := (not_congr (cL (iZ_toInt (by omega) (by omega)) (nI_toInt (by omega)))).mp h8
        refine lv_aload_n hx hb dX9_nextTask_11 rfl (lv_at hl 2 rfl) ?_
        refine va_get (D := D) (ci := 9) (v := .ref nh) (C := RX9) (T := TX9) (N := 16) hx hb hts inX9 hown hK hP 0 rfl rfl 12 (by decide) f31 (fun _ h9 => h9) rfl dX9_nextTask_12 ?_
        refine lv_iload_n hx hb dX9_nextTask_15 rfl (lv_at hl 0 rfl) ?_
        refine xr_iald hx hb hK hP 2 0 rfl rfl (by omega) (Nat.le_of_ble_eq_true rfl) (v := iZ (st k)) rfl dX9_nextTask_16 ?_
        have hb1 := hst k (by omega)
        refine lv_if_ge (tgt := 24) hx hb dX9_nextTask_17 (by decide) (fun h17 => ?_) (fun h17 => ?_)
        · skip
          have h17 := (cL z0_toInt (iZ_toInt (by omega) (by omega))).mp h17
          refine lv_iconst (v := nI (0)) hx hb dX9_nextTask_24 (by decide) ?_
          refine lv_istore (lv' := [(4, .int (nI 0)), (3, .int (nI k)), (2, .int (iZ (oZ op))), (0, .ref mo), (1, .ref sa)]) hx hb dX9_nextTask_25 hl (by decide) rfl (fun ls hl => ?_)
          refine lv_iconst (v := nI (0)) hx hb dX9_nextTask_27 (by decide) ?_
          refine lv_istore (lv' := [(5, .int (nI 0)), (4, .int (nI 0)), (3, .int (nI k)), (2, .int (iZ (oZ op))), (0, .ref mo), (1, .ref sa)]) hx hb dX9_nextTask_28 hl (by decide) rfl (fun ls hl => ?_)
          have L30 : ∀ (fu : Nat) (u : Nat) (cb : Bool), (u ≤ T) → (cb = (decide (st k < 0) && allS G st k u)) → (T - u) < fu → ∀ (H : Heap) (locs : List Loc), va_P D vwCl [(mo, .inr (9, [.ref na, .ref nb, .ref nc, .ref nd, .int (bI (ms)), .int (nI mk), .ref ne, .int (nI my), .int (nI mt), .int (nI mp), .ref nf, .ref ng, .ref nh, .ref ni, .ref nj, .ref nl])), (ng, .inl (ca 0, 20, .inl (zF f))), (nh, .inl (ca 0, 20, .inl (zF st))), (sa, .inl (ca 0, 442, .inl (zF sv)))] H → va_D A [(mo, .inr (9, [.ref na, .ref nb, .ref nc, .ref nd, .int (bI (ms)), .int (nI mk), .ref ne, .int (nI my), .int (nI mt), .int (nI mp), .ref nf, .ref ng, .ref nh, .ref ni, .ref nj, .ref nl])), (ng, .inl (ca 0, 20, .inl (zF f))), (nh, .inl (ca 0, 20, .inl (zF st))), (sa, .inl (ca 0, 442, .inl (zF sv)))] → va_S A s.heap H locs → ∀ ls : Array Slot, lv_has ls 6 [(5, .int (nI u)), (4, .int (bI (cb))), (3, .int (nI k)), (2, .int (iZ (oZ op))), (0, .ref mo), (1, .ref sa)] → W pG l eV rX9_nextTask s mI args below meth cO H locs 0 0 Q (F0 mI 30 ls []) := by
            clear hP hD hS hl
            intro fu; induction fu with
            | zero => intro u cb hu hcb hmu; exact absurd hmu (Nat.not_lt_zero _)
            | succ n30 ih30 =>
              intro u cb hu hcb hmu30 H locs hP hD hS ls hl
              refine lv_iload hx hb dX9_nextTask_30 (lv_at hl 0 rfl) ?_
              refine lv_aload_n hx hb dX9_nextTask_32 rfl (lv_at hl 5 rfl) ?_
              refine lv_iconst (v := nI (0)) hx hb dX9_nextTask_33 (by decide) ?_
              refine xr_iald hx hb hK hP 3 0 rfl rfl (by omega) (Nat.le_of_ble_eq_true rfl) (v := iZ (sv 0)) rfl dX9_nextTask_34 ?_
              refine lv_icmp_ge (tgt := 76) hx hb dX9_nextTask_35 (by decide) (fun h35 => ?_) (fun h35 => ?_)
              · skip
                have h35 := (cL (iZ_toInt (by omega) (by omega)) (nI_toInt (by omega))).mp h35
                have hcan := cb_can (T := T) hcb hu (Or.inl (by omega))
                refine lv_iload hx hb dX9_nextTask_76 (lv_at hl 1 rfl) ?_
                refine lv_if_eq (tgt := 104) hx hb dX9_nextTask_78 (by decide) (fun h78 => ?_) (fun h78 => ?_)
                · skip
                  have h78 := bI_0.mp h78
                  refine lv_iload_n hx hb dX9_nextTask_104 rfl (lv_at hl 3 rfl) ?_
                  refine lv_istore_n (lv' := [(2, .int (iZ (oZ op))), (5, .int (nI u)), (4, .int (bI (cb))), (3, .int (nI k)), (0, .ref mo), (1, .ref sa)]) hx hb dX9_nextTask_105 rfl hl (by decide) rfl (fun ls hl => ?_)
                  refine lv_iinc (v := nI (k + 1)) (lv' := [(3, .int (nI (k + 1))), (2, .int (iZ (oZ op))), (5, .int (nI u)), (4, .int (bI (cb))), (0, .ref mo), (1, .ref sa)]) hx hb dX9_nextTask_106 hl (k := 3) rfl (nI_add _ 1) (by decide) rfl (fun ls hl => ?_)
                  refine lv_goto (tgt := 4) hx hb dX9_nextTask_109 (by decide) ?_
                  exact ih4 (k + 1) op (by omega) (nxt_a (hcan.symm.trans h78) ho) (by omega) _ _ hP hD hS _ (lv_sub hl [0, 1, 4, 5] rfl)
                · skip
                  have h78 := bI_n0.mp h78
                  refine lv_iload_n hx hb dX9_nextTask_81 rfl (lv_at hl 3 rfl) ?_
                  have hq2 := oZ_rng (nxt_lt ho)
                  refine lv_if_lt (tgt := 100) hx hb dX9_nextTask_82 (by decide) (fun h82 => ?_) (fun h82 => ?_)
                  · skip
                    have h82 := (cT (iZ_toInt (by omega) (by omega)) z0_toInt).mp h82
                    refine lv_iload_n hx hb dX9_nextTask_100 rfl (lv_at hl 2 rfl) ?_
                    refine lv_goto (tgt := 105) hx hb dX9_nextTask_101 (by decide) ?_
                    refine lv_istore_n (lv' := [(2, .int (nI k)), (5, .int (nI u)), (4, .int (bI (cb))), (3, .int (nI k)), (0, .ref mo), (1, .ref sa)]) hx hb dX9_nextTask_105 rfl hl (by decide) rfl (fun ls hl => ?_)
                    refine lv_iinc (v := nI (k + 1)) (lv' := [(3, .int (nI (k + 1))), (2, .int (nI k)), (5, .int (nI u)), (4, .int (bI (cb))), (0, .ref mo), (1, .ref sa)]) hx hb dX9_nextTask_106 hl (k := 3) rfl (nI_add _ 1) (by decide) rfl (fun ls hl => ?_)
                    refine lv_goto (tgt := 4) hx hb dX9_nextTask_109 (by decide) ?_
                    have e9 : nI (k) = iZ (oZ (some k)) := (iZ_n k)
                    have hl : lv_has ls 6 [(3, .int (nI (k + 1))), (2, .int (iZ (oZ (some k)))), (5, .int (nI u)), (4, .int (bI (cb))), (0, .ref mo), (1, .ref sa)] := by rw [← e9]; exact hl
                    exact ih4 (k + 1) (some k) (by omega) (nxt_b (hcan.symm.trans h78) ho (oZ_none (by omega))) (by omega) _ _ hP hD hS _ (lv_sub hl [0, 1, 4, 5] rfl)
                  · skip
                    have h82 := (not_congr (cT (iZ_toInt (by omega) (by omega)) z0_toInt)).mp h82
                    obtain ⟨m, hm9⟩ := oZ_some (o := op) (by omega)
                    have hq3 := nxt_lt ho m hm9
                    have hq4 := hf k (by omega)
                    have hq5 := hf m (by omega)
                    have e9 : iZ (oZ op) = nI (m) := (by rw [hm9]; exact (iZ_n m).symm)
                    have hl : lv_has ls 6 [(5, .int (nI u)), (4, .int (bI (cb))), (3, .int (nI k)), (2, .int (nI m)), (0, .ref mo), (1, .ref sa)] := by rw [← e9]; exact hl
                    refine lv_aload_n hx hb dX9_nextTask_85 rfl (lv_at hl 4 rfl) ?_
                    refine va_get (D := D) (ci := 9) (v := .ref ng) (C := RX9) (T := TX9) (N := 16) hx hb hts inX9 hown hK hP 0 rfl rfl 11 (by decide) f28 (fun _ h9 => h9) rfl dX9_nextTask_86 ?_
                    refine lv_iload_n hx hb dX9_nextTask_89 rfl (lv_at hl 2 rfl) ?_
                    refine xr_iald hx hb hK hP 1 0 rfl rfl (by omega) (Nat.le_of_ble_eq_true rfl) (v := iZ (f k)) rfl dX9_nextTask_90 ?_
                    refine lv_aload_n hx hb dX9_nextTask_91 rfl (lv_at hl 4 rfl) ?_
                    refine va_get (D := D) (ci := 9) (v := .ref ng) (C := RX9) (T := TX9) (N := 16) hx hb hts inX9 hown hK hP 0 rfl rfl 11 (by decide) f28 (fun _ h9 => h9) rfl dX9_nextTask_92 ?_
                    refine lv_iload_n hx hb dX9_nextTask_95 rfl (lv_at hl 3 rfl) ?_
                    refine xr_iald hx hb hK hP 1 0 rfl rfl (by omega) (Nat.le_of_ble_eq_true rfl) (v := iZ (f m)) rfl dX9_nextTask_96 ?_
                    refine lv_icmp_ge (tgt := 104) hx hb dX9_nextTask_97 (by decide) (fun h97 => ?_) (fun h97 => ?_)
                    · skip
                      have h97 := (cL (iZ_toInt (by omega) (by omega)) (iZ_toInt (by omega) (by omega))).mp h97
                      refine lv_iload_n hx hb dX9_nextTask_104 rfl (lv_at hl 3 rfl) ?_
                      refine lv_istore_n (lv' := [(2, .int (nI m)), (5, .int (nI u)), (4, .int (bI (cb))), (3, .int (nI k)), (0, .ref mo), (1, .ref sa)]) hx hb dX9_nextTask_105 rfl hl (by decide) rfl (fun ls hl => ?_)
                      refine lv_iinc (v := nI (k + 1)) (lv' := [(3, .int (nI (k + 1))), (2, .int (nI m)), (5, .int (nI u)), (4, .int (bI (cb))), (0, .ref mo), (1, .ref sa)]) hx hb dX9_nextTask_106 hl (k := 3) rfl (nI_add _ 1) (by decide) rfl (fun ls hl => ?_)
                      refine lv_goto (tgt := 4) hx hb dX9_nextTask_109 (by decide) ?_
                      have e9 : nI (m) = iZ (oZ (some m)) := (iZ_n m)
                      have hl : lv_has ls 6 [(3, .int (nI (k + 1))), (2, .int (iZ (oZ (some m)))), (5, .int (nI u)), (4, .int (bI (cb))), (0, .ref mo), (1, .ref sa)] := by rw [← e9]; exact hl
                      exact ih4 (k + 1) (some m) (by omega) (nxt_d (hcan.symm.trans h78) (hm9.symm.trans ho) (by omega)) (by omega) _ _ hP hD hS _ (lv_sub hl [0, 1, 4, 5] rfl)
                    · skip
                      have h97 := (not_congr (cL (iZ_toInt (by omega) (by omega)) (iZ_toInt (by omega) (by omega)))).mp h97
                      refine lv_iload_n hx hb dX9_nextTask_100 rfl (lv_at hl 2 rfl) ?_
                      refine lv_goto (tgt := 105) hx hb dX9_nextTask_101 (by decide) ?_
                      refine lv_istore_n (lv' := [(2, .int (nI k)), (5, .int (nI u)), (4, .int (bI (cb))), (3, .int (nI k)), (0, .ref mo), (1, .ref sa)]) hx hb dX9_nextTask_105 rfl hl (by decide) rfl (fun ls hl => ?_)
                      refine lv_iinc (v := nI (k + 1)) (lv' := [(3, .int (nI (k + 1))), (2, .int (nI k)), (5, .int (nI u)), (4, .int (bI (cb))), (0, .ref mo), (1, .ref sa)]) hx hb dX9_nextTask_106 hl (k := 3) rfl (nI_add _ 1) (by decide) rfl (fun ls hl => ?_)
                      refine lv_goto (tgt := 4) hx hb dX9_nextTask_109 (by decide) ?_
                      have e9 : nI (k) = iZ (oZ (some k)) := (iZ_n k)
                      have hl : lv_has ls 6 [(3, .int (nI (k + 1))), (2, .int (iZ (oZ (some k)))), (5, .int (nI u)), (4, .int (bI (cb))), (0, .ref mo), (1, .ref sa)] := by rw [← e9]; exact hl
                      exact ih4 (k + 1) (some k) (by omega) (nxt_c (hcan.symm.trans h78) (hm9.symm.trans ho) (by omega)) (by omega) _ _ hP hD hS _ (lv_sub hl [0, 1, 4, 5] rfl)
              · skip
                have h35 := (not_congr (cL (iZ_toInt (by omega) (by omega)) (nI_toInt (by omega)))).mp h35
                refine lv_iload hx hb dX9_nextTask_38 (lv_at hl 1 rfl) ?_
                refine lv_if_eq (tgt := 76) hx hb dX9_nextTask_40 (by decide) (fun h40 => ?_) (fun h40 => ?_)
                · skip
                  have h40 := bI_0.mp h40
                  have hcan := cb_can (T := T) hcb hu (Or.inr h40)
                  refine lv_iload hx hb dX9_nextTask_76 (lv_at hl 1 rfl) ?_
                  refine lv_if_eq (tgt := 104) hx hb dX9_nextTask_78 (by decide) (fun h78 => ?_) (fun h78 => ?_)
                  · skip
                    have h78 := bI_0.mp h78
                    refine lv_iload_n hx hb dX9_nextTask_104 rfl (lv_at hl 3 rfl) ?_
                    refine lv_istore_n (lv' := [(2, .int (iZ (oZ op))), (5, .int (nI u)), (4, .int (bI (cb))), (3, .int (nI k)), (0, .ref mo), (1, .ref sa)]) hx hb dX9_nextTask_105 rfl hl (by decide) rfl (fun ls hl => ?_)
                    refine lv_iinc (v := nI (k + 1)) (lv' := [(3, .int (nI (k + 1))), (2, .int (iZ (oZ op))), (5, .int (nI u)), (4, .int (bI (cb))), (0, .ref mo), (1, .ref sa)]) hx hb dX9_nextTask_106 hl (k := 3) rfl (nI_add _ 1) (by decide) rfl (fun ls hl => ?_)
                    refine lv_goto (tgt := 4) hx hb dX9_nextTask_109 (by decide) ?_
                    exact ih4 (k + 1) op (by omega) (nxt_a (hcan.symm.trans h78) ho) (by omega) _ _ hP hD hS _ (lv_sub hl [0, 1, 4, 5] rfl)
                  · skip
                    have h78 := bI_n0.mp h78
                    refine lv_iload_n hx hb dX9_nextTask_81 rfl (lv_at hl 3 rfl) ?_
                    have hq2 := oZ_rng (nxt_lt ho)
                    refine lv_if_lt (tgt := 100) hx hb dX9_nextTask_82 (by decide) (fun h82 => ?_) (fun h82 => ?_)
                    · skip
                      have h82 := (cT (iZ_toInt (by omega) (by omega)) z0_toInt).mp h82
                      refine lv_iload_n hx hb dX9_nextTask_100 rfl (lv_at hl 2 rfl) ?_
                      refine lv_goto (tgt := 105) hx hb dX9_nextTask_101 (by decide) ?_
                      refine lv_istore_n (lv' := [(2, .int (nI k)), (5, .int (nI u)), (4, .int (bI (cb))), (3, .int (nI k)), (0, .ref mo), (1, .ref sa)]) hx hb dX9_nextTask_105 rfl hl (by decide) rfl (fun ls hl => ?_)
                      refine lv_iinc (v := nI (k + 1)) (lv' := [(3, .int (nI (k + 1))), (2, .int (nI k)), (5, .int (nI u)), (4, .int (bI (cb))), (0, .ref mo), (1, .ref sa)]) hx hb dX9_nextTask_106 hl (k := 3) rfl (nI_add _ 1) (by decide) rfl (fun ls hl => ?_)
                      refine lv_goto (tgt := 4) hx hb dX9_nextTask_109 (by decide) ?_
                      have e9 : nI (k) = iZ (oZ (some k)) := (iZ_n k)
                      have hl : lv_has ls 6 [(3, .int (nI (k + 1))), (2, .int (iZ (oZ (some k)))), (5, .int (nI u)), (4, .int (bI (cb))), (0, .ref mo), (1, .ref sa)] := by rw [← e9]; exact hl
                      exact ih4 (k + 1) (some k) (by omega) (nxt_b (hcan.symm.trans h78) ho (oZ_none (by omega))) (by omega) _ _ hP hD hS _ (lv_sub hl [0, 1, 4, 5] rfl)
                    · skip
                      have h82 := (not_congr (cT (iZ_toInt (by omega) (by omega)) z0_toInt)).mp h82
                      obtain ⟨m, hm9⟩ := oZ_some (o := op) (by omega)
                      have hq3 := nxt_lt ho m hm9
                      have hq4 := hf k (by omega)
                      have hq5 := hf m (by omega)
                      have e9 : iZ (oZ op) = nI (m) := (by rw [hm9]; exact (iZ_n m).symm)
                      have hl : lv_has ls 6 [(5, .int (nI u)), (4, .int (bI (cb))), (3, .int (nI k)), (2, .int (nI m)), (0, .ref mo), (1, .ref sa)] := by rw [← e9]; exact hl
                      refine lv_aload_n hx hb dX9_nextTask_85 rfl (lv_at hl 4 rfl) ?_
                      refine va_get (D := D) (ci := 9) (v := .ref ng) (C := RX9) (T := TX9) (N := 16) hx hb hts inX9 hown hK hP 0 rfl rfl 11 (by decide) f28 (fun _ h9 => h9) rfl dX9_nextTask_86 ?_
                      refine lv_iload_n hx hb dX9_nextTask_89 rfl (lv_at hl 2 rfl) ?_
                      refine xr_iald hx hb hK hP 1 0 rfl rfl (by omega) (Nat.le_of_ble_eq_true rfl) (v := iZ (f k)) rfl dX9_nextTask_90 ?_
                      refine lv_aload_n hx hb dX9_nextTask_91 rfl (lv_at hl 4 rfl) ?_
                      refine va_get (D := D) (ci := 9) (v := .ref ng) (C := RX9) (T := TX9) (N := 16) hx hb hts inX9 hown hK hP 0 rfl rfl 11 (by decide) f28 (fun _ h9 => h9) rfl dX9_nextTask_92 ?_
                      refine lv_iload_n hx hb dX9_nextTask_95 rfl (lv_at hl 3 rfl) ?_
                      refine xr_iald hx hb hK hP 1 0 rfl rfl (by omega) (Nat.le_of_ble_eq_true rfl) (v := iZ (f m)) rfl dX9_nextTask_96 ?_
                      refine lv_icmp_ge (tgt := 104) hx hb dX9_nextTask_97 (by decide) (fun h97 => ?_) (fun h97 => ?_)
                      · skip
                        have h97 := (cL (iZ_toInt (by omega) (by omega)) (iZ_toInt (by omega) (by omega))).mp h97
                        refine lv_iload_n hx hb dX9_nextTask_104 rfl (lv_at hl 3 rfl) ?_
                        refine lv_istore_n (lv' := [(2, .int (nI m)), (5, .int (nI u)), (4, .int (bI (cb))), (3, .int (nI k)), (0, .ref mo), (1, .ref sa)]) hx hb dX9_nextTask_105 rfl hl (by decide) rfl (fun ls hl => ?_)
                        refine lv_iinc (v := nI (k + 1)) (lv' := [(3, .int (nI (k + 1))), (2, .int (nI m)), (5, .int (nI u)), (4, .int (bI (cb))), (0, .ref mo), (1, .ref sa)]) hx hb dX9_nextTask_106 hl (k := 3) rfl (nI_add _ 1) (by decide) rfl (fun ls hl => ?_)
                        refine lv_goto (tgt := 4) hx hb dX9_nextTask_109 (by decide) ?_
                        have e9 : nI (m) = iZ (oZ (some m)) := (iZ_n m)
                        have hl : lv_has ls 6 [(3, .int (nI (k + 1))), (2, .int (iZ (oZ (some m)))), (5, .int (nI u)), (4, .int (bI (cb))), (0, .ref mo), (1, .ref sa)] := by rw [← e9]; exact hl
                        exact ih4 (k + 1) (some m) (by omega) (nxt_d (hcan.symm.trans h78) (hm9.symm.trans ho) (by omega)) (by omega) _ _ hP hD hS _ (lv_sub hl [0, 1, 4, 5] rfl)
                      · skip
                        have h97 := (not_congr (cL (iZ_toInt (by omega) (by omega)) (iZ_toInt (by omega) (by omega)))).mp h97
                        refine lv_iload_n hx hb dX9_nextTask_100 rfl (lv_at hl 2 rfl) ?_
                        refine lv_goto (tgt := 105) hx hb dX9_nextTask_101 (by decide) ?_
                        refine lv_istore_n (lv' := [(2, .int (nI k)), (5, .int (nI u)), (4, .int (bI (cb))), (3, .int (nI k)), (0, .ref mo), (1, .ref sa)]) hx hb dX9_nextTask_105 rfl hl (by decide) rfl (fun ls hl => ?_)
                        refine lv_iinc (v := nI (k + 1)) (lv' := [(3, .int (nI (k + 1))), (2, .int (nI k)), (5, .int (nI u)), (4, .int (bI (cb))), (0, .ref mo), (1, .ref sa)]) hx hb dX9_nextTask_106 hl (k := 3) rfl (nI_add _ 1) (by decide) rfl (fun ls hl => ?_)
                        refine lv_goto (tgt := 4) hx hb dX9_nextTask_109 (by decide) ?_
                        have e9 : nI (k) = iZ (oZ (some k)) := (iZ_n k)
                        have hl : lv_has ls 6 [(3, .int (nI (k + 1))), (2, .int (iZ (oZ (some k)))), (5, .int (nI u)), (4, .int (bI (cb))), (0, .ref mo), (1, .ref sa)] := by rw [← e9]; exact hl
                        exact ih4 (k + 1) (some k) (by omega) (nxt_c (hcan.symm.trans h78) (hm9.symm.trans ho) (by omega)) (by omega) _ _ hP hD hS _ (lv_sub hl [0, 1, 4, 5] rfl)
                · skip
                  have h40 := bI_n0.mp h40
                  refine lv_aload_n hx hb dX9_nextTask_43 rfl (lv_at hl 5 rfl) ?_
                  refine lv_iload hx hb dX9_nextTask_44 (lv_at hl 0 rfl) ?_
                  refine lv_iload_n hx hb dX9_nextTask_46 rfl (lv_at hl 2 rfl) ?_
                  refine xk_pi (xk_S (As := [.ref sa, .int (nI u), .int (nI k)]) (rest := []) ⟨hx, hb, hml, hown, hts⟩ (mX9_lag l D ca H.size sa sv T C L N G u k hM (by omega)) (va_cwS 3 hts gX9_nextTask_X9_lag rfl rfl rfl (by decide +kernel) ⟨Nat.le_of_ble_eq_true rfl, Nat.le_of_ble_eq_true rfl⟩) hK hP hD [3] rfl rfl rfl hl.1 rfl (Nat.le_of_ble_eq_true rfl) dX9_nextTask_47 ⟨Nat.le_of_ble_eq_true rfl, Nat.le_of_ble_eq_true rfl⟩) hP hD hS hA [3] rfl ⟨rfl, rfl⟩ (fun r47 H locs hw47 hP hS => ?_)
                  have hw47 : r47 = iZ (G u k) := hw47
                  subst hw47
                  have hb2 := hG u k (by omega) (by omega)
                  refine lv_if_lt (tgt := 63) hx hb dX9_nextTask_50 (by decide) (fun h50 => ?_) (fun h50 => ?_)
                  · skip
                    have h50 := (cT (iZ_toInt (by omega) (by omega)) z0_toInt).mp h50
                    refine lv_iconst (v := nI (1)) hx hb dX9_nextTask_63 (by decide) ?_
                    refine lv_goto (tgt := 68) hx hb dX9_nextTask_64 (by decide) ?_
                    refine lv_istore (lv' := [(4, .int (nI 1)), (5, .int (nI u)), (3, .int (nI k)), (2, .int (iZ (oZ op))), (0, .ref mo), (1, .ref sa)]) hx hb dX9_nextTask_68 hl (by decide) rfl (fun ls hl => ?_)
                    refine lv_iinc (v := nI (u + 1)) (lv' := [(5, .int (nI (u + 1))), (4, .int (nI 1)), (3, .int (nI k)), (2, .int (iZ (oZ op))), (0, .ref mo), (1, .ref sa)]) hx hb dX9_nextTask_70 hl (k := 1) rfl (nI_add _ 1) (by decide) rfl (fun ls hl => ?_)
                    refine lv_goto (tgt := 30) hx hb dX9_nextTask_73 (by decide) ?_
                    exact ih30 (u + 1) true (by omega) (cb_s1 hcb h40 (Or.inl (by omega))) (by omega) _ _ hP hD hS _ (lv_sub hl [0, 1, 2, 3, 4, 5] rfl)
                  · skip
                    have h50 := (not_congr (cT (iZ_toInt (by omega) (by omega)) z0_toInt)).mp h50
                    refine lv_aload_n hx hb dX9_nextTask_53 rfl (lv_at hl 4 rfl) ?_
                    refine va_get (D := D) (ci := 9) (v := .ref nh) (C := RX9) (T := TX9) (N := 16) hx hb hts inX9 hown hK hP 0 rfl rfl 12 (by decide) f31 (fun _ h9 => h9) rfl dX9_nextTask_54 ?_
                    refine lv_iload hx hb dX9_nextTask_57 (lv_at hl 0 rfl) ?_
                    refine xr_iald hx hb hK hP 2 0 rfl rfl (by omega) (Nat.le_of_ble_eq_true rfl) (v := iZ (st u)) rfl dX9_nextTask_59 ?_
                    have hb3 := hst u (by omega)
                    refine lv_if_lt (tgt := 67) hx hb dX9_nextTask_60 (by decide) (fun h60 => ?_) (fun h60 => ?_)
                    · skip
                      have h60 := (cT (iZ_toInt (by omega) (by omega)) z0_toInt).mp h60
                      refine lv_iconst (v := nI (0)) hx hb dX9_nextTask_67 (by decide) ?_
                      refine lv_istore (lv' := [(4, .int (nI 0)), (5, .int (nI u)), (3, .int (nI k)), (2, .int (iZ (oZ op))), (0, .ref mo), (1, .ref sa)]) hx hb dX9_nextTask_68 hl (by decide) rfl (fun ls hl => ?_)
                      refine lv_iinc (v := nI (u + 1)) (lv' := [(5, .int (nI (u + 1))), (4, .int (nI 0)), (3, .int (nI k)), (2, .int (iZ (oZ op))), (0, .ref mo), (1, .ref sa)]) hx hb dX9_nextTask_70 hl (k := 1) rfl (nI_add _ 1) (by decide) rfl (fun ls hl => ?_)
                      refine lv_goto (tgt := 30) hx hb dX9_nextTask_73 (by decide) ?_
                      exact ih30 (u + 1) false (by omega) (cb_s0 (by omega) (by omega)) (by omega) _ _ hP hD hS _ (lv_sub hl [0, 1, 2, 3, 4, 5] rfl)
                    · skip
                      have h60 := (not_congr (cT (iZ_toInt (by omega) (by omega)) z0_toInt)).mp h60
                      refine lv_iconst (v := nI (1)) hx hb dX9_nextTask_63 (by decide) ?_
                      refine lv_goto (tgt := 68) hx hb dX9_nextTask_64 (by decide) ?_
                      refine lv_istore (lv' := [(4, .int (nI 1)), (5, .int (nI u)), (3, .int (nI k)), (2, .int (iZ (oZ op))), (0, .ref mo), (1, .ref sa)]) hx hb dX9_nextTask_68 hl (by decide) rfl (fun ls hl => ?_)
                      refine lv_iinc (v := nI (u + 1)) (lv' := [(5, .int (nI (u + 1))), (4, .int (nI 1)), (3, .int (nI k)), (2, .int (iZ (oZ op))), (0, .ref mo), (1, .ref sa)]) hx hb dX9_nextTask_70 hl (k := 1) rfl (nI_add _ 1) (by decide) rfl (fun ls hl => ?_)
                      refine lv_goto (tgt := 30) hx hb dX9_nextTask_73 (by decide) ?_
                      exact ih30 (u + 1) true (by omega) (cb_s1 hcb h40 (Or.inr (by omega))) (by omega) _ _ hP hD hS _ (lv_sub hl [0, 1, 2, 3, 4, 5] rfl)
          exact L30 _ 0 false (by omega) (cb_i0 (by omega)) (Nat.lt_succ_self _) _ _ hP hD hS _ (lv_sub hl [0, 1, 2, 3, 4, 5] rfl)
        · skip
          have h17 := (not_congr (cL z0_toInt (iZ_toInt (by omega) (by omega)))).mp h17
          refine lv_iconst (v := nI (1)) hx hb dX9_nextTask_20 (by decide) ?_
          refine lv_goto (tgt := 25) hx hb dX9_nextTask_21 (by decide) ?_
          refine lv_istore (lv' := [(4, .int (nI 1)), (3, .int (nI k)), (2, .int (iZ (oZ op))), (0, .ref mo), (1, .ref sa)]) hx hb dX9_nextTask_25 hl (by decide) rfl (fun ls hl => ?_)
          refine lv_iconst (v := nI (0)) hx hb dX9_nextTask_27 (by decide) ?_
          refine lv_istore (lv' := [(5, .int (nI 0)), (4, .int (nI 1)), (3, .int (nI k)), (2, .int (iZ (oZ op))), (0, .ref mo), (1, .ref sa)]) hx hb dX9_nextTask_28 hl (by decide) rfl (fun ls hl => ?_)
          have L30 : ∀ (fu : Nat) (u : Nat) (cb : Bool), (u ≤ T) → (cb = (decide (st k < 0) && allS G st k u)) → (T - u) < fu → ∀ (H : Heap) (locs : List Loc), va_P D vwCl [(mo, .inr (9, [.ref na, .ref nb, .ref nc, .ref nd, .int (bI (ms)), .int (nI mk), .ref ne, .int (nI my), .int (nI mt), .int (nI mp), .ref nf, .ref ng, .ref nh, .ref ni, .ref nj, .ref nl])), (ng, .inl (ca 0, 20, .inl (zF f))), (nh, .inl (ca 0, 20, .inl (zF st))), (sa, .inl (ca 0, 442, .inl (zF sv)))] H → va_D A [(mo, .inr (9, [.ref na, .ref nb, .ref nc, .ref nd, .int (bI (ms)), .int (nI mk), .ref ne, .int (nI my), .int (nI mt), .int (nI mp), .ref nf, .ref ng, .ref nh, .ref ni, .ref nj, .ref nl])), (ng, .inl (ca 0, 20, .inl (zF f))), (nh, .inl (ca 0, 20, .inl (zF st))), (sa, .inl (ca 0, 442, .inl (zF sv)))] → va_S A s.heap H locs → ∀ ls : Array Slot, lv_has ls 6 [(5, .int (nI u)), (4, .int (bI (cb))), (3, .int (nI k)), (2, .int (iZ (oZ op))), (0, .ref mo), (1, .ref sa)] → W pG l eV rX9_nextTask s mI args below meth cO H locs 0 0 Q (F0 mI 30 ls []) := by
            clear hP hD hS hl
            intro fu; induction fu with
            | zero => intro u cb hu hcb hmu; exact absurd hmu (Nat.not_lt_zero _)
            | succ n30 ih30 =>
              intro u cb hu hcb hmu30 H locs hP hD hS ls hl
              refine lv_iload hx hb dX9_nextTask_30 (lv_at hl 0 rfl) ?_
              refine lv_aload_n hx hb dX9_nextTask_32 rfl (lv_at hl 5 rfl) ?_
              refine lv_iconst (v := nI (0)) hx hb dX9_nextTask_33 (by decide) ?_
              refine xr_iald hx hb hK hP 3 0 rfl rfl (by omega) (Nat.le_of_ble_eq_true rfl) (v := iZ (sv 0)) rfl dX9_nextTask_34 ?_
              refine lv_icmp_ge (tgt := 76) hx hb dX9_nextTask_35 (by decide) (fun h35 => ?_) (fun h35 => ?_)
              · skip
                have h35 := (cL (iZ_toInt (by omega) (by omega)) (nI_toInt (by omega))).mp h35
                have hcan := cb_can (T := T) hcb hu (Or.inl (by omega))
                refine lv_iload hx hb dX9_nextTask_76 (lv_at hl 1 rfl) ?_
                refine lv_if_eq (tgt := 104) hx hb dX9_nextTask_78 (by decide) (fun h78 => ?_) (fun h78 => ?_)
                · skip
                  have h78 := bI_0.mp h78
                  refine lv_iload_n hx hb dX9_nextTask_104 rfl (lv_at hl 3 rfl) ?_
                  refine lv_istore_n (lv' := [(2, .int (iZ (oZ op))), (5, .int (nI u)), (4, .int (bI (cb))), (3, .int (nI k)), (0, .ref mo), (1, .ref sa)]) hx hb dX9_nextTask_105 rfl hl (by decide) rfl (fun ls hl => ?_)
                  refine lv_iinc (v := nI (k + 1)) (lv' := [(3, .int (nI (k + 1))), (2, .int (iZ (oZ op))), (5, .int (nI u)), (4, .int (bI (cb))), (0, .ref mo), (1, .ref sa)]) hx hb dX9_nextTask_106 hl (k := 3) rfl (nI_add _ 1) (by decide) rfl (fun ls hl => ?_)
                  refine lv_goto (tgt := 4) hx hb dX9_nextTask_109 (by decide) ?_
                  exact ih4 (k + 1) op (by omega) (nxt_a (hcan.symm.trans h78) ho) (by omega) _ _ hP hD hS _ (lv_sub hl [0, 1, 4, 5] rfl)
                · skip
                  have h78 := bI_n0.mp h78
                  refine lv_iload_n hx hb dX9_nextTask_81 rfl (lv_at hl 3 rfl) ?_
                  have hq2 := oZ_rng (nxt_lt ho)
                  refine lv_if_lt (tgt := 100) hx hb dX9_nextTask_82 (by decide) (fun h82 => ?_) (fun h82 => ?_)
                  · skip
                    have h82 := (cT (iZ_toInt (by omega) (by omega)) z0_toInt).mp h82
                    refine lv_iload_n hx hb dX9_nextTask_100 rfl (lv_at hl 2 rfl) ?_
                    refine lv_goto (tgt := 105) hx hb dX9_nextTask_101 (by decide) ?_
                    refine lv_istore_n (lv' := [(2, .int (nI k)), (5, .int (nI u)), (4, .int (bI (cb))), (3, .int (nI k)), (0, .ref mo), (1, .ref sa)]) hx hb dX9_nextTask_105 rfl hl (by decide) rfl (fun ls hl => ?_)
                    refine lv_iinc (v := nI (k + 1)) (lv' := [(3, .int (nI (k + 1))), (2, .int (nI k)), (5, .int (nI u)), (4, .int (bI (cb))), (0, .ref mo), (1, .ref sa)]) hx hb dX9_nextTask_106 hl (k := 3) rfl (nI_add _ 1) (by decide) rfl (fun ls hl => ?_)
                    refine lv_goto (tgt := 4) hx hb dX9_nextTask_109 (by decide) ?_
                    have e9 : nI (k) = iZ (oZ (some k)) := (iZ_n k)
                    have hl : lv_has ls 6 [(3, .int (nI (k + 1))), (2, .int (iZ (oZ (some k)))), (5, .int (nI u)), (4, .int (bI (cb))), (0, .ref mo), (1, .ref sa)] := by rw [← e9]; exact hl
                    exact ih4 (k + 1) (some k) (by omega) (nxt_b (hcan.symm.trans h78) ho (oZ_none (by omega))) (by omega) _ _ hP hD hS _ (lv_sub hl [0, 1, 4, 5] rfl)
                  · skip
                    have h82 := (not_congr (cT (iZ_toInt (by omega) (by omega)) z0_toInt)).mp h82
                    obtain ⟨m, hm9⟩ := oZ_some (o := op) (by omega)
                    have hq3 := nxt_lt ho m hm9
                    have hq4 := hf k (by omega)
                    have hq5 := hf m (by omega)
                    have e9 : iZ (oZ op) = nI (m) := (by rw [hm9]; exact (iZ_n m).symm)
                    have hl : lv_has ls 6 [(5, .int (nI u)), (4, .int (bI (cb))), (3, .int (nI k)), (2, .int (nI m)), (0, .ref mo), (1, .ref sa)] := by rw [← e9]; exact hl
                    refine lv_aload_n hx hb dX9_nextTask_85 rfl (lv_at hl 4 rfl) ?_
                    refine va_get (D := D) (ci := 9) (v := .ref ng) (C := RX9) (T := TX9) (N := 16) hx hb hts inX9 hown hK hP 0 rfl rfl 11 (by decide) f28 (fun _ h9 => h9) rfl dX9_nextTask_86 ?_
                    refine lv_iload_n hx hb dX9_nextTask_89 rfl (lv_at hl 2 rfl) ?_
                    refine xr_iald hx hb hK hP 1 0 rfl rfl (by omega) (Nat.le_of_ble_eq_true rfl) (v := iZ (f k)) rfl dX9_nextTask_90 ?_
                    refine lv_aload_n hx hb dX9_nextTask_91 rfl (lv_at hl 4 rfl) ?_
                    refine va_get (D := D) (ci := 9) (v := .ref ng) (C := RX9) (T := TX9) (N := 16) hx hb hts inX9 hown hK hP 0 rfl rfl 11 (by decide) f28 (fun _ h9 => h9) rfl dX9_nextTask_92 ?_
                    refine lv_iload_n hx hb dX9_nextTask_95 rfl (lv_at hl 3 rfl) ?_
                    refine xr_iald hx hb hK hP 1 0 rfl rfl (by omega) (Nat.le_of_ble_eq_true rfl) (v := iZ (f m)) rfl dX9_nextTask_96 ?_
                    refine lv_icmp_ge (tgt := 104) hx hb dX9_nextTask_97 (by decide) (fun h97 => ?_) (fun h97 => ?_)
                    · skip
                      have h97 := (cL (iZ_toInt (by omega) (by omega)) (iZ_toInt (by omega) (by omega))).mp h97
                      refine lv_iload_n hx hb dX9_nextTask_104 rfl (lv_at hl 3 rfl) ?_
                      refine lv_istore_n (lv' := [(2, .int (nI m)), (5, .int (nI u)), (4, .int (bI (cb))), (3, .int (nI k)), (0, .ref mo), (1, .ref sa)]) hx hb dX9_nextTask_105 rfl hl (by decide) rfl (fun ls hl => ?_)
                      refine lv_iinc (v := nI (k + 1)) (lv' := [(3, .int (nI (k + 1))), (2, .int (nI m)), (5, .int (nI u)), (4, .int (bI (cb))), (0, .ref mo), (1, .ref sa)]) hx hb dX9_nextTask_106 hl (k := 3) rfl (nI_add _ 1) (by decide) rfl (fun ls hl => ?_)
                      refine lv_goto (tgt := 4) hx hb dX9_nextTask_109 (by decide) ?_
                      have e9 : nI (m) = iZ (oZ (some m)) := (iZ_n m)
                      have hl : lv_has ls 6 [(3, .int (nI (k + 1))), (2, .int (iZ (oZ (some m)))), (5, .int (nI u)), (4, .int (bI (cb))), (0, .ref mo), (1, .ref sa)] := by rw [← e9]; exact hl
                      exact ih4 (k + 1) (some m) (by omega) (nxt_d (hcan.symm.trans h78) (hm9.symm.trans ho) (by omega)) (by omega) _ _ hP hD hS _ (lv_sub hl [0, 1, 4, 5] rfl)
                    · skip
                      have h97 := (not_congr (cL (iZ_toInt (by omega) (by omega)) (iZ_toInt (by omega) (by omega)))).mp h97
                      refine lv_iload_n hx hb dX9_nextTask_100 rfl (lv_at hl 2 rfl) ?_
                      refine lv_goto (tgt := 105) hx hb dX9_nextTask_101 (by decide) ?_
                      refine lv_istore_n (lv' := [(2, .int (nI k)), (5, .int (nI u)), (4, .int (bI (cb))), (3, .int (nI k)), (0, .ref mo), (1, .ref sa)]) hx hb dX9_nextTask_105 rfl hl (by decide) rfl (fun ls hl => ?_)
                      refine lv_iinc (v := nI (k + 1)) (lv' := [(3, .int (nI (k + 1))), (2, .int (nI k)), (5, .int (nI u)), (4, .int (bI (cb))), (0, .ref mo), (1, .ref sa)]) hx hb dX9_nextTask_106 hl (k := 3) rfl (nI_add _ 1) (by decide) rfl (fun ls hl => ?_)
                      refine lv_goto (tgt := 4) hx hb dX9_nextTask_109 (by decide) ?_
                      have e9 : nI (k) = iZ (oZ (some k)) := (iZ_n k)
                      have hl : lv_has ls 6 [(3, .int (nI (k + 1))), (2, .int (iZ (oZ (some k)))), (5, .int (nI u)), (4, .int (bI (cb))), (0, .ref mo), (1, .ref sa)] := by rw [← e9]; exact hl
                      exact ih4 (k + 1) (some k) (by omega) (nxt_c (hcan.symm.trans h78) (hm9.symm.trans ho) (by omega)) (by omega) _ _ hP hD hS _ (lv_sub hl [0, 1, 4, 5] rfl)
              · skip
                have h35 := (not_congr (cL (iZ_toInt (by omega) (by omega)) (nI_toInt (by omega)))).mp h35
                refine lv_iload hx hb dX9_nextTask_38 (lv_at hl 1 rfl) ?_
                refine lv_if_eq (tgt := 76) hx hb dX9_nextTask_40 (by decide) (fun h40 => ?_) (fun h40 => ?_)
                · skip
                  have h40 := bI_0.mp h40
                  have hcan := cb_can (T := T) hcb hu (Or.inr h40)
                  refine lv_iload hx hb dX9_nextTask_76 (lv_at hl 1 rfl) ?_
                  refine lv_if_eq (tgt := 104) hx hb dX9_nextTask_78 (by decide) (fun h78 => ?_) (fun h78 => ?_)
                  · skip
                    have h78 := bI_0.mp h78
                    refine lv_iload_n hx hb dX9_nextTask_104 rfl (lv_at hl 3 rfl) ?_
                    refine lv_istore_n (lv' := [(2, .int (iZ (oZ op))), (5, .int (nI u)), (4, .int (bI (cb))), (3, .int (nI k)), (0, .ref mo), (1, .ref sa)]) hx hb dX9_nextTask_105 rfl hl (by decide) rfl (fun ls hl => ?_)
                    refine lv_iinc (v := nI (k + 1)) (lv' := [(3, .int (nI (k + 1))), (2, .int (iZ (oZ op))), (5, .int (nI u)), (4, .int (bI (cb))), (0, .ref mo), (1, .ref sa)]) hx hb dX9_nextTask_106 hl (k := 3) rfl (nI_add _ 1) (by decide) rfl (fun ls hl => ?_)
                    refine lv_goto (tgt := 4) hx hb dX9_nextTask_109 (by decide) ?_
                    exact ih4 (k + 1) op (by omega) (nxt_a (hcan.symm.trans h78) ho) (by omega) _ _ hP hD hS _ (lv_sub hl [0, 1, 4, 5] rfl)
                  · skip
                    have h78 := bI_n0.mp h78
                    refine lv_iload_n hx hb dX9_nextTask_81 rfl (lv_at hl 3 rfl) ?_
                    have hq2 := oZ_rng (nxt_lt ho)
                    refine lv_if_lt (tgt := 100) hx hb dX9_nextTask_82 (by decide) (fun h82 => ?_) (fun h82 => ?_)
                    · skip
                      have h82 := (cT (iZ_toInt (by omega) (by omega)) z0_toInt).mp h82
                      refine lv_iload_n hx hb dX9_nextTask_100 rfl (lv_at hl 2 rfl) ?_
                      refine lv_goto (tgt := 105) hx hb dX9_nextTask_101 (by decide) ?_
                      refine lv_istore_n (lv' := [(2, .int (nI k)), (5, .int (nI u)), (4, .int (bI (cb))), (3, .int (nI k)), (0, .ref mo), (1, .ref sa)]) hx hb dX9_nextTask_105 rfl hl (by decide) rfl (fun ls hl => ?_)
                      refine lv_iinc (v := nI (k + 1)) (lv' := [(3, .int (nI (k + 1))), (2, .int (nI k)), (5, .int (nI u)), (4, .int (bI (cb))), (0, .ref mo), (1, .ref sa)]) hx hb dX9_nextTask_106 hl (k := 3) rfl (nI_add _ 1) (by decide) rfl (fun ls hl => ?_)
                      refine lv_goto (tgt := 4) hx hb dX9_nextTask_109 (by decide) ?_
                      have e9 : nI (k) = iZ (oZ (some k)) := (iZ_n k)
                      have hl : lv_has ls 6 [(3, .int (nI (k + 1))), (2, .int (iZ (oZ (some k)))), (5, .int (nI u)), (4, .int (bI (cb))), (0, .ref mo), (1, .ref sa)] := by rw [← e9]; exact hl
                      exact ih4 (k + 1) (some k) (by omega) (nxt_b (hcan.symm.trans h78) ho (oZ_none (by omega))) (by omega) _ _ hP hD hS _ (lv_sub hl [0, 1, 4, 5] rfl)
                    · skip
                      have h82 := (not_congr (cT (iZ_toInt (by omega) (by omega)) z0_toInt)).mp h82
                      obtain ⟨m, hm9⟩ := oZ_some (o := op) (by omega)
                      have hq3 := nxt_lt ho m hm9
                      have hq4 := hf k (by omega)
                      have hq5 := hf m (by omega)
                      have e9 : iZ (oZ op) = nI (m) := (by rw [hm9]; exact (iZ_n m).symm)
                      have hl : lv_has ls 6 [(5, .int (nI u)), (4, .int (bI (cb))), (3, .int (nI k)), (2, .int (nI m)), (0, .ref mo), (1, .ref sa)] := by rw [← e9]; exact hl
                      refine lv_aload_n hx hb dX9_nextTask_85 rfl (lv_at hl 4 rfl) ?_
                      refine va_get (D := D) (ci := 9) (v := .ref ng) (C := RX9) (T := TX9) (N := 16) hx hb hts inX9 hown hK hP 0 rfl rfl 11 (by decide) f28 (fun _ h9 => h9) rfl dX9_nextTask_86 ?_
                      refine lv_iload_n hx hb dX9_nextTask_89 rfl (lv_at hl 2 rfl) ?_
                      refine xr_iald hx hb hK hP 1 0 rfl rfl (by omega) (Nat.le_of_ble_eq_true rfl) (v := iZ (f k)) rfl dX9_nextTask_90 ?_
                      refine lv_aload_n hx hb dX9_nextTask_91 rfl (lv_at hl 4 rfl) ?_
                      refine va_get (D := D) (ci := 9) (v := .ref ng) (C := RX9) (T := TX9) (N := 16) hx hb hts inX9 hown hK hP 0 rfl rfl 11 (by decide) f28 (fun _ h9 => h9) rfl dX9_nextTask_92 ?_
                      refine lv_iload_n hx hb dX9_nextTask_95 rfl (lv_at hl 3 rfl) ?_
                      refine xr_iald hx hb hK hP 1 0 rfl rfl (by omega) (Nat.le_of_ble_eq_true rfl) (v := iZ (f m)) rfl dX9_nextTask_96 ?_
                      refine lv_icmp_ge (tgt := 104) hx hb dX9_nextTask_97 (by decide) (fun h97 => ?_) (fun h97 => ?_)
                      · skip
                        have h97 := (cL (iZ_toInt (by omega) (by omega)) (iZ_toInt (by omega) (by omega))).mp h97
                        refine lv_iload_n hx hb dX9_nextTask_104 rfl (lv_at hl 3 rfl) ?_
                        refine lv_istore_n (lv' := [(2, .int (nI m)), (5, .int (nI u)), (4, .int (bI (cb))), (3, .int (nI k)), (0, .ref mo), (1, .ref sa)]) hx hb dX9_nextTask_105 rfl hl (by decide) rfl (fun ls hl => ?_)
                        refine lv_iinc (v := nI (k + 1)) (lv' := [(3, .int (nI (k + 1))), (2, .int (nI m)), (5, .int (nI u)), (4, .int (bI (cb))), (0, .ref mo), (1, .ref sa)]) hx hb dX9_nextTask_106 hl (k := 3) rfl (nI_add _ 1) (by decide) rfl (fun ls hl => ?_)
                        refine lv_goto (tgt := 4) hx hb dX9_nextTask_109 (by decide) ?_
                        have e9 : nI (m) = iZ (oZ (some m)) := (iZ_n m)
                        have hl : lv_has ls 6 [(3, .int (nI (k + 1))), (2, .int (iZ (oZ (some m)))), (5, .int (nI u)), (4, .int (bI (cb))), (0, .ref mo), (1, .ref sa)] := by rw [← e9]; exact hl
                        exact ih4 (k + 1) (some m) (by omega) (nxt_d (hcan.symm.trans h78) (hm9.symm.trans ho) (by omega)) (by omega) _ _ hP hD hS _ (lv_sub hl [0, 1, 4, 5] rfl)
                      · skip
                        have h97 := (not_congr (cL (iZ_toInt (by omega) (by omega)) (iZ_toInt (by omega) (by omega)))).mp h97
                        refine lv_iload_n hx hb dX9_nextTask_100 rfl (lv_at hl 2 rfl) ?_
                        refine lv_goto (tgt := 105) hx hb dX9_nextTask_101 (by decide) ?_
                        refine lv_istore_n (lv' := [(2, .int (nI k)), (5, .int (nI u)), (4, .int (bI (cb))), (3, .int (nI k)), (0, .ref mo), (1, .ref sa)]) hx hb dX9_nextTask_105 rfl hl (by decide) rfl (fun ls hl => ?_)
                        refine lv_iinc (v := nI (k + 1)) (lv' := [(3, .int (nI (k + 1))), (2, .int (nI k)), (5, .int (nI u)), (4, .int (bI (cb))), (0, .ref mo), (1, .ref sa)]) hx hb dX9_nextTask_106 hl (k := 3) rfl (nI_add _ 1) (by decide) rfl (fun ls hl => ?_)
                        refine lv_goto (tgt := 4) hx hb dX9_nextTask_109 (by decide) ?_
                        have e9 : nI (k) = iZ (oZ (some k)) := (iZ_n k)
                        have hl : lv_has ls 6 [(3, .int (nI (k + 1))), (2, .int (iZ (oZ (some k)))), (5, .int (nI u)), (4, .int (bI (cb))), (0, .ref mo), (1, .ref sa)] := by rw [← e9]; exact hl
                        exact ih4 (k + 1) (some k) (by omega) (nxt_c (hcan.symm.trans h78) (hm9.symm.trans ho) (by omega)) (by omega) _ _ hP hD hS _ (lv_sub hl [0, 1, 4, 5] rfl)
                · skip
                  have h40 := bI_n0.mp h40
                  refine lv_aload_n hx hb dX9_nextTask_43 rfl (lv_at hl 5 rfl) ?_
                  refine lv_iload hx hb dX9_nextTask_44 (lv_at hl 0 rfl) ?_
                  refine lv_iload_n hx hb dX9_nextTask_46 rfl (lv_at hl 2 rfl) ?_
                  refine xk_pi (xk_S (As := [.ref sa, .int (nI u), .int (nI k)]) (rest := []) ⟨hx, hb, hml, hown, hts⟩ (mX9_lag l D ca H.size sa sv T C L N G u k hM (by omega)) (va_cwS 3 hts gX9_nextTask_X9_lag rfl rfl rfl (by decide +kernel) ⟨Nat.le_of_ble_eq_true rfl, Nat.le_of_ble_eq_true rfl⟩) hK hP hD [3] rfl rfl rfl hl.1 rfl (Nat.le_of_ble_eq_true rfl) dX9_nextTask_47 ⟨Nat.le_of_ble_eq_true rfl, Nat.le_of_ble_eq_true rfl⟩) hP hD hS hA [3] rfl ⟨rfl, rfl⟩ (fun r47 H locs hw47 hP hS => ?_)
                  have hw47 : r47 = iZ (G u k) := hw47
                  subst hw47
                  have hb2 := hG u k (by omega) (by omega)
                  refine lv_if_lt (tgt := 63) hx hb dX9_nextTask_50 (by decide) (fun h50 => ?_) (fun h50 => ?_)
                  · skip
                    have h50 := (cT (iZ_toInt (by omega) (by omega)) z0_toInt).mp h50
                    refine lv_iconst (v := nI (1)) hx hb dX9_nextTask_63 (by decide) ?_
                    refine lv_goto (tgt := 68) hx hb dX9_nextTask_64 (by decide) ?_
                    refine lv_istore (lv' := [(4, .int (nI 1)), (5, .int (nI u)), (3, .int (nI k)), (2, .int (iZ (oZ op))), (0, .ref mo), (1, .ref sa)]) hx hb dX9_nextTask_68 hl (by decide) rfl (fun ls hl => ?_)
                    refine lv_iinc (v := nI (u + 1)) (lv' := [(5, .int (nI (u + 1))), (4, .int (nI 1)), (3, .int (nI k)), (2, .int (iZ (oZ op))), (0, .ref mo), (1, .ref sa)]) hx hb dX9_nextTask_70 hl (k := 1) rfl (nI_add _ 1) (by decide) rfl (fun ls hl => ?_)
                    refine lv_goto (tgt := 30) hx hb dX9_nextTask_73 (by decide) ?_
                    exact ih30 (u + 1) true (by omega) (cb_s1 hcb h40 (Or.inl (by omega))) (by omega) _ _ hP hD hS _ (lv_sub hl [0, 1, 2, 3, 4, 5] rfl)
                  · skip
                    have h50 := (not_congr (cT (iZ_toInt (by omega) (by omega)) z0_toInt)).mp h50
                    refine lv_aload_n hx hb dX9_nextTask_53 rfl (lv_at hl 4 rfl) ?_
                    refine va_get (D := D) (ci := 9) (v := .ref nh) (C := RX9) (T := TX9) (N := 16) hx hb hts inX9 hown hK hP 0 rfl rfl 12 (by decide) f31 (fun _ h9 => h9) rfl dX9_nextTask_54 ?_
                    refine lv_iload hx hb dX9_nextTask_57 (lv_at hl 0 rfl) ?_
                    refine xr_iald hx hb hK hP 2 0 rfl rfl (by omega) (Nat.le_of_ble_eq_true rfl) (v := iZ (st u)) rfl dX9_nextTask_59 ?_
                    have hb3 := hst u (by omega)
                    refine lv_if_lt (tgt := 67) hx hb dX9_nextTask_60 (by decide) (fun h60 => ?_) (fun h60 => ?_)
                    · skip
                      have h60 := (cT (iZ_toInt (by omega) (by omega)) z0_toInt).mp h60
                      refine lv_iconst (v := nI (0)) hx hb dX9_nextTask_67 (by decide) ?_
                      refine lv_istore (lv' := [(4, .int (nI 0)), (5, .int (nI u)), (3, .int (nI k)), (2, .int (iZ (oZ op))), (0, .ref mo), (1, .ref sa)]) hx hb dX9_nextTask_68 hl (by decide) rfl (fun ls hl => ?_)
                      refine lv_iinc (v := nI (u + 1)) (lv' := [(5, .int (nI (u + 1))), (4, .int (nI 0)), (3, .int (nI k)), (2, .int (iZ (oZ op))), (0, .ref mo), (1, .ref sa)]) hx hb dX9_nextTask_70 hl (k := 1) rfl (nI_add _ 1) (by decide) rfl (fun ls hl => ?_)
                      refine lv_goto (tgt := 30) hx hb dX9_nextTask_73 (by decide) ?_
                      exact ih30 (u + 1) false (by omega) (cb_s0 (by omega) (by omega)) (by omega) _ _ hP hD hS _ (lv_sub hl [0, 1, 2, 3, 4, 5] rfl)
                    · skip
                      have h60 := (not_congr (cT (iZ_toInt (by omega) (by omega)) z0_toInt)).mp h60
                      refine lv_iconst (v := nI (1)) hx hb dX9_nextTask_63 (by decide) ?_
                      refine lv_goto (tgt := 68) hx hb dX9_nextTask_64 (by decide) ?_
                      refine lv_istore (lv' := [(4, .int (nI 1)), (5, .int (nI u)), (3, .int (nI k)), (2, .int (iZ (oZ op))), (0, .ref mo), (1, .ref sa)]) hx hb dX9_nextTask_68 hl (by decide) rfl (fun ls hl => ?_)
                      refine lv_iinc (v := nI (u + 1)) (lv' := [(5, .int (nI (u + 1))), (4, .int (nI 1)), (3, .int (nI k)), (2, .int (iZ (oZ op))), (0, .ref mo), (1, .ref sa)]) hx hb dX9_nextTask_70 hl (k := 1) rfl (nI_add _ 1) (by decide) rfl (fun ls hl => ?_)
                      refine lv_goto (tgt := 30) hx hb dX9_nextTask_73 (by decide) ?_
                      exact ih30 (u + 1) true (by omega) (cb_s1 hcb h40 (Or.inr (by omega))) (by omega) _ _ hP hD hS _ (lv_sub hl [0, 1, 2, 3, 4, 5] rfl)
          exact L30 _ 0 true (by omega) (cb_i1 (by omega)) (Nat.lt_succ_self _) _ _ hP hD hS _ (lv_sub hl [0, 1, 2, 3, 4, 5] rfl)
  exact L4 _ 0 none (by omega) rfl (Nat.lt_succ_self _) _ _ hP hD hS _ (lv_sub hl [0, 1, 2, 3] rfl)
def rX9_firstDay : Room := { frames := 1, cells := 0, slots := 0, locals := 25 }
set_option maxHeartbeats 4000000 in
set_option maxRecDepth 100000 in
theorem mX9_firstDay (l : Launch) (D : va_G) (ca : Nat → ClassId) (sz : Nat) (mo : Nat) (na : Nat) (nb : Nat) (nc : Nat) (nd : Nat) (ne : Nat) (nf : Nat) (ng : Nat) (nh : Nat) (ni : Nat) (nj : Nat) (nl : Nat) (ms : Bool) (mk : Nat) (my : Nat) (mt : Nat) (mp : Nat) (sa : Nat) (sv : Nat → Int) (st : Nat → Int) (T : Nat) (C : Int) (L : Nat → Int) (N : Nat → Int) (G : Nat → Nat → Int) (t : Nat) (k : Nat) (hT : T ≤ 20) (hG : GOK G) (hM : MS sv T C L N G) (hL30 : L30 T L) (hNk : NOK T N) (hC9 : 1 ≤ C ∧ C ≤ 9) (hk : k < 20) (hX : CX G T L k st) (ht : t < T) (hcan : canB G T st t = true) (hNC : N t ≤ C) : MM l yX9_firstDay wsX9_firstDay rX9_firstDay D ca [.ref mo, .ref sa, .int (nI t)] sz [(mo, .inr (9, [.ref na, .ref nb, .ref nc, .ref nd, .int (bI (ms)), .int (nI mk), .ref ne, .int (nI my), .int (nI mt), .int (nI mp), .ref nf, .ref ng, .ref nh, .ref ni, .ref nj, .ref nl])), (nh, .inl (ca 0, 20, .inl (zF st))), (sa, .inl (ca 0, 442, .inl (zF sv)))] (QI D ca (fun (r : Int32) (u : Unit) => r = nI (fd G T L N C st t) ∧ FDW (fun x => bsy L N st (x : Int) T) (C - N t) (L t).toNat (bsP G L st t T).toNat (fd G T L N C st t) ∧ fd G T L N C st t ≤ 39 * k + 9) (fun _ => [(mo, .inr (9, [.ref na, .ref nb, .ref nc, .ref nd, .int (bI (ms)), .int (nI mk), .ref ne, .int (nI my), .int (nI mt), .int (nI mp), .ref nf, .ref ng, .ref nh, .ref ni, .ref nj, .ref nl])), (nh, .inl (ca 0, 20, .inl (zF st))), (sa, .inl (ca 0, 442, .inl (zF sv)))])) := by
  refine MM_of (cc := cX9_firstDay) (maxL := 6) (ret := (some .int)) (lv0 := [(0, .ref mo), (1, .ref sa), (2, .int (nI t))]) RX9 (by decide) rfl rfl (Nat.le_of_ble_eq_true rfl) rfl ?_
  intro pG eV s mI args below meth cO hx hb hr hml hts hown hlocks hnm A hA H locs hsz hP hK hD hS Q hE ls hl
  have f31 := hts (.fieldLink RX9 31 "SlackPlanModel" "start" "[I") (List.mem_of_getElem? (i := 1) rfl)
  have inX9 : ∀ w ∈ u_ws RX9 TX9 16, w ∈ wsX9_firstDay := in_r _ [10, 11, 12, 13, 14, 15, 16, 17, 18, 19, 20, 21, 22, 23, 24, 25] rfl
  have hst : ∀ t, t < T → -1 ≤ st t ∧ st t ≤ 1000 := fun j hj => by have a1 := hX.2.1 j hj; have a2 := hX.2.2.1 j hj; have a3 := hL30 j hj; omega
  have hfree : ∀ x, 39 * k + 9 ≤ x → x < 1000 → (fun x : Nat => bsy L N st (x : Int) T) x ≤ C - N t := fun x h1 h2 => by have a1 := CX_free (N := N) hX hL30 h1 h2; show bsy L N st (x : Int) T ≤ C - N t; omega
  refine lv_iconst (v := iZ 0) hx hb dX9_firstDay_0 (by decide) ?_
  refine lv_istore_n (lv' := [(3, .int (iZ 0)), (0, .ref mo), (1, .ref sa), (2, .int (nI t))]) hx hb dX9_firstDay_1 rfl hl (by decide) rfl (fun ls hl => ?_)
  refine lv_iconst (v := nI (0)) hx hb dX9_firstDay_2 (by decide) ?_
  refine lv_istore (lv' := [(4, .int (nI 0)), (3, .int (iZ 0)), (0, .ref mo), (1, .ref sa), (2, .int (nI t))]) hx hb dX9_firstDay_3 hl (by decide) rfl (fun ls hl => ?_)
  have L5 : ∀ (fu : Nat) (j : Nat) (dz : Int), (j ≤ T) → (dz = bsP G L st t j) → (T - j) < fu → ∀ (H : Heap) (locs : List Loc), va_P D vwCl [(mo, .inr (9, [.ref na, .ref nb, .ref nc, .ref nd, .int (bI (ms)), .int (nI mk), .ref ne, .int (nI my), .int (nI mt), .int (nI mp), .ref nf, .ref ng, .ref nh, .ref ni, .ref nj, .ref nl])), (nh, .inl (ca 0, 20, .inl (zF st))), (sa, .inl (ca 0, 442, .inl (zF sv)))] H → va_D A [(mo, .inr (9, [.ref na, .ref nb, .ref nc, .ref nd, .int (bI (ms)), .int (nI mk), .ref ne, .int (nI my), .int (nI mt), .int (nI mp), .ref nf, .ref ng, .ref nh, .ref ni, .ref nj, .ref nl])), (nh, .inl (ca 0, 20, .inl (zF st))), (sa, .inl (ca 0, 442, .inl (zF sv)))] → va_S A s.heap H locs → ∀ ls : Array Slot, lv_has ls 6 [(4, .int (nI j)), (3, .int (iZ dz)), (0, .ref mo), (1, .ref sa), (2, .int (nI t))] → W pG l eV rX9_firstDay s mI args below meth cO H locs 0 0 Q (F0 mI 5 ls []) := by
    clear hP hD hS hl
    intro fu; induction fu with
    | zero => intro j dz hj hdz hmu; exact absurd hmu (Nat.not_lt_zero _)
    | succ n5 ih5 =>
      intro j dz hj hdz hmu5 H locs hP hD hS ls hl
      have hs0 := hM.1
      refine lv_iload hx hb dX9_firstDay_5 (lv_at hl 0 rfl) ?_
      refine lv_aload_n hx hb dX9_firstDay_7 rfl (lv_at hl 3 rfl) ?_
      refine lv_iconst (v := nI (0)) hx hb dX9_firstDay_8 (by decide) ?_
      refine xr_iald hx hb hK hP 2 0 rfl rfl (by omega) (Nat.le_of_ble_eq_true rfl) (v := iZ (sv 0)) rfl dX9_firstDay_9 ?_
      refine lv_icmp_ge (tgt := 66) hx hb dX9_firstDay_10 (by decide) (fun h10 => ?_) (fun h10 => ?_)
      · skip
        have h10 := (cL (iZ_toInt (by omega) (by omega)) (nI_toInt (by omega))).mp h10
        have hb7 := bsP_0 (G := G) (L := L) (st := st) (t := t) j
        have hb8 := (CI_fr (CX_CI (N := N) hX) hT hG hk ht hcan).2.1
        have hb9 : dz = bsP G L st t T := by rw [hdz, show j = T by omega]
        refine lv_iconst (v := nI (0)) hx hb dX9_firstDay_66 (by decide) ?_
        refine lv_istore (lv' := [(4, .int (nI 0)), (3, .int (iZ dz)), (0, .ref mo), (1, .ref sa), (2, .int (nI t))]) hx hb dX9_firstDay_67 hl (by decide) rfl (fun ls hl => ?_)
        refine lv_iload_n hx hb dX9_firstDay_69 rfl (lv_at hl 1 rfl) ?_
        refine xr_top (y := nI (dz.toNat)) (by rw [iZ_n]; exact congrArg iZ (by omega)) ?_
        refine lv_istore (lv' := [(5, .int (nI dz.toNat)), (4, .int (nI 0)), (3, .int (iZ dz)), (0, .ref mo), (1, .ref sa), (2, .int (nI t))]) hx hb dX9_firstDay_70 hl (by decide) rfl (fun ls hl => ?_)
        have L72 : ∀ (fu : Nat) (fr : Nat) (it : Nat), (fr ≤ it ∧ it ≤ 1000) → (LSs (fun x => bsy L N st (x : Int) T) (C - N t) (L t).toNat (bsP G L st t T).toNat (39 * k + 9) it (it - fr)) → (1000 - it) < fu → ∀ (H : Heap) (locs : List Loc), va_P D vwCl [(mo, .inr (9, [.ref na, .ref nb, .ref nc, .ref nd, .int (bI (ms)), .int (nI mk), .ref ne, .int (nI my), .int (nI mt), .int (nI mp), .ref nf, .ref ng, .ref nh, .ref ni, .ref nj, .ref nl])), (nh, .inl (ca 0, 20, .inl (zF st))), (sa, .inl (ca 0, 442, .inl (zF sv)))] H → va_D A [(mo, .inr (9, [.ref na, .ref nb, .ref nc, .ref nd, .int (bI (ms)), .int (nI mk), .ref ne, .int (nI my), .int (nI mt), .int (nI mp), .ref nf, .ref ng, .ref nh, .ref ni, .ref nj, .ref nl])), (nh, .inl (ca 0, 20, .inl (zF st))), (sa, .inl (ca 0, 442, .inl (zF sv)))] → va_S A s.heap H locs → ∀ ls : Array Slot, lv_has ls 6 [(5, .int (nI it)), (4, .int (nI fr)), (3, .int (iZ dz)), (0, .ref mo), (1, .ref sa), (2, .int (nI t))] → W pG l eV rX9_firstDay s mI args below meth cO H locs 0 0 Q (F0 mI 72 ls []) := by
          clear hP hD hS hl
          intro fu; induction fu with
          | zero => intro fr it hfi hls hmu; exact absurd hmu (Nat.not_lt_zero _)
          | succ n72 ih72 =>
            intro fr it hfi hls hmu72 H locs hP hD hS ls hl
            have hc1 := (hM.2.2.1 t (by omega)).1
            have hc2 := hL30 t (by omega)
            have hc3 := (hM.2.2.1 t (by omega)).2
            have hc4 := hNk t (by omega)
            have hc5 := hM.2.1
            have hc6 := hls.2.2.1
            refine lv_iload hx hb dX9_firstDay_72 (lv_at hl 1 rfl) ?_
            refine lv_aload_n hx hb dX9_firstDay_74 rfl (lv_at hl 4 rfl) ?_
            refine lv_iconst (v := nI (2)) hx hb dX9_firstDay_75 (by decide) ?_
            refine lv_iload_n hx hb dX9_firstDay_76 rfl (lv_at hl 5 rfl) ?_
            refine xr_iadd hx hb dX9_firstDay_77 ?_
            refine xr_iald hx hb hK hP 2 0 rfl rfl (by omega) (Nat.le_of_ble_eq_true rfl) (v := iZ (sv (2 + t))) rfl dX9_firstDay_78 ?_
            refine lv_icmp_ge (tgt := 118) hx hb dX9_firstDay_79 (by decide) (fun h79 => ?_) (fun h79 => ?_)
            · skip
              have h79 := (cL (iZ_toInt (by omega) (by omega)) (nI_toInt (by omega))).mp h79
              refine lv_iload hx hb dX9_firstDay_118 (lv_at hl 0 rfl) ?_
              refine lv_iload hx hb dX9_firstDay_120 (lv_at hl 1 rfl) ?_
              refine xr_isub_nn hx hb dX9_firstDay_122 ?_
              refine xr_top (y := nI (it - fr)) (by rw [iZ_n]; exact congrArg iZ (by omega)) ?_
              have h9 := LSs_end hls (by omega)
              have h8 : fd G T L N C st t = it - fr := fdN_eq h9.1 (by have := h9.1.1; omega)
              rw [← hE]
              exact xe_i () hx hb hr hlocks hK hP hD hS (⟨by rw [h8], by rw [h8]; exact h9.1, by rw [h8]; exact h9.2⟩) dX9_firstDay_123
            · skip
              have h79 := (not_congr (cL (iZ_toInt (by omega) (by omega)) (nI_toInt (by omega)))).mp h79
              refine lv_aload_n hx hb dX9_firstDay_82 rfl (lv_at hl 3 rfl) ?_
              refine lv_aload_n hx hb dX9_firstDay_83 rfl (lv_at hl 4 rfl) ?_
              refine lv_iload hx hb dX9_firstDay_84 (lv_at hl 0 rfl) ?_
              refine xk_pi (xk_V (As := [.ref sa, .int (nI it)]) (rest := []) ⟨hx, hb, hml, hown, hts⟩ (mX9_busy l D ca H.size mo na nb nc nd ne nf ng nh ni nj nl ms mk my mt mp sa sv st T C L N G it (by omega) hM hst (by omega) hL30 hNk) (cwV 2 hts gX9_firstDay_X9_busy rfl rfl rfl (by decide +kernel) ⟨Nat.le_of_ble_eq_true rfl, Nat.le_of_ble_eq_true rfl⟩) hK hP hD (va_recv (q := (RX9, TX9, 16)) hK hP (ci := 9) (q0 := 0) rfl rfl) [0, 1, 2] rfl rfl rfl hl.1 rfl (Nat.le_of_ble_eq_true rfl) dX9_firstDay_86 ⟨Nat.le_of_ble_eq_true rfl, Nat.le_of_ble_eq_true rfl⟩) hP hD hS hA [0, 1, 2] rfl ⟨rfl, rfl⟩ (fun r86 H locs hw86 hP hS => ?_)
              have hw86 : r86 = iZ (bsy L N st (it : Int) T) := hw86
              subst hw86
              have hc7 := bsy_rng (L := L) (st := st) (x := (it : Int)) (n := T) hNk
              refine lv_aload_n hx hb dX9_firstDay_89 rfl (lv_at hl 4 rfl) ?_
              refine lv_bipush (v := nI (22)) hx hb dX9_firstDay_90 (by decide) ?_
              refine lv_iload_n hx hb dX9_firstDay_92 rfl (lv_at hl 5 rfl) ?_
              refine xr_iadd hx hb dX9_firstDay_93 ?_
              refine xr_iald hx hb hK hP 2 0 rfl rfl (by omega) (Nat.le_of_ble_eq_true rfl) (v := iZ (sv (22 + t))) rfl dX9_firstDay_94 ?_
              refine xr_iadd_zz hx hb dX9_firstDay_95 ?_
              refine lv_aload_n hx hb dX9_firstDay_96 rfl (lv_at hl 4 rfl) ?_
              refine lv_iconst (v := nI (1)) hx hb dX9_firstDay_97 (by decide) ?_
              refine xr_iald hx hb hK hP 2 0 rfl rfl (by omega) (Nat.le_of_ble_eq_true rfl) (v := iZ (sv 1)) rfl dX9_firstDay_98 ?_
              refine lv_icmp_gt (tgt := 109) hx hb dX9_firstDay_99 (by decide) (fun h99 => ?_) (fun h99 => ?_)
              · skip
                have h99 := (cT (iZ_toInt (by omega) (by omega)) (iZ_toInt (by omega) (by omega))).mp h99
                refine lv_iconst (v := nI (0)) hx hb dX9_firstDay_109 (by decide) ?_
                refine lv_istore (lv' := [(4, .int (nI 0)), (5, .int (nI it)), (3, .int (iZ dz)), (0, .ref mo), (1, .ref sa), (2, .int (nI t))]) hx hb dX9_firstDay_110 hl (by decide) rfl (fun ls hl => ?_)
                refine lv_iinc (v := nI (it + 1)) (lv' := [(5, .int (nI (it + 1))), (4, .int (nI 0)), (3, .int (iZ dz)), (0, .ref mo), (1, .ref sa), (2, .int (nI t))]) hx hb dX9_firstDay_112 hl (k := 1) rfl (nI_add _ 1) (by decide) rfl (fun ls hl => ?_)
                refine lv_goto (tgt := 72) hx hb dX9_firstDay_115 (by decide) ?_
                exact ih72 0 (it + 1) (by omega) (by rw [Nat.sub_zero]; exact LSs_n hls (show C - N t < bsy L N st (it : Int) T by omega) (by omega) (by omega) hfree) (by omega) _ _ hP hD hS _ (lv_sub hl [0, 1, 2, 3, 4, 5] rfl)
              · skip
                have h99 := (not_congr (cT (iZ_toInt (by omega) (by omega)) (iZ_toInt (by omega) (by omega)))).mp h99
                refine lv_iload hx hb dX9_firstDay_102 (lv_at hl 1 rfl) ?_
                refine lv_iconst (v := nI (1)) hx hb dX9_firstDay_104 (by decide) ?_
                refine xr_iadd hx hb dX9_firstDay_105 ?_
                refine lv_goto (tgt := 110) hx hb dX9_firstDay_106 (by decide) ?_
                refine lv_istore (lv' := [(4, .int (nI (fr + 1))), (5, .int (nI it)), (3, .int (iZ dz)), (0, .ref mo), (1, .ref sa), (2, .int (nI t))]) hx hb dX9_firstDay_110 hl (by decide) rfl (fun ls hl => ?_)
                refine lv_iinc (v := nI (it + 1)) (lv' := [(5, .int (nI (it + 1))), (4, .int (nI (fr + 1))), (3, .int (iZ dz)), (0, .ref mo), (1, .ref sa), (2, .int (nI t))]) hx hb dX9_firstDay_112 hl (k := 1) rfl (nI_add _ 1) (by decide) rfl (fun ls hl => ?_)
                refine lv_goto (tgt := 72) hx hb dX9_firstDay_115 (by decide) ?_
                exact ih72 (fr + 1) (it + 1) (by omega) (by rw [show it + 1 - (fr + 1) = it - fr by omega]; exact LSs_y hls (show bsy L N st (it : Int) T ≤ C - N t by omega)) (by omega) _ _ hP hD hS _ (lv_sub hl [0, 1, 2, 3, 4, 5] rfl)
        exact L72 _ 0 dz.toNat (by omega) (by rw [Nat.sub_zero, hdz, show j = T by omega]; exact LSs_0 (by have := (CI_fr (CX_CI (N := N) hX) hT hG hk ht hcan).2.1; omega)) (Nat.lt_succ_self _) _ _ hP hD hS _ (lv_sub hl [0, 1, 2, 3, 4, 5] rfl)
      · skip
        have h10 := (not_congr (cL (iZ_toInt (by omega) (by omega)) (nI_toInt (by omega)))).mp h10
        refine lv_aload_n hx hb dX9_firstDay_13 rfl (lv_at hl 2 rfl) ?_
        refine va_get (D := D) (ci := 9) (v := .ref nh) (C := RX9) (T := TX9) (N := 16) hx hb hts inX9 hown hK hP 0 rfl rfl 12 (by decide) f31 (fun _ h9 => h9) rfl dX9_firstDay_14 ?_
        refine lv_iload hx hb dX9_firstDay_17 (lv_at hl 0 rfl) ?_
        refine xr_iald hx hb hK hP 1 0 rfl rfl (by omega) (Nat.le_of_ble_eq_true rfl) (v := iZ (st j)) rfl dX9_firstDay_19 ?_
        refine lv_aload_n hx hb dX9_firstDay_20 rfl (lv_at hl 3 rfl) ?_
        refine lv_iconst (v := nI (2)) hx hb dX9_firstDay_21 (by decide) ?_
        refine lv_iload hx hb dX9_firstDay_22 (lv_at hl 0 rfl) ?_
        refine xr_iadd hx hb dX9_firstDay_24 ?_
        refine xr_iald hx hb hK hP 2 0 rfl rfl (by omega) (Nat.le_of_ble_eq_true rfl) (v := iZ (sv (2 + j))) rfl dX9_firstDay_25 ?_
        refine xr_iadd_zz hx hb dX9_firstDay_26 ?_
        refine lv_aload_n hx hb dX9_firstDay_27 rfl (lv_at hl 3 rfl) ?_
        refine lv_iload hx hb dX9_firstDay_28 (lv_at hl 0 rfl) ?_
        refine lv_iload_n hx hb dX9_firstDay_30 rfl (lv_at hl 4 rfl) ?_
        refine xk_pi (xk_S (As := [.ref sa, .int (nI j), .int (nI t)]) (rest := [.int (iZ ((st j) + (sv (2 + j))))]) ⟨hx, hb, hml, hown, hts⟩ (mX9_lag l D ca H.size sa sv T C L N G j t hM (by omega)) (va_cwS 3 hts gX9_firstDay_X9_lag rfl rfl rfl (by decide +kernel) ⟨Nat.le_of_ble_eq_true rfl, Nat.le_of_ble_eq_true rfl⟩) hK hP hD [2] rfl rfl rfl hl.1 rfl (Nat.le_of_ble_eq_true rfl) dX9_firstDay_31 ⟨Nat.le_of_ble_eq_true rfl, Nat.le_of_ble_eq_true rfl⟩) hP hD hS hA [2] rfl ⟨rfl, rfl⟩ (fun r31 H locs hw31 hP hS => ?_)
        have hw31 : r31 = iZ (G j t) := hw31
        subst hw31
        have hb0 := hG j t (by omega) (by omega)
        have hb1 := hst j (by omega)
        have hb2 := (hM.2.2.1 j (by omega)).1
        have hb3 := hL30 j (by omega)
        have hb4 := bsP_0 (G := G) (L := L) (st := st) (t := t) j
        have hb5 : bsP G L st t j ≤ 2000 := bsP_le (by omega) (fun i hi hg => by have a1 := hst i (by omega); have a2 := hL30 i (by omega); have a3 := hG i t (by omega) (by omega); omega)
        refine xr_iadd_zz hx hb dX9_firstDay_34 ?_
        refine lv_istore (lv' := [(5, .int (iZ (((st j) + (sv (2 + j))) + (G j t)))), (4, .int (nI j)), (3, .int (iZ dz)), (0, .ref mo), (1, .ref sa), (2, .int (nI t))]) hx hb dX9_firstDay_35 hl (by decide) rfl (fun ls hl => ?_)
        refine lv_aload_n hx hb dX9_firstDay_37 rfl (lv_at hl 4 rfl) ?_
        refine lv_iload hx hb dX9_firstDay_38 (lv_at hl 1 rfl) ?_
        refine lv_iload_n hx hb dX9_firstDay_40 rfl (lv_at hl 5 rfl) ?_
        refine xk_pi (xk_S (As := [.ref sa, .int (nI j), .int (nI t)]) (rest := []) ⟨hx, hb, hml, hown, hts⟩ (mX9_lag l D ca H.size sa sv T C L N G j t hM (by omega)) (va_cwS 3 hts gX9_firstDay_X9_lag rfl rfl rfl (by decide +kernel) ⟨Nat.le_of_ble_eq_true rfl, Nat.le_of_ble_eq_true rfl⟩) hK hP hD [2] rfl rfl rfl hl.1 rfl (Nat.le_of_ble_eq_true rfl) dX9_firstDay_41 ⟨Nat.le_of_ble_eq_true rfl, Nat.le_of_ble_eq_true rfl⟩) hP hD hS hA [2] rfl ⟨rfl, rfl⟩ (fun r41 H locs hw41 hP hS => ?_)
        have hw41 : r41 = iZ (G j t) := hw41
        subst hw41
        refine lv_if_lt (tgt := 58) hx hb dX9_firstDay_44 (by decide) (fun h44 => ?_) (fun h44 => ?_)
        · skip
          have h44 := (cT (iZ_toInt (by omega) (by omega)) z0_toInt).mp h44
          refine lv_iload_n hx hb dX9_firstDay_58 rfl (lv_at hl 2 rfl) ?_
          refine lv_istore_n (lv' := [(3, .int (iZ dz)), (5, .int (iZ (((st j) + (sv (2 + j))) + (G j t)))), (4, .int (nI j)), (0, .ref mo), (1, .ref sa), (2, .int (nI t))]) hx hb dX9_firstDay_59 rfl hl (by decide) rfl (fun ls hl => ?_)
          refine lv_iinc (v := nI (j + 1)) (lv' := [(4, .int (nI (j + 1))), (3, .int (iZ dz)), (5, .int (iZ (((st j) + (sv (2 + j))) + (G j t)))), (0, .ref mo), (1, .ref sa), (2, .int (nI t))]) hx hb dX9_firstDay_60 hl (k := 2) rfl (nI_add _ 1) (by decide) rfl (fun ls hl => ?_)
          refine lv_goto (tgt := 5) hx hb dX9_firstDay_63 (by decide) ?_
          exact ih5 (j + 1) dz (by omega) (bsP_s1 hdz (by omega)) (by omega) _ _ hP hD hS _ (lv_sub hl [0, 1, 3, 4, 5] rfl)
        · skip
          have h44 := (not_congr (cT (iZ_toInt (by omega) (by omega)) z0_toInt)).mp h44
          have hb6 := (canB_iff.mp hcan).2 j (by omega) (show G j t ≠ -1 by omega)
          refine lv_iload hx hb dX9_firstDay_47 (lv_at hl 0 rfl) ?_
          refine lv_iload_n hx hb dX9_firstDay_49 rfl (lv_at hl 2 rfl) ?_
          refine lv_icmp_le (tgt := 58) hx hb dX9_firstDay_50 (by decide) (fun h50 => ?_) (fun h50 => ?_)
          · skip
            have h50 := (cL (iZ_toInt (by omega) (by omega)) (iZ_toInt (by omega) (by omega))).mp h50
            refine lv_iload_n hx hb dX9_firstDay_58 rfl (lv_at hl 2 rfl) ?_
            refine lv_istore_n (lv' := [(3, .int (iZ dz)), (5, .int (iZ (((st j) + (sv (2 + j))) + (G j t)))), (4, .int (nI j)), (0, .ref mo), (1, .ref sa), (2, .int (nI t))]) hx hb dX9_firstDay_59 rfl hl (by decide) rfl (fun ls hl => ?_)
            refine lv_iinc (v := nI (j + 1)) (lv' := [(4, .int (nI (j + 1))), (3, .int (iZ dz)), (5, .int (iZ (((st j) + (sv (2 + j))) + (G j t)))), (0, .ref mo), (1, .ref sa), (2, .int (nI t))]) hx hb dX9_firstDay_60 hl (k := 2) rfl (nI_add _ 1) (by decide) rfl (fun ls hl => ?_)
            refine lv_goto (tgt := 5) hx hb dX9_firstDay_63 (by decide) ?_
            exact ih5 (j + 1) dz (by omega) (bsP_s2 hdz (by omega) hb6 (by omega)) (by omega) _ _ hP hD hS _ (lv_sub hl [0, 1, 3, 4, 5] rfl)
          · skip
            have h50 := (not_congr (cL (iZ_toInt (by omega) (by omega)) (iZ_toInt (by omega) (by omega)))).mp h50
            refine lv_iload hx hb dX9_firstDay_53 (lv_at hl 0 rfl) ?_
            refine lv_goto (tgt := 59) hx hb dX9_firstDay_55 (by decide) ?_
            refine lv_istore_n (lv' := [(3, .int (iZ (((st j) + (sv (2 + j))) + (G j t)))), (5, .int (iZ (((st j) + (sv (2 + j))) + (G j t)))), (4, .int (nI j)), (0, .ref mo), (1, .ref sa), (2, .int (nI t))]) hx hb dX9_firstDay_59 rfl hl (by decide) rfl (fun ls hl => ?_)
            refine lv_iinc (v := nI (j + 1)) (lv' := [(4, .int (nI (j + 1))), (3, .int (iZ (((st j) + (sv (2 + j))) + (G j t)))), (5, .int (iZ (((st j) + (sv (2 + j))) + (G j t)))), (0, .ref mo), (1, .ref sa), (2, .int (nI t))]) hx hb dX9_firstDay_60 hl (k := 2) rfl (nI_add _ 1) (by decide) rfl (fun ls hl => ?_)
            refine lv_goto (tgt := 5) hx hb dX9_firstDay_63 (by decide) ?_
            exact ih5 (j + 1) (((st j) + (sv (2 + j))) + (G j t)) (by omega) (bsP_s2 hdz (by omega) hb6 (by omega)) (by omega) _ _ hP hD hS _ (lv_sub hl [0, 1, 3, 4, 5] rfl)
  exact L5 _ 0 0 (by omega) rfl (Nat.lt_succ_self _) _ _ hP hD hS _ (lv_sub hl [0, 1, 2, 3, 4] rfl)
def rX9_plans : Room := { frames := 2, cells := 0, slots := 0, locals := 51 }
set_option maxHeartbeats 4000000 in
set_option maxRecDepth 100000 in
theorem mX9_plans (l : Launch) (D : va_G) (ca : Nat → ClassId) (sz : Nat) (mo : Nat) (na : Nat) (nb : Nat) (nc : Nat) (nd : Nat) (ne : Nat) (nf : Nat) (ng : Nat) (nh : Nat) (ni : Nat) (nj : Nat) (nl : Nat) (ms : Bool) (mk : Nat) (my : Nat) (mt : Nat) (mp : Nat) (sa : Nat) (sv : Nat → Int) (e : Nat → Int) (f : Nat → Int) (st : Nat → Int) (T : Nat) (C : Int) (L : Nat → Int) (N : Nat → Int) (G : Nat → Nat → Int) (hT : T ≤ 20) (hG : GOK G) (hac : ACY G T) (hGo : ∀ i j, i < 20 → j < 20 → G i j ≠ -1 → i < T ∧ j < T) (hM : MS sv T C L N G) (hL30 : L30 T L) (hNk : NOK T N) (hC9 : 1 ≤ C ∧ C ≤ 9) : MM l yX9_plans wsX9_plans rX9_plans D ca [.ref mo, .ref sa] sz [(mo, .inr (9, [.ref na, .ref nb, .ref nc, .ref nd, .int (bI (ms)), .int (nI mk), .ref ne, .int (nI my), .int (nI mt), .int (nI mp), .ref nf, .ref ng, .ref nh, .ref ni, .ref nj, .ref nl])), (nf, .inl (ca 0, 20, .inl (zF e))), (ng, .inl (ca 0, 20, .inl (zF f))), (nh, .inl (ca 0, 20, .inl (zF st))), (sa, .inl (ca 0, 442, .inl (zF sv)))] (QI D ca (fun (r : Int32) (u : (Nat → Int) × (Nat → Int) × (Nat → Int)) => r = iZ (plR G T L N C) ∧ (nOK N C T = true → ∀ t, t < T → u.2.2 t = SCH G T L N (lst G T L) C T t ∧ -1 ≤ u.2.2 t ∧ u.2.2 t ≤ 1000) ∧ -1 ≤ plR G T L N C ∧ plR G T L N C ≤ 900) (fun u => [(mo, .inr (9, [.ref na, .ref nb, .ref nc, .ref nd, .int (bI (ms)), .int (nI mk), .ref ne, .int (nI my), .int (nI mt), .int (nI mp), .ref nf, .ref ng, .ref nh, .ref ni, .ref nj, .ref nl])), (nf, .inl (ca 0, 20, .inl (zF u.1))), (ng, .inl (ca 0, 20, .inl (zF u.2.1))), (nh, .inl (ca 0, 20, .inl (zF u.2.2))), (sa, .inl (ca 0, 442, .inl (zF sv)))])) := by
  refine MM_of (cc := cX9_plans) (maxL := 4) (ret := (some .int)) (lv0 := [(0, .ref mo), (1, .ref sa)]) RX9 (by decide) rfl rfl (Nat.le_of_ble_eq_true rfl) rfl ?_
  intro pG eV s mI args below meth cO hx hb hr hml hts hown hlocks hnm A hA H locs hsz hP hK hD hS Q hE ls hl
  have f31 := hts (.fieldLink RX9 31 "SlackPlanModel" "start" "[I") (List.mem_of_getElem? (i := 1) rfl)
  have inX9 : ∀ w ∈ u_ws RX9 TX9 16, w ∈ wsX9_plans := in_r _ [28, 29, 30, 31, 32, 33, 34, 35, 36, 37, 38, 39, 40, 41, 42, 43] rfl
  refine lv_iconst (v := iZ 0) hx hb dX9_plans_0 (by decide) ?_
  refine lv_istore_n (lv' := [(2, .int (iZ 0)), (0, .ref mo), (1, .ref sa)]) hx hb dX9_plans_1 rfl hl (by decide) rfl (fun ls hl => ?_)
  refine lv_iconst (v := nI (0)) hx hb dX9_plans_2 (by decide) ?_
  refine lv_istore_n (lv' := [(3, .int (nI 0)), (2, .int (iZ 0)), (0, .ref mo), (1, .ref sa)]) hx hb dX9_plans_3 rfl hl (by decide) rfl (fun ls hl => ?_)
  have L4 : ∀ (fu : Nat) (k : Nat) (st2 : Nat → Int), (k ≤ 20) → (st2 = rwF st (fun _ => -1) k) → (∀ t, t < T → t < k → N t ≤ C) → (20 - k) < fu → ∀ (H : Heap) (locs : List Loc), va_P D vwCl [(mo, .inr (9, [.ref na, .ref nb, .ref nc, .ref nd, .int (bI (ms)), .int (nI mk), .ref ne, .int (nI my), .int (nI mt), .int (nI mp), .ref nf, .ref ng, .ref nh, .ref ni, .ref nj, .ref nl])), (nf, .inl (ca 0, 20, .inl (zF e))), (ng, .inl (ca 0, 20, .inl (zF f))), (nh, .inl (ca 0, 20, .inl (zF st2))), (sa, .inl (ca 0, 442, .inl (zF sv)))] H → va_D A [(mo, .inr (9, [.ref na, .ref nb, .ref nc, .ref nd, .int (bI (ms)), .int (nI mk), .ref ne, .int (nI my), .int (nI mt), .int (nI mp), .ref nf, .ref ng, .ref nh, .ref ni, .ref nj, .ref nl])), (nf, .inl (ca 0, 20, .inl (zF e))), (ng, .inl (ca 0, 20, .inl (zF f))), (nh, .inl (ca 0, 20, .inl (zF st2))), (sa, .inl (ca 0, 442, .inl (zF sv)))] → va_S A s.heap H locs → ∀ ls : Array Slot, lv_has ls 4 [(3, .int (nI k)), (2, .int (iZ 0)), (0, .ref mo), (1, .ref sa)] → W pG l eV rX9_plans s mI args below meth cO H locs 0 0 Q (F0 mI 4 ls []) := by
    clear hP hD hS hl
    intro fu; induction fu with
    | zero => intro k st2 hk hs hNC hmu; exact absurd hmu (Nat.not_lt_zero _)
    | succ n4 ih4 =>
      intro k st2 hk hs hNC hmu4 H locs hP hD hS ls hl
      have hs0 := hM.1
      have hs1 := hM.2.1
      refine lv_iload_n hx hb dX9_plans_4 rfl (lv_at hl 0 rfl) ?_
      refine lv_bipush (v := nI (20)) hx hb dX9_plans_5 (by decide) ?_
      refine lv_icmp_ge (tgt := 44) hx hb dX9_plans_7 (by decide) (fun h7 => ?_) (fun h7 => ?_)
      · skip
        have h7 := (cL (nI_toInt (by omega)) (nI_toInt (by omega))).mp h7
        have hNC9 : ∀ t, t < T → N t ≤ C := fun t ht => hNC t ht (by omega)
        have e9 : k = 20 := by omega
        rw [e9] at hs
        have hP := hP.arr 3 (zF (fun _ => -1)) rfl (fun j hj => by rw [hs]; unfold zF rwF; rw [if_pos (show j < 20 from hj)])
        have hD := hD.set (p := 3) (e := .inl (ca 0, 20, .inl (zF (fun _ => -1)))) rfl
        have hP : va_P D vwCl [(mo, .inr (9, [.ref na, .ref nb, .ref nc, .ref nd, .int (bI (ms)), .int (nI mk), .ref ne, .int (nI my), .int (nI mt), .int (nI mp), .ref nf, .ref ng, .ref nh, .ref ni, .ref nj, .ref nl])), (nf, .inl (ca 0, 20, .inl (zF e))), (ng, .inl (ca 0, 20, .inl (zF f))), (nh, .inl (ca 0, 20, .inl (zF (fun _ => -1)))), (sa, .inl (ca 0, 442, .inl (zF sv)))] H := hP
        have hD : va_D A [(mo, .inr (9, [.ref na, .ref nb, .ref nc, .ref nd, .int (bI (ms)), .int (nI mk), .ref ne, .int (nI my), .int (nI mt), .int (nI mp), .ref nf, .ref ng, .ref nh, .ref ni, .ref nj, .ref nl])), (nf, .inl (ca 0, 20, .inl (zF e))), (ng, .inl (ca 0, 20, .inl (zF f))), (nh, .inl (ca 0, 20, .inl (zF (fun _ => -1)))), (sa, .inl (ca 0, 442, .inl (zF sv)))] := hD
        refine lv_aload_n hx hb dX9_plans_44 rfl (lv_at hl 2 rfl) ?_
        refine lv_aload_n hx hb dX9_plans_45 rfl (lv_at hl 3 rfl) ?_
        refine xk_i [(nh, .inl (ca 0, 20, .inl (zF (fun _ => -1))))] (fun u => [(mo, .inr (9, [.ref na, .ref nb, .ref nc, .ref nd, .int (bI (ms)), .int (nI mk), .ref ne, .int (nI my), .int (nI mt), .int (nI mp), .ref nf, .ref ng, .ref nh, .ref ni, .ref nj, .ref nl])), (nf, .inl (ca 0, 20, .inl (zF u.1))), (ng, .inl (ca 0, 20, .inl (zF u.2))), (nh, .inl (ca 0, 20, .inl (zF (fun _ => -1)))), (sa, .inl (ca 0, 442, .inl (zF sv)))]) (xk_V (As := [.ref sa]) (rest := []) ⟨hx, hb, hml, hown, hts⟩ (mX9_days l D ca H.size mo na nb nc nd ne nf ng nh ni nj nl ms mk my mt mp sa sv e f T C L N G (by omega) hG hac hGo hM (L30_LOK hL30)) (cwV 1 hts gX9_plans_X9_days rfl rfl rfl (by decide +kernel) ⟨Nat.le_of_ble_eq_true rfl, Nat.le_of_ble_eq_true rfl⟩) hK hP hD (va_recv (q := (RX9, TX9, 16)) hK hP (ci := 9) (q0 := 0) rfl rfl) [0, 1, 2, 4] rfl rfl rfl hl.1 rfl (Nat.le_of_ble_eq_true rfl) dX9_plans_46 ⟨Nat.le_of_ble_eq_true rfl, Nat.le_of_ble_eq_true rfl⟩) hP hD hS hA [0, 1, 2, 4] [3] [1, 2, 3, 0, 4] rfl rfl rfl rfl (fun _ => rfl) rfl (fun r46 u46 H locs hw46 hP hD hS => ?_)
        obtain ⟨e146, f146⟩ := u46
        have hw46 : r46 = iZ (span G T L) ∧ (∀ j, j < T → e146 j = es G T L j) ∧ ∀ j, j < T → f146 j = lst G T L j := hw46
        have hP : va_P D vwCl [(mo, .inr (9, [.ref na, .ref nb, .ref nc, .ref nd, .int (bI (ms)), .int (nI mk), .ref ne, .int (nI my), .int (nI mt), .int (nI mp), .ref nf, .ref ng, .ref nh, .ref ni, .ref nj, .ref nl])), (nf, .inl (ca 0, 20, .inl (zF e146))), (ng, .inl (ca 0, 20, .inl (zF f146))), (nh, .inl (ca 0, 20, .inl (zF (fun _ => -1)))), (sa, .inl (ca 0, 442, .inl (zF sv)))] H := hP
        have hD : va_D A [(mo, .inr (9, [.ref na, .ref nb, .ref nc, .ref nd, .int (bI (ms)), .int (nI mk), .ref ne, .int (nI my), .int (nI mt), .int (nI mp), .ref nf, .ref ng, .ref nh, .ref ni, .ref nj, .ref nl])), (nf, .inl (ca 0, 20, .inl (zF e146))), (ng, .inl (ca 0, 20, .inl (zF f146))), (nh, .inl (ca 0, 20, .inl (zF (fun _ => -1)))), (sa, .inl (ca 0, 442, .inl (zF sv)))] := hD
        obtain ⟨hwr46, hv46⟩ := hw46
        subst hwr46
        refine lv_pop hx hb dX9_plans_49 rfl ?_
        refine lv_aload_n hx hb dX9_plans_50 rfl (lv_at hl 2 rfl) ?_
        refine lv_aload_n hx hb dX9_plans_51 rfl (lv_at hl 3 rfl) ?_
        refine xk_pi (xk_V (As := [.ref sa]) (rest := []) ⟨hx, hb, hml, hown, hts⟩ (mX9_nextTask l D ca H.size mo na nb nc nd ne nf ng nh ni nj nl ms mk my mt mp sa sv f146 (fun _ => -1) T C L N G (by omega) hG hM (fun t0 ht0 => by have a1 := (CX_0 (G := G) hL30).2.1 t0 ht0; have a2 := (CX_0 (G := G) hL30).2.2.1 t0 ht0; have a3 := hL30 t0 ht0; omega) (fun t ht => by rw [hv46.2 t ht]; exact lst_rng hT hG (L30_LOK hL30) ht)) (cwV 1 hts gX9_plans_X9_nextTask rfl rfl rfl (by decide +kernel) ⟨Nat.le_of_ble_eq_true rfl, Nat.le_of_ble_eq_true rfl⟩) hK hP hD (va_recv (q := (RX9, TX9, 16)) hK hP (ci := 9) (q0 := 0) rfl rfl) [0, 2, 3, 4] rfl rfl rfl hl.1 rfl (Nat.le_of_ble_eq_true rfl) dX9_plans_52 ⟨Nat.le_of_ble_eq_true rfl, Nat.le_of_ble_eq_true rfl⟩) hP hD hS hA [0, 2, 3, 4] rfl ⟨rfl, rfl⟩ (fun r52 H locs hw52 hP hS => ?_)
        have hw52 : r52 = iZ (oZ (nxt f146 (canB G T (fun _ => -1)) T)) := hw52
        subst hw52
        refine lv_istore_n (lv' := [(3, .int (iZ (oZ (nxt f146 (canB G T (fun _ => -1)) T)))), (2, .int (iZ 0)), (0, .ref mo), (1, .ref sa)]) hx hb dX9_plans_55 rfl hl (by decide) rfl (fun ls hl => ?_)
        have L56 : ∀ (fu : Nat) (k : Nat) (st2 : Nat → Int) (op : Option Nat) (n : Int), (k ≤ T) → (st2 = SCH G T L N (lst G T L) C k) → (CX G T L k st2) → (op = nxt (lst G T L) (canB G T st2) T) → (n = slE L st2 T) → (T + 1 - k) < fu → ∀ (H : Heap) (locs : List Loc), va_P D vwCl [(mo, .inr (9, [.ref na, .ref nb, .ref nc, .ref nd, .int (bI (ms)), .int (nI mk), .ref ne, .int (nI my), .int (nI mt), .int (nI mp), .ref nf, .ref ng, .ref nh, .ref ni, .ref nj, .ref nl])), (nf, .inl (ca 0, 20, .inl (zF e146))), (ng, .inl (ca 0, 20, .inl (zF f146))), (nh, .inl (ca 0, 20, .inl (zF st2))), (sa, .inl (ca 0, 442, .inl (zF sv)))] H → va_D A [(mo, .inr (9, [.ref na, .ref nb, .ref nc, .ref nd, .int (bI (ms)), .int (nI mk), .ref ne, .int (nI my), .int (nI mt), .int (nI mp), .ref nf, .ref ng, .ref nh, .ref ni, .ref nj, .ref nl])), (nf, .inl (ca 0, 20, .inl (zF e146))), (ng, .inl (ca 0, 20, .inl (zF f146))), (nh, .inl (ca 0, 20, .inl (zF st2))), (sa, .inl (ca 0, 442, .inl (zF sv)))] → va_S A s.heap H locs → ∀ ls : Array Slot, lv_has ls 4 [(3, .int (iZ (oZ op))), (2, .int (iZ n)), (0, .ref mo), (1, .ref sa)] → W pG l eV rX9_plans s mI args below meth cO H locs 0 0 Q (F0 mI 56 ls []) := by
          clear hP hD hS hl
          intro fu; induction fu with
          | zero => intro k st2 op n hk hs hX ho hn hmu; exact absurd hmu (Nat.not_lt_zero _)
          | succ n56 ih56 =>
            intro k st2 op n hk hs hX ho hn hmu56 H locs hP hD hS ls hl
            refine lv_iload_n hx hb dX9_plans_56 rfl (lv_at hl 0 rfl) ?_
            have hq2 := oZ_rng (nxt_lt ho)
            refine lv_if_lt (tgt := 114) hx hb dX9_plans_57 (by decide) (fun h57 => ?_) (fun h57 => ?_)
            · skip
              have h57 := (cT (iZ_toInt (by omega) (by omega)) z0_toInt).mp h57
              have hon := oZ_none (o := op) (by omega)
              refine lv_iload_n hx hb dX9_plans_114 rfl (lv_at hl 1 rfl) ?_
              have h9 := nOK_all hNC9
              have h7 := SCH_stop (G := G) (T := T) (L := L) (N := N) (late := lst G T L) (cr := C) (k := k) (by rw [← hs]; exact ho.symm.trans hon) (T - k)
              rw [show k + (T - k) = T by omega, ← hs] at h7
              have h6 : plR G T L N C = slE L st2 T := by unfold plR; rw [if_pos h9, h7]
              have h5 := slE_rng (L := L) (st := st2) (M := 39 * k + 30) (by omega) (n := T) hX.2.2.1
              rw [← hE]
              exact xe_i (e146, f146, st2) hx hb hr hlocks hK hP hD hS (⟨by rw [h6, hn], fun _ t ht => ⟨by rw [h7], hX.2.1 t ht, by have a9 := hX.2.2.1 t ht; have b9 := hL30 t ht; show st2 t ≤ 1000; omega⟩, by omega, by omega⟩) dX9_plans_115
            · skip
              have h57 := (not_congr (cT (iZ_toInt (by omega) (by omega)) z0_toInt)).mp h57
              obtain ⟨t, ho9⟩ := oZ_some (o := op) (by omega)
              have ht := nxt_lt ho t ho9
              have hcan := (nxt_some (ho.symm.trans ho9)).2
              have hkT := SCH_lt (L := L) (N := N) (late := lst G T L) (cr := C) (k := k) (t := t) hac hk (by rw [← hs]; exact ho.symm.trans ho9)
              have hc1 := (canB_iff.mp hcan).1
              have hd2 := (hM.2.2.1 t ht).1
              have hd3 := hL30 t ht
              have hd4 := slE_rng (L := L) (st := st2) (M := 39 * k + 30) (by omega) (n := T) hX.2.2.1
              have e9 : iZ (oZ op) = nI (t) := (by rw [ho9]; exact (iZ_n t).symm)
              have hl : lv_has ls 4 [(3, .int (nI t)), (2, .int (iZ n)), (0, .ref mo), (1, .ref sa)] := by rw [← e9]; exact hl
              refine lv_aload_n hx hb dX9_plans_60 rfl (lv_at hl 2 rfl) ?_
              refine va_get (D := D) (ci := 9) (v := .ref nh) (C := RX9) (T := TX9) (N := 16) hx hb hts inX9 hown hK hP 0 rfl rfl 12 (by decide) f31 (fun _ h9 => h9) rfl dX9_plans_61 ?_
              refine lv_iload_n hx hb dX9_plans_64 rfl (lv_at hl 0 rfl) ?_
              refine lv_aload_n hx hb dX9_plans_65 rfl (lv_at hl 2 rfl) ?_
              refine lv_aload_n hx hb dX9_plans_66 rfl (lv_at hl 3 rfl) ?_
              refine lv_iload_n hx hb dX9_plans_67 rfl (lv_at hl 0 rfl) ?_
              refine xk_pi (xk_V (As := [.ref sa, .int (nI t)]) (rest := [.int (nI t), .ref nh]) ⟨hx, hb, hml, hown, hts⟩ (mX9_firstDay l D ca H.size mo na nb nc nd ne nf ng nh ni nj nl ms mk my mt mp sa sv st2 T C L N G t k (by omega) hG hM hL30 hNk hC9 (by omega) hX ht hcan (hNC9 t ht)) (cwV 2 hts gX9_plans_X9_firstDay rfl rfl rfl (by decide +kernel) ⟨Nat.le_of_ble_eq_true rfl, Nat.le_of_ble_eq_true rfl⟩) hK hP hD (va_recv (q := (RX9, TX9, 16)) hK hP (ci := 9) (q0 := 0) rfl rfl) [0, 3, 4] rfl rfl rfl hl.1 rfl (Nat.le_of_ble_eq_true rfl) dX9_plans_68 ⟨Nat.le_of_ble_eq_true rfl, Nat.le_of_ble_eq_true rfl⟩) hP hD hS hA [0, 3, 4] rfl ⟨rfl, rfl⟩ (fun r68 H locs hw68 hP hS => ?_)
              have hw68 : r68 = nI (fd G T L N C st2 t) ∧ FDW (fun x => bsy L N st2 (x : Int) T) (C - N t) (L t).toNat (bsP G L st2 t T).toNat (fd G T L N C st2 t) ∧ fd G T L N C st2 t ≤ 39 * k + 9 := hw68
              obtain ⟨hwr68, hv68⟩ := hw68
              subst hwr68
              refine xr_iast hx hb hK hP hD hS 3 0 rfl rfl (by omega) (Nat.le_of_ble_eq_true rfl) (zF (upZ st2 t ((fd G T L N C st2 t : Nat) : Int))) (fun _ _ => zF_upn _ _ _ _) dX9_plans_71 (fun H locs hP hD hS => ?_)
              have hP : va_P D vwCl [(mo, .inr (9, [.ref na, .ref nb, .ref nc, .ref nd, .int (bI (ms)), .int (nI mk), .ref ne, .int (nI my), .int (nI mt), .int (nI mp), .ref nf, .ref ng, .ref nh, .ref ni, .ref nj, .ref nl])), (nf, .inl (ca 0, 20, .inl (zF e146))), (ng, .inl (ca 0, 20, .inl (zF f146))), (nh, .inl (ca 0, 20, .inl (zF (upZ st2 t ((fd G T L N C st2 t : Nat) : Int))))), (sa, .inl (ca 0, 442, .inl (zF sv)))] H := hP
              have hD : va_D A [(mo, .inr (9, [.ref na, .ref nb, .ref nc, .ref nd, .int (bI (ms)), .int (nI mk), .ref ne, .int (nI my), .int (nI mt), .int (nI mp), .ref nf, .ref ng, .ref nh, .ref ni, .ref nj, .ref nl])), (nf, .inl (ca 0, 20, .inl (zF e146))), (ng, .inl (ca 0, 20, .inl (zF f146))), (nh, .inl (ca 0, 20, .inl (zF (upZ st2 t ((fd G T L N C st2 t : Nat) : Int))))), (sa, .inl (ca 0, 442, .inl (zF sv)))] := hD
              refine lv_aload_n hx hb dX9_plans_72 rfl (lv_at hl 2 rfl) ?_
              refine va_get (D := D) (ci := 9) (v := .ref nh) (C := RX9) (T := TX9) (N := 16) hx hb hts inX9 hown hK hP 0 rfl rfl 12 (by decide) f31 (fun _ h9 => h9) rfl dX9_plans_73 ?_
              refine lv_iload_n hx hb dX9_plans_76 rfl (lv_at hl 0 rfl) ?_
              refine xr_iald hx hb hK hP 3 0 rfl rfl (by omega) (Nat.le_of_ble_eq_true rfl) (v := iZ ((upZ st2 t ((fd G T L N C st2 t : Nat) : Int)) t)) rfl dX9_plans_77 ?_
              refine xr_top (y := iZ (((fd G T L N C st2 t : Nat) : Int))) (congrArg iZ upZ_s) ?_
              refine lv_aload_n hx hb dX9_plans_78 rfl (lv_at hl 3 rfl) ?_
              have hd5 := hv68.2
              refine lv_iconst (v := nI (2)) hx hb dX9_plans_79 (by decide) ?_
              refine lv_iload_n hx hb dX9_plans_80 rfl (lv_at hl 0 rfl) ?_
              refine xr_iadd hx hb dX9_plans_81 ?_
              refine xr_iald hx hb hK hP 4 0 rfl rfl (by omega) (Nat.le_of_ble_eq_true rfl) (v := iZ (sv (2 + t))) rfl dX9_plans_82 ?_
              refine xr_iadd_zz hx hb dX9_plans_83 ?_
              refine lv_iload_n hx hb dX9_plans_84 rfl (lv_at hl 1 rfl) ?_
              refine lv_icmp_le (tgt := 103) hx hb dX9_plans_85 (by decide) (fun h85 => ?_) (fun h85 => ?_)
              · skip
                have h85 := (cL (iZ_toInt (by omega) (by omega)) (iZ_toInt (by omega) (by omega))).mp h85
                refine lv_iload_n hx hb dX9_plans_103 rfl (lv_at hl 1 rfl) ?_
                refine lv_istore_n (lv' := [(2, .int (iZ n)), (3, .int (nI t)), (0, .ref mo), (1, .ref sa)]) hx hb dX9_plans_104 rfl hl (by decide) rfl (fun ls hl => ?_)
                refine lv_aload_n hx hb dX9_plans_105 rfl (lv_at hl 2 rfl) ?_
                refine lv_aload_n hx hb dX9_plans_106 rfl (lv_at hl 3 rfl) ?_
                refine xk_pi (xk_V (As := [.ref sa]) (rest := []) ⟨hx, hb, hml, hown, hts⟩ (mX9_nextTask l D ca H.size mo na nb nc nd ne nf ng nh ni nj nl ms mk my mt mp sa sv f146 (upZ st2 t ((fd G T L N C st2 t : Nat) : Int)) T C L N G (by omega) hG hM (fun t0 ht0 => by have a1 := (CX_step hX hT hG hL30 (show k < 20 by omega) ht hcan hv68.1 hv68.2).2.1 t0 ht0; have a2 := (CX_step hX hT hG hL30 (show k < 20 by omega) ht hcan hv68.1 hv68.2).2.2.1 t0 ht0; have a3 := hL30 t0 ht0; omega) (fun t ht => by rw [hv46.2 t ht]; exact lst_rng hT hG (L30_LOK hL30) ht)) (cwV 1 hts gX9_plans_X9_nextTask rfl rfl rfl (by decide +kernel) ⟨Nat.le_of_ble_eq_true rfl, Nat.le_of_ble_eq_true rfl⟩) hK hP hD (va_recv (q := (RX9, TX9, 16)) hK hP (ci := 9) (q0 := 0) rfl rfl) [0, 2, 3, 4] rfl rfl rfl hl.1 rfl (Nat.le_of_ble_eq_true rfl) dX9_plans_107 ⟨Nat.le_of_ble_eq_true rfl, Nat.le_of_ble_eq_true rfl⟩) hP hD hS hA [0, 2, 3, 4] rfl ⟨rfl, rfl⟩ (fun r107 H locs hw107 hP hS => ?_)
                have hw107 : r107 = iZ (oZ (nxt f146 (canB G T (upZ st2 t ((fd G T L N C st2 t : Nat) : Int))) T)) := hw107
                subst hw107
                refine lv_istore_n (lv' := [(3, .int (iZ (oZ (nxt f146 (canB G T (upZ st2 t ((fd G T L N C st2 t : Nat) : Int))) T)))), (2, .int (iZ n)), (0, .ref mo), (1, .ref sa)]) hx hb dX9_plans_110 rfl hl (by decide) rfl (fun ls hl => ?_)
                refine lv_goto (tgt := 56) hx hb dX9_plans_111 (by decide) ?_
                exact ih56 (k + 1) (upZ st2 t ((fd G T L N C st2 t : Nat) : Int)) (nxt f146 (canB G T (upZ st2 t ((fd G T L N C st2 t : Nat) : Int))) T) n (by omega) (by show upZ st2 t _ = stpO G T L N C (SCH G T L N (lst G T L) C k) (nxt (lst G T L) (canB G T (SCH G T L N (lst G T L) C k)) T); rw [← hs, ← ho, ho9]; rfl) (CX_step hX hT hG hL30 (by omega) ht hcan hv68.1 hv68.2) (nxt_cong (fun j hj => ⟨hv46.2 j hj, rfl⟩)) (by rw [slE_up (by omega) (by omega), if_pos ht, ← hn]; omega) (by omega) _ _ hP hD hS _ (lv_sub hl [0, 1, 2, 3] rfl)
              · skip
                have h85 := (not_congr (cL (iZ_toInt (by omega) (by omega)) (iZ_toInt (by omega) (by omega)))).mp h85
                refine lv_aload_n hx hb dX9_plans_88 rfl (lv_at hl 2 rfl) ?_
                refine va_get (D := D) (ci := 9) (v := .ref nh) (C := RX9) (T := TX9) (N := 16) hx hb hts inX9 hown hK hP 0 rfl rfl 12 (by decide) f31 (fun _ h9 => h9) rfl dX9_plans_89 ?_
                refine lv_iload_n hx hb dX9_plans_92 rfl (lv_at hl 0 rfl) ?_
                refine xr_iald hx hb hK hP 3 0 rfl rfl (by omega) (Nat.le_of_ble_eq_true rfl) (v := iZ ((upZ st2 t ((fd G T L N C st2 t : Nat) : Int)) t)) rfl dX9_plans_93 ?_
                refine xr_top (y := iZ (((fd G T L N C st2 t : Nat) : Int))) (congrArg iZ upZ_s) ?_
                refine lv_aload_n hx hb dX9_plans_94 rfl (lv_at hl 3 rfl) ?_
                refine lv_iconst (v := nI (2)) hx hb dX9_plans_95 (by decide) ?_
                refine lv_iload_n hx hb dX9_plans_96 rfl (lv_at hl 0 rfl) ?_
                refine xr_iadd hx hb dX9_plans_97 ?_
                refine xr_iald hx hb hK hP 4 0 rfl rfl (by omega) (Nat.le_of_ble_eq_true rfl) (v := iZ (sv (2 + t))) rfl dX9_plans_98 ?_
                refine xr_iadd_zz hx hb dX9_plans_99 ?_
                refine lv_goto (tgt := 104) hx hb dX9_plans_100 (by decide) ?_
                refine lv_istore_n (lv' := [(2, .int (iZ (((fd G T L N C st2 t : Nat) : Int) + (sv (2 + t))))), (3, .int (nI t)), (0, .ref mo), (1, .ref sa)]) hx hb dX9_plans_104 rfl hl (by decide) rfl (fun ls hl => ?_)
                refine lv_aload_n hx hb dX9_plans_105 rfl (lv_at hl 2 rfl) ?_
                refine lv_aload_n hx hb dX9_plans_106 rfl (lv_at hl 3 rfl) ?_
                refine xk_pi (xk_V (As := [.ref sa]) (rest := []) ⟨hx, hb, hml, hown, hts⟩ (mX9_nextTask l D ca H.size mo na nb nc nd ne nf ng nh ni nj nl ms mk my mt mp sa sv f146 (upZ st2 t ((fd G T L N C st2 t : Nat) : Int)) T C L N G (by omega) hG hM (fun t0 ht0 => by have a1 := (CX_step hX hT hG hL30 (show k < 20 by omega) ht hcan hv68.1 hv68.2).2.1 t0 ht0; have a2 := (CX_step hX hT hG hL30 (show k < 20 by omega) ht hcan hv68.1 hv68.2).2.2.1 t0 ht0; have a3 := hL30 t0 ht0; omega) (fun t ht => by rw [hv46.2 t ht]; exact lst_rng hT hG (L30_LOK hL30) ht)) (cwV 1 hts gX9_plans_X9_nextTask rfl rfl rfl (by decide +kernel) ⟨Nat.le_of_ble_eq_true rfl, Nat.le_of_ble_eq_true rfl⟩) hK hP hD (va_recv (q := (RX9, TX9, 16)) hK hP (ci := 9) (q0 := 0) rfl rfl) [0, 2, 3, 4] rfl rfl rfl hl.1 rfl (Nat.le_of_ble_eq_true rfl) dX9_plans_107 ⟨Nat.le_of_ble_eq_true rfl, Nat.le_of_ble_eq_true rfl⟩) hP hD hS hA [0, 2, 3, 4] rfl ⟨rfl, rfl⟩ (fun r107 H locs hw107 hP hS => ?_)
                have hw107 : r107 = iZ (oZ (nxt f146 (canB G T (upZ st2 t ((fd G T L N C st2 t : Nat) : Int))) T)) := hw107
                subst hw107
                refine lv_istore_n (lv' := [(3, .int (iZ (oZ (nxt f146 (canB G T (upZ st2 t ((fd G T L N C st2 t : Nat) : Int))) T)))), (2, .int (iZ (((fd G T L N C st2 t : Nat) : Int) + (sv (2 + t))))), (0, .ref mo), (1, .ref sa)]) hx hb dX9_plans_110 rfl hl (by decide) rfl (fun ls hl => ?_)
                refine lv_goto (tgt := 56) hx hb dX9_plans_111 (by decide) ?_
                exact ih56 (k + 1) (upZ st2 t ((fd G T L N C st2 t : Nat) : Int)) (nxt f146 (canB G T (upZ st2 t ((fd G T L N C st2 t : Nat) : Int))) T) (((fd G T L N C st2 t : Nat) : Int) + (sv (2 + t))) (by omega) (by show upZ st2 t _ = stpO G T L N C (SCH G T L N (lst G T L) C k) (nxt (lst G T L) (canB G T (SCH G T L N (lst G T L) C k)) T); rw [← hs, ← ho, ho9]; rfl) (CX_step hX hT hG hL30 (by omega) ht hcan hv68.1 hv68.2) (nxt_cong (fun j hj => ⟨hv46.2 j hj, rfl⟩)) (by rw [slE_up (by omega) (by omega), if_pos ht, ← hn]; omega) (by omega) _ _ hP hD hS _ (lv_sub hl [0, 1, 2, 3] rfl)
        exact L56 _ 0 (fun _ => -1) (nxt f146 (canB G T (fun _ => -1)) T) 0 (by omega) rfl (CX_0 hL30) (nxt_cong (fun j hj => ⟨hv46.2 j hj, rfl⟩)) (slE_none T).symm (Nat.lt_succ_self _) _ _ hP hD hS _ (lv_sub hl [0, 1, 2, 3] rfl)
      · skip
        have h7 := (not_congr (cL (nI_toInt (by omega)) (nI_toInt (by omega)))).mp h7
        refine lv_aload_n hx hb dX9_plans_10 rfl (lv_at hl 2 rfl) ?_
        refine va_get (D := D) (ci := 9) (v := .ref nh) (C := RX9) (T := TX9) (N := 16) hx hb hts inX9 hown hK hP 0 rfl rfl 12 (by decide) f31 (fun _ h9 => h9) rfl dX9_plans_11 ?_
        refine lv_iload_n hx hb dX9_plans_14 rfl (lv_at hl 0 rfl) ?_
        refine lv_iconst (v := iZ (-1)) hx hb dX9_plans_15 (by decide) ?_
        refine xr_iast hx hb hK hP hD hS 3 0 rfl rfl (by omega) (Nat.le_of_ble_eq_true rfl) (zF (upZ st2 k (-1))) (fun _ _ => zF_up _ _ _ _) dX9_plans_16 (fun H locs hP hD hS => ?_)
        have hP : va_P D vwCl [(mo, .inr (9, [.ref na, .ref nb, .ref nc, .ref nd, .int (bI (ms)), .int (nI mk), .ref ne, .int (nI my), .int (nI mt), .int (nI mp), .ref nf, .ref ng, .ref nh, .ref ni, .ref nj, .ref nl])), (nf, .inl (ca 0, 20, .inl (zF e))), (ng, .inl (ca 0, 20, .inl (zF f))), (nh, .inl (ca 0, 20, .inl (zF (upZ st2 k (-1))))), (sa, .inl (ca 0, 442, .inl (zF sv)))] H := hP
        have hD : va_D A [(mo, .inr (9, [.ref na, .ref nb, .ref nc, .ref nd, .int (bI (ms)), .int (nI mk), .ref ne, .int (nI my), .int (nI mt), .int (nI mp), .ref nf, .ref ng, .ref nh, .ref ni, .ref nj, .ref nl])), (nf, .inl (ca 0, 20, .inl (zF e))), (ng, .inl (ca 0, 20, .inl (zF f))), (nh, .inl (ca 0, 20, .inl (zF (upZ st2 k (-1))))), (sa, .inl (ca 0, 442, .inl (zF sv)))] := hD
        refine lv_iload_n hx hb dX9_plans_17 rfl (lv_at hl 0 rfl) ?_
        refine lv_aload_n hx hb dX9_plans_18 rfl (lv_at hl 3 rfl) ?_
        refine lv_iconst (v := nI (0)) hx hb dX9_plans_19 (by decide) ?_
        refine xr_iald hx hb hK hP 4 0 rfl rfl (by omega) (Nat.le_of_ble_eq_true rfl) (v := iZ (sv 0)) rfl dX9_plans_20 ?_
        refine lv_icmp_ge (tgt := 38) hx hb dX9_plans_21 (by decide) (fun h21 => ?_) (fun h21 => ?_)
        · skip
          have h21 := (cL (iZ_toInt (by omega) (by omega)) (nI_toInt (by omega))).mp h21
          refine lv_iinc (v := nI (k + 1)) (lv' := [(3, .int (nI (k + 1))), (2, .int (iZ 0)), (0, .ref mo), (1, .ref sa)]) hx hb dX9_plans_38 hl (k := 0) rfl (nI_add _ 1) (by decide) rfl (fun ls hl => ?_)
          refine lv_goto (tgt := 4) hx hb dX9_plans_41 (by decide) ?_
          exact ih4 (k + 1) (upZ st2 k (-1)) (by omega) (by rw [hs]; exact rwF_s) (fun t h1 h2 => hNC t h1 (by omega)) (by omega) _ _ hP hD hS _ (lv_sub hl [0, 1, 2, 3] rfl)
        · skip
          have h21 := (not_congr (cL (iZ_toInt (by omega) (by omega)) (nI_toInt (by omega)))).mp h21
          refine lv_aload_n hx hb dX9_plans_24 rfl (lv_at hl 3 rfl) ?_
          refine lv_bipush (v := nI (22)) hx hb dX9_plans_25 (by decide) ?_
          refine lv_iload_n hx hb dX9_plans_27 rfl (lv_at hl 0 rfl) ?_
          refine xr_iadd hx hb dX9_plans_28 ?_
          have hb1 := (hM.2.2.1 k (by omega)).2
          have hb2 := hNk k (by omega)
          refine xr_iald hx hb hK hP 4 0 rfl rfl (by omega) (Nat.le_of_ble_eq_true rfl) (v := iZ (sv (22 + k))) rfl dX9_plans_29 ?_
          refine lv_aload_n hx hb dX9_plans_30 rfl (lv_at hl 3 rfl) ?_
          refine lv_iconst (v := nI (1)) hx hb dX9_plans_31 (by decide) ?_
          refine xr_iald hx hb hK hP 4 0 rfl rfl (by omega) (Nat.le_of_ble_eq_true rfl) (v := iZ (sv 1)) rfl dX9_plans_32 ?_
          refine lv_icmp_le (tgt := 38) hx hb dX9_plans_33 (by decide) (fun h33 => ?_) (fun h33 => ?_)
          · skip
            have h33 := (cL (iZ_toInt (by omega) (by omega)) (iZ_toInt (by omega) (by omega))).mp h33
            refine lv_iinc (v := nI (k + 1)) (lv' := [(3, .int (nI (k + 1))), (2, .int (iZ 0)), (0, .ref mo), (1, .ref sa)]) hx hb dX9_plans_38 hl (k := 0) rfl (nI_add _ 1) (by decide) rfl (fun ls hl => ?_)
            refine lv_goto (tgt := 4) hx hb dX9_plans_41 (by decide) ?_
            exact ih4 (k + 1) (upZ st2 k (-1)) (by omega) (by rw [hs]; exact rwF_s) (fun t h1 h2 => if c9 : t = k then (by rw [c9]; omega) else hNC t h1 (by omega)) (by omega) _ _ hP hD hS _ (lv_sub hl [0, 1, 2, 3] rfl)
          · skip
            have h33 := (not_congr (cL (iZ_toInt (by omega) (by omega)) (iZ_toInt (by omega) (by omega)))).mp h33
            refine lv_iconst (v := iZ (-1)) hx hb dX9_plans_36 (by decide) ?_
            have h9 := nOK_f (N := N) (cr := C) (k := k) (T := T) (by omega) (by omega)
            have h6 : plR G T L N C = -1 := by unfold plR; rw [h9]; rfl
            rw [← hE]
            exact xe_i (e, f, upZ st2 k (-1)) hx hb hr hlocks hK hP hD hS (⟨by rw [h6], fun h8 => absurd (h9.symm.trans h8) Bool.noConfusion, by omega, by omega⟩) dX9_plans_37
  exact L4 _ 0 st (by omega) rwF_0 (fun t _ h => absurd h (Nat.not_lt_zero t)) (Nat.lt_succ_self _) _ _ hP hD hS _ (lv_sub hl [0, 1, 2, 3] rfl)
def rX9_allWork : Room := { frames := 0, cells := 0, slots := 0, locals := 0 }
set_option maxHeartbeats 4000000 in
set_option maxRecDepth 100000 in
theorem mX9_allWork (l : Launch) (D : va_G) (ca : Nat → ClassId) (sz : Nat) (mo : Nat) (na : Nat) (nb : Nat) (nc : Nat) (nd : Nat) (ne : Nat) (nf : Nat) (ng : Nat) (nh : Nat) (ni : Nat) (nj : Nat) (nl : Nat) (ms : Bool) (mk : Nat) (my : Nat) (mt : Nat) (mp : Nat) (sn : Nat → Int) (T : Nat) (C : Int) (L : Nat → Int) (N : Nat → Int) (G : Nat → Nat → Int) (hT : T ≤ 20) (hM : MS sn T C L N G) : MM l yX9_allWork wsX9_allWork rX9_allWork D ca [.ref mo] sz [(mo, .inr (9, [.ref na, .ref nb, .ref nc, .ref nd, .int (bI (ms)), .int (nI mk), .ref ne, .int (nI my), .int (nI mt), .int (nI mp), .ref nf, .ref ng, .ref nh, .ref ni, .ref nj, .ref nl])), (na, .inl (ca 0, 442, .inl (zF sn)))] (QI D ca (fun (r : Int32) (u : Unit) => r = iZ (sumW L N T)) (fun _ => [(mo, .inr (9, [.ref na, .ref nb, .ref nc, .ref nd, .int (bI (ms)), .int (nI mk), .ref ne, .int (nI my), .int (nI mt), .int (nI mp), .ref nf, .ref ng, .ref nh, .ref ni, .ref nj, .ref nl])), (na, .inl (ca 0, 442, .inl (zF sn)))])) := by
  refine MM_of (cc := cX9_allWork) (maxL := 3) (ret := (some .int)) (lv0 := [(0, .ref mo)]) RX9 (by decide) rfl rfl (Nat.le_of_ble_eq_true rfl) rfl ?_
  intro pG eV s mI args below meth cO hx hb hr hml hts hown hlocks hnm A hA H locs hsz hP hK hD hS Q hE ls hl
  have f7 := hts (.fieldLink RX9 7 "SlackPlanModel" "now" "[I") (List.mem_of_getElem? (i := 1) rfl)
  have inX9 : ∀ w ∈ u_ws RX9 TX9 16, w ∈ wsX9_allWork := in_r _ [2, 3, 4, 5, 6, 7, 8, 9, 10, 11, 12, 13, 14, 15, 16, 17] rfl
  refine lv_iconst (v := iZ 0) hx hb dX9_allWork_0 (by decide) ?_
  refine lv_istore_n (lv' := [(1, .int (iZ 0)), (0, .ref mo)]) hx hb dX9_allWork_1 rfl hl (by decide) rfl (fun ls hl => ?_)
  refine lv_iconst (v := nI (0)) hx hb dX9_allWork_2 (by decide) ?_
  refine lv_istore_n (lv' := [(2, .int (nI 0)), (1, .int (iZ 0)), (0, .ref mo)]) hx hb dX9_allWork_3 rfl hl (by decide) rfl (fun ls hl => ?_)
  have L4 : ∀ (fu : Nat) (j : Nat) (n : Int), (j ≤ T) → (n = sumW L N j) → (T - j) < fu → ∀ (H : Heap) (locs : List Loc), va_P D vwCl [(mo, .inr (9, [.ref na, .ref nb, .ref nc, .ref nd, .int (bI (ms)), .int (nI mk), .ref ne, .int (nI my), .int (nI mt), .int (nI mp), .ref nf, .ref ng, .ref nh, .ref ni, .ref nj, .ref nl])), (na, .inl (ca 0, 442, .inl (zF sn)))] H → va_D A [(mo, .inr (9, [.ref na, .ref nb, .ref nc, .ref nd, .int (bI (ms)), .int (nI mk), .ref ne, .int (nI my), .int (nI mt), .int (nI mp), .ref nf, .ref ng, .ref nh, .ref ni, .ref nj, .ref nl])), (na, .inl (ca 0, 442, .inl (zF sn)))] → va_S A s.heap H locs → ∀ ls : Array Slot, lv_has ls 3 [(2, .int (nI j)), (1, .int (iZ n)), (0, .ref mo)] → W pG l eV rX9_allWork s mI args below meth cO H locs 0 0 Q (F0 mI 4 ls []) := by
    clear hP hD hS hl
    intro fu; induction fu with
    | zero => intro j n hj hn hmu; exact absurd hmu (Nat.not_lt_zero _)
    | succ n4 ih4 =>
      intro j n hj hn hmu4 H locs hP hD hS ls hl
      have hs0 := hM.1
      refine lv_iload_n hx hb dX9_allWork_4 rfl (lv_at hl 0 rfl) ?_
      refine lv_aload_n hx hb dX9_allWork_5 rfl (lv_at hl 2 rfl) ?_
      refine va_get (D := D) (ci := 9) (v := .ref na) (C := RX9) (T := TX9) (N := 16) hx hb hts inX9 hown hK hP 0 rfl rfl 0 (by decide) f7 (fun _ h9 => h9) rfl dX9_allWork_6 ?_
      refine lv_iconst (v := nI (0)) hx hb dX9_allWork_9 (by decide) ?_
      refine xr_iald hx hb hK hP 1 0 rfl rfl (by omega) (Nat.le_of_ble_eq_true rfl) (v := iZ (sn 0)) rfl dX9_allWork_10 ?_
      refine lv_icmp_ge (tgt := 41) hx hb dX9_allWork_11 (by decide) (fun h11 => ?_) (fun h11 => ?_)
      · skip
        have h11 := (cL (iZ_toInt (by omega) (by omega)) (nI_toInt (by omega))).mp h11
        refine lv_iload_n hx hb dX9_allWork_41 rfl (lv_at hl 1 rfl) ?_
        rw [← hE]
        exact xe_i () hx hb hr hlocks hK hP hD hS (by rw [hn, show j = T by omega]) dX9_allWork_42
      · skip
        have h11 := (not_congr (cL (iZ_toInt (by omega) (by omega)) (nI_toInt (by omega)))).mp h11
        refine lv_iload_n hx hb dX9_allWork_14 rfl (lv_at hl 1 rfl) ?_
        refine lv_aload_n hx hb dX9_allWork_15 rfl (lv_at hl 2 rfl) ?_
        refine va_get (D := D) (ci := 9) (v := .ref na) (C := RX9) (T := TX9) (N := 16) hx hb hts inX9 hown hK hP 0 rfl rfl 0 (by decide) f7 (fun _ h9 => h9) rfl dX9_allWork_16 ?_
        refine lv_iconst (v := nI (2)) hx hb dX9_allWork_19 (by decide) ?_
        refine lv_iload_n hx hb dX9_allWork_20 rfl (lv_at hl 0 rfl) ?_
        refine xr_iadd hx hb dX9_allWork_21 ?_
        refine xr_iald hx hb hK hP 1 0 rfl rfl (by omega) (Nat.le_of_ble_eq_true rfl) (v := iZ (sn (2 + j))) rfl dX9_allWork_22 ?_
        refine xr_top (y := iZ (L j)) (congrArg iZ (hM.2.2.1 j (by omega)).1) ?_
        refine lv_aload_n hx hb dX9_allWork_23 rfl (lv_at hl 2 rfl) ?_
        refine va_get (D := D) (ci := 9) (v := .ref na) (C := RX9) (T := TX9) (N := 16) hx hb hts inX9 hown hK hP 0 rfl rfl 0 (by decide) f7 (fun _ h9 => h9) rfl dX9_allWork_24 ?_
        refine lv_bipush (v := nI (22)) hx hb dX9_allWork_27 (by decide) ?_
        refine lv_iload_n hx hb dX9_allWork_29 rfl (lv_at hl 0 rfl) ?_
        refine xr_iadd hx hb dX9_allWork_30 ?_
        refine xr_iald hx hb hK hP 1 0 rfl rfl (by omega) (Nat.le_of_ble_eq_true rfl) (v := iZ (sn (22 + j))) rfl dX9_allWork_31 ?_
        refine xr_top (y := iZ (N j)) (congrArg iZ (hM.2.2.1 j (by omega)).2) ?_
        refine xr_imul_zz hx hb dX9_allWork_32 ?_
        refine xr_iadd_zz hx hb dX9_allWork_33 ?_
        refine lv_istore_n (lv' := [(1, .int (iZ (n + ((L j) * (N j))))), (2, .int (nI j)), (0, .ref mo)]) hx hb dX9_allWork_34 rfl hl (by decide) rfl (fun ls hl => ?_)
        refine lv_iinc (v := nI (j + 1)) (lv' := [(2, .int (nI (j + 1))), (1, .int (iZ (n + ((L j) * (N j))))), (0, .ref mo)]) hx hb dX9_allWork_35 hl (k := 1) rfl (nI_add _ 1) (by decide) rfl (fun ls hl => ?_)
        refine lv_goto (tgt := 4) hx hb dX9_allWork_38 (by decide) ?_
        exact ih4 (j + 1) (n + ((L j) * (N j))) (by omega) (by rw [hn, sumW]) (by omega) _ _ hP hD hS _ (lv_sub hl [0, 1, 2] rfl)
  exact L4 _ 0 0 (by omega) rfl (Nat.lt_succ_self _) _ _ hP hD hS _ (lv_sub hl [0, 1, 2] rfl)
def rX9_adds : Room := { frames := 0, cells := 0, slots := 0, locals := 0 }
set_option maxHeartbeats 4000000 in
set_option maxRecDepth 100000 in
theorem mX9_adds (l : Launch) (D : va_G) (ca : Nat → ClassId) (sz : Nat) (sa : Nat) (sv : Nat → Int) (T : Nat) (x : Int) (y : Int) (hT : T < 20) (hs0 : sv 0 = (T : Int)) : MM l yX9_adds wsX9_adds rX9_adds D ca [.ref sa, .int (iZ x), .int (iZ y)] sz [(sa, .inl (ca 0, 442, .inl (zF sv)))] (QI D ca (fun (r : Int32) (u : Unit) => r = nI T) (fun _ => [(sa, .inl (ca 0, 442, .inl (zF (upZ (upZ (upZ sv (2 + T) x) (22 + T) y) 0 ((T : Int) + 1)))))])) := by
  refine MM_of (cc := cX9_adds) (maxL := 3) (ret := (some .int)) (lv0 := [(0, .ref sa), (1, .int (iZ x)), (2, .int (iZ y))]) RX9 (by decide) rfl rfl (Nat.le_of_ble_eq_true rfl) rfl ?_
  intro pG eV s mI args below meth cO hx hb hr hml hts hown hlocks hnm A hA H locs hsz hP hK hD hS Q hE ls hl
  refine lv_aload_n hx hb dX9_adds_0 rfl (lv_at hl 0 rfl) ?_
  refine lv_iconst (v := nI (2)) hx hb dX9_adds_1 (by decide) ?_
  refine lv_aload_n hx hb dX9_adds_2 rfl (lv_at hl 0 rfl) ?_
  refine lv_iconst (v := nI (0)) hx hb dX9_adds_3 (by decide) ?_
  refine xr_iald hx hb hK hP 0 0 rfl rfl (by omega) (Nat.le_of_ble_eq_true rfl) (v := iZ (sv 0)) rfl dX9_adds_4 ?_
  refine xr_top (y := nI (T)) (by rw [iZ_n]; exact congrArg iZ hs0) ?_
  refine xr_iadd hx hb dX9_adds_5 ?_
  refine lv_iload_n hx hb dX9_adds_6 rfl (lv_at hl 1 rfl) ?_
  refine xr_iast hx hb hK hP hD hS 0 0 rfl rfl (by omega) (Nat.le_of_ble_eq_true rfl) (zF (upZ sv (2 + T) x)) (fun _ _ => zF_up _ _ _ _) dX9_adds_7 (fun H locs hP hD hS => ?_)
  have hP : va_P D vwCl [(sa, .inl (ca 0, 442, .inl (zF (upZ sv (2 + T) x))))] H := hP
  have hD : va_D A [(sa, .inl (ca 0, 442, .inl (zF (upZ sv (2 + T) x))))] := hD
  refine lv_aload_n hx hb dX9_adds_8 rfl (lv_at hl 0 rfl) ?_
  refine lv_bipush (v := nI (22)) hx hb dX9_adds_9 (by decide) ?_
  refine lv_aload_n hx hb dX9_adds_11 rfl (lv_at hl 0 rfl) ?_
  refine lv_iconst (v := nI (0)) hx hb dX9_adds_12 (by decide) ?_
  refine xr_iald hx hb hK hP 0 0 rfl rfl (by omega) (Nat.le_of_ble_eq_true rfl) (v := iZ ((upZ sv (2 + T) x) 0)) rfl dX9_adds_13 ?_
  refine xr_top (y := nI (T)) (by rw [iZ_n, upZ_n (by omega)]; exact congrArg iZ hs0) ?_
  refine xr_iadd hx hb dX9_adds_14 ?_
  refine lv_iload_n hx hb dX9_adds_15 rfl (lv_at hl 2 rfl) ?_
  refine xr_iast hx hb hK hP hD hS 0 0 rfl rfl (by omega) (Nat.le_of_ble_eq_true rfl) (zF (upZ (upZ sv (2 + T) x) (22 + T) y)) (fun _ _ => zF_up _ _ _ _) dX9_adds_16 (fun H locs hP hD hS => ?_)
  have hP : va_P D vwCl [(sa, .inl (ca 0, 442, .inl (zF (upZ (upZ sv (2 + T) x) (22 + T) y))))] H := hP
  have hD : va_D A [(sa, .inl (ca 0, 442, .inl (zF (upZ (upZ sv (2 + T) x) (22 + T) y))))] := hD
  refine lv_aload_n hx hb dX9_adds_17 rfl (lv_at hl 0 rfl) ?_
  refine lv_iconst (v := nI (0)) hx hb dX9_adds_18 (by decide) ?_
  refine lv_dup2_11 hx hb dX9_adds_19 rfl rfl ?_
  refine xr_iald hx hb hK hP 0 0 rfl rfl (by omega) (Nat.le_of_ble_eq_true rfl) (v := iZ ((upZ (upZ sv (2 + T) x) (22 + T) y) 0)) rfl dX9_adds_20 ?_
  refine xr_top (y := iZ ((T : Int))) (congrArg iZ (by rw [upZ_n (by omega), upZ_n (by omega)]; exact hs0)) ?_
  refine lv_iconst (v := nI (1)) hx hb dX9_adds_21 (by decide) ?_
  refine xr_iadd_zn hx hb dX9_adds_22 ?_
  refine xr_iast hx hb hK hP hD hS 0 0 rfl rfl (by omega) (Nat.le_of_ble_eq_true rfl) (zF (upZ (upZ (upZ sv (2 + T) x) (22 + T) y) 0 ((T : Int) + 1))) (fun _ _ => zF_up _ _ _ _) dX9_adds_23 (fun H locs hP hD hS => ?_)
  have hP : va_P D vwCl [(sa, .inl (ca 0, 442, .inl (zF (upZ (upZ (upZ sv (2 + T) x) (22 + T) y) 0 ((T : Int) + 1)))))] H := hP
  have hD : va_D A [(sa, .inl (ca 0, 442, .inl (zF (upZ (upZ (upZ sv (2 + T) x) (22 + T) y) 0 ((T : Int) + 1)))))] := hD
  refine lv_aload_n hx hb dX9_adds_24 rfl (lv_at hl 0 rfl) ?_
  refine lv_iconst (v := nI (0)) hx hb dX9_adds_25 (by decide) ?_
  refine xr_iald hx hb hK hP 0 0 rfl rfl (by omega) (Nat.le_of_ble_eq_true rfl) (v := iZ ((upZ (upZ (upZ sv (2 + T) x) (22 + T) y) 0 ((T : Int) + 1)) 0)) rfl dX9_adds_26 ?_
  refine xr_top (y := iZ ((T : Int) + 1)) (congrArg iZ upZ_s) ?_
  refine lv_iconst (v := nI (1)) hx hb dX9_adds_27 (by decide) ?_
  refine xr_isub_zn hx hb dX9_adds_28 ?_
  refine xr_top (y := nI (T)) (by rw [iZ_n]; exact congrArg iZ (by omega)) ?_
  rw [← hE]
  exact xe_i () hx hb hr hlocks hK hP hD hS rfl dX9_adds_29

