def rX9_reads : Room := { frames := 4, cells := 0, slots := 0, locals := 93 }
set_option maxHeartbeats 4000000 in
set_option maxRecDepth 100000 in
theorem mX9_reads (l : Launch) (D : va_G) (ca : Nat → ClassId) (sz : Nat) (mo : Nat) (na : Nat) (nb : Nat) (nc : Nat) (nd : Nat) (ne : Nat) (nf : Nat) (ng : Nat) (nh : Nat) (ni : Nat) (nj : Nat) (nl : Nat) (ms : Bool) (mk : Nat) (my : Nat) (mt : Nat) (mp : Nat) (sn : Nat → Int) (sv : Nat → Int) (sg : Nat → Int) (C : Int) (hmy : my ≤ 60) (hsg : ∀ j, j < 60 → 0 ≤ sg j ∧ sg j ≤ 65535) (hs1 : sn 1 = C) : MM l yX9_reads wsX9_reads rX9_reads D ca [.ref mo] sz [(mo, .inr (9, [.ref na, .ref nb, .ref nc, .ref nd, .int (bI (ms)), .int (nI mk), .ref ne, .int (nI my), .int (nI mt), .int (nI mp), .ref nf, .ref ng, .ref nh, .ref ni, .ref nj, .ref nl])), (na, .inl (ca 0, 442, .inl (zF sn))), (nb, .inl (ca 0, 442, .inl (zF sv))), (ne, .inl (ca 0, 60, .inl (zF sg)))] (QI D ca (fun (r : Int32) (u : Nat × (Nat → Int)) => r = bI (prs sg my).1 ∧ u.1 = (prs sg my).2.1 ∧ ((prs sg my).1 = true → MS u.2 (prs sg my).2.2.1 C (prs sg my).2.2.2.1 (prs sg my).2.2.2.2.1 (prs sg my).2.2.2.2.2)) (fun u => [(mo, .inr (9, [.ref na, .ref nb, .ref nc, .ref nd, .int (bI (ms)), .int (nI mk), .ref ne, .int (nI my), .int (nI mt), .int (nI u.1), .ref nf, .ref ng, .ref nh, .ref ni, .ref nj, .ref nl])), (na, .inl (ca 0, 442, .inl (zF sn))), (nb, .inl (ca 0, 442, .inl (zF u.2))), (ne, .inl (ca 0, 60, .inl (zF sg)))])) := by
  refine MM_of (cc := cX9_reads) (maxL := 2) (ret := (some .boolean)) (lv0 := [(0, .ref mo)]) RX9 (by decide) rfl rfl (Nat.le_of_ble_eq_true rfl) rfl ?_
  intro pG eV s mI args below meth cO hx hb hr hml hts hown hlocks hnm A hA H locs hsz hP hK hD hS Q hE ls hl
  have f13 := hts (.fieldLink RX9 13 "SlackPlanModel" "then" "[I") (List.mem_of_getElem? (i := 1) rfl)
  have inX9 : ∀ w ∈ u_ws RX9 TX9 16, w ∈ wsX9_reads := in_r _ [29, 30, 31, 32, 33, 34, 35, 36, 37, 38, 39, 40, 41, 42, 43, 44] rfl
  have f7 := hts (.fieldLink RX9 7 "SlackPlanModel" "now" "[I") (List.mem_of_getElem? (i := 2) rfl)
  have f105 := hts (.fieldLink RX9 105 "SlackPlanModel" "at" "I") (List.mem_of_getElem? (i := 3) rfl)
  have f108 := hts (.fieldLink RX9 108 "SlackPlanModel" "typed" "I") (List.mem_of_getElem? (i := 4) rfl)
  refine lv_iconst (v := nI (0)) hx hb dX9_reads_0 (by decide) ?_
  refine lv_istore_n (lv' := [(1, .int (nI 0)), (0, .ref mo)]) hx hb dX9_reads_1 rfl hl (by decide) rfl (fun ls hl => ?_)
  have L2 : ∀ (fu : Nat) (k : Nat) (sv2 : Nat → Int), (k ≤ 442) → (sv2 = rwF sv (fun j => if j < 42 then 0 else -1) k) → (442 - k) < fu → ∀ (H : Heap) (locs : List Loc), va_P D vwCl [(mo, .inr (9, [.ref na, .ref nb, .ref nc, .ref nd, .int (bI (ms)), .int (nI mk), .ref ne, .int (nI my), .int (nI mt), .int (nI mp), .ref nf, .ref ng, .ref nh, .ref ni, .ref nj, .ref nl])), (na, .inl (ca 0, 442, .inl (zF sn))), (nb, .inl (ca 0, 442, .inl (zF sv2))), (ne, .inl (ca 0, 60, .inl (zF sg)))] H → va_D A [(mo, .inr (9, [.ref na, .ref nb, .ref nc, .ref nd, .int (bI (ms)), .int (nI mk), .ref ne, .int (nI my), .int (nI mt), .int (nI mp), .ref nf, .ref ng, .ref nh, .ref ni, .ref nj, .ref nl])), (na, .inl (ca 0, 442, .inl (zF sn))), (nb, .inl (ca 0, 442, .inl (zF sv2))), (ne, .inl (ca 0, 60, .inl (zF sg)))] → va_S A s.heap H locs → ∀ ls : Array Slot, lv_has ls 2 [(1, .int (nI k)), (0, .ref mo)] → W pG l eV rX9_reads s mI args below meth cO H locs 0 0 Q (F0 mI 2 ls []) := by
    clear hP hD hS hl
    intro fu; induction fu with
    | zero => intro k sv2 hk hrw hmu; exact absurd hmu (Nat.not_lt_zero _)
    | succ n2 ih2 =>
      intro k sv2 hk hrw hmu2 H locs hP hD hS ls hl
      refine lv_iload_n hx hb dX9_reads_2 rfl (lv_at hl 0 rfl) ?_
      refine lv_sipush (v := nI (442)) hx hb dX9_reads_3 (by decide) ?_
      refine lv_icmp_ge (tgt := 32) hx hb dX9_reads_6 (by decide) (fun h6 => ?_) (fun h6 => ?_)
      · skip
        have h6 := (cL (nI_toInt (by omega)) (nI_toInt (by omega))).mp h6
        refine lv_aload_n hx hb dX9_reads_32 rfl (lv_at hl 1 rfl) ?_
        have e9 : k = 442 := by omega
        rw [e9] at hrw
        refine va_get (D := D) (ci := 9) (v := .ref nb) (C := RX9) (T := TX9) (N := 16) hx hb hts inX9 hown hK hP 0 rfl rfl 1 (by decide) f13 (fun _ h9 => h9) rfl dX9_reads_33 ?_
        refine lv_iconst (v := nI (1)) hx hb dX9_reads_36 (by decide) ?_
        refine lv_aload_n hx hb dX9_reads_37 rfl (lv_at hl 1 rfl) ?_
        refine va_get (D := D) (ci := 9) (v := .ref na) (C := RX9) (T := TX9) (N := 16) hx hb hts inX9 hown hK hP 0 rfl rfl 0 (by decide) f7 (fun _ h9 => h9) rfl dX9_reads_38 ?_
        refine lv_iconst (v := nI (1)) hx hb dX9_reads_41 (by decide) ?_
        refine xr_iald hx hb hK hP 1 0 rfl rfl (by omega) (Nat.le_of_ble_eq_true rfl) (v := iZ (sn 1)) rfl dX9_reads_42 ?_
        refine xr_iast hx hb hK hP hD hS 2 0 rfl rfl (by omega) (Nat.le_of_ble_eq_true rfl) (zF (upZ sv2 1 (sn 1))) (fun _ _ => zF_up _ _ _ _) dX9_reads_43 (fun H locs hP hD hS => ?_)
        have hP : va_P D vwCl [(mo, .inr (9, [.ref na, .ref nb, .ref nc, .ref nd, .int (bI (ms)), .int (nI mk), .ref ne, .int (nI my), .int (nI mt), .int (nI mp), .ref nf, .ref ng, .ref nh, .ref ni, .ref nj, .ref nl])), (na, .inl (ca 0, 442, .inl (zF sn))), (nb, .inl (ca 0, 442, .inl (zF (upZ sv2 1 (sn 1))))), (ne, .inl (ca 0, 60, .inl (zF sg)))] H := hP
        have hD : va_D A [(mo, .inr (9, [.ref na, .ref nb, .ref nc, .ref nd, .int (bI (ms)), .int (nI mk), .ref ne, .int (nI my), .int (nI mt), .int (nI mp), .ref nf, .ref ng, .ref nh, .ref ni, .ref nj, .ref nl])), (na, .inl (ca 0, 442, .inl (zF sn))), (nb, .inl (ca 0, 442, .inl (zF (upZ sv2 1 (sn 1))))), (ne, .inl (ca 0, 60, .inl (zF sg)))] := hD
        refine lv_aload_n hx hb dX9_reads_44 rfl (lv_at hl 1 rfl) ?_
        refine lv_iconst (v := nI (0)) hx hb dX9_reads_45 (by decide) ?_
        refine va_put (D := D) (ci := 9) (v := .int (nI 0)) (ty := .int) (C := RX9) (T := TX9) (N := 16) hx hb hts inX9 tyX9 tyX9_ok nmX9 hown hK hP hD hS 0 rfl rfl 9 (by decide) f105 (fun _ h9 => h9) rfl (by decide +kernel) rfl rfl (Nat.le_of_ble_eq_true rfl) dX9_reads_46 (fun H locs hP hD hS => ?_)
        have hP : va_P D vwCl [(mo, .inr (9, [.ref na, .ref nb, .ref nc, .ref nd, .int (bI (ms)), .int (nI mk), .ref ne, .int (nI my), .int (nI mt), .int (nI 0), .ref nf, .ref ng, .ref nh, .ref ni, .ref nj, .ref nl])), (na, .inl (ca 0, 442, .inl (zF sn))), (nb, .inl (ca 0, 442, .inl (zF (upZ sv2 1 (sn 1))))), (ne, .inl (ca 0, 60, .inl (zF sg)))] H := hP
        have hD : va_D A [(mo, .inr (9, [.ref na, .ref nb, .ref nc, .ref nd, .int (bI (ms)), .int (nI mk), .ref ne, .int (nI my), .int (nI mt), .int (nI 0), .ref nf, .ref ng, .ref nh, .ref ni, .ref nj, .ref nl])), (na, .inl (ca 0, 442, .inl (zF sn))), (nb, .inl (ca 0, 442, .inl (zF (upZ sv2 1 (sn 1))))), (ne, .inl (ca 0, 60, .inl (zF sg)))] := hD
        refine lv_aload_n hx hb dX9_reads_49 rfl (lv_at hl 1 rfl) ?_
        refine lv_iconst (v := nI (0)) hx hb dX9_reads_50 (by decide) ?_
        refine xk_i [(na, .inl (ca 0, 442, .inl (zF sn)))] (fun u => [(mo, .inr (9, [.ref na, .ref nb, .ref nc, .ref nd, .int (bI (ms)), .int (nI mk), .ref ne, .int (nI my), .int (nI mt), .int (nI u.1), .ref nf, .ref ng, .ref nh, .ref ni, .ref nj, .ref nl])), (na, .inl (ca 0, 442, .inl (zF sn))), (nb, .inl (ca 0, 442, .inl (zF u.2))), (ne, .inl (ca 0, 60, .inl (zF sg)))]) (xk_V (As := [.int (nI 0)]) (rest := []) ⟨hx, hb, hml, hown, hts⟩ (mX9_task l D ca H.size mo na nb nc nd ne nf ng nh ni nj nl ms mk my mt 0 (upZ sv2 1 (sn 1)) sg 0 C (fun _ => 0) (fun _ => 0) noG (by omega) hsg (by omega) (by rw [hrw]; exact MS_new (by omega) hs1) (by omega)) (cwV 1 hts gX9_reads_X9_task rfl rfl rfl (by decide +kernel) ⟨Nat.le_of_ble_eq_true rfl, Nat.le_of_ble_eq_true rfl⟩) hK hP hD (va_recv (q := (RX9, TX9, 16)) hK hP (ci := 9) (q0 := 0) rfl rfl) [0, 2, 3] rfl rfl rfl hl.1 rfl (Nat.le_of_ble_eq_true rfl) dX9_reads_51 ⟨Nat.le_of_ble_eq_true rfl, Nat.le_of_ble_eq_true rfl⟩) hP hD hS hA [0, 2, 3] [1] [1, 0, 2, 3] rfl rfl rfl rfl (fun _ => rfl) rfl (fun r51 u51 H locs hw51 hP hD hS => ?_)
        obtain ⟨p151, sv151⟩ := u51
        have hw51 : r51 = bI (tkN sg my 0 0 noG).1 ∧ p151 = (tkN sg my 0 0 noG).2.1 ∧ ((tkN sg my 0 0 noG).1 = true → MS sv151 (0 + 1) C (upZ (fun _ => 0) 0 (tkN sg my 0 0 noG).2.2.1) (upZ (fun _ => 0) 0 (tkN sg my 0 0 noG).2.2.2.1) (tkN sg my 0 0 noG).2.2.2.2) := hw51
        have hP : va_P D vwCl [(mo, .inr (9, [.ref na, .ref nb, .ref nc, .ref nd, .int (bI (ms)), .int (nI mk), .ref ne, .int (nI my), .int (nI mt), .int (nI p151), .ref nf, .ref ng, .ref nh, .ref ni, .ref nj, .ref nl])), (na, .inl (ca 0, 442, .inl (zF sn))), (nb, .inl (ca 0, 442, .inl (zF sv151))), (ne, .inl (ca 0, 60, .inl (zF sg)))] H := hP
        have hD : va_D A [(mo, .inr (9, [.ref na, .ref nb, .ref nc, .ref nd, .int (bI (ms)), .int (nI mk), .ref ne, .int (nI my), .int (nI mt), .int (nI p151), .ref nf, .ref ng, .ref nh, .ref ni, .ref nj, .ref nl])), (na, .inl (ca 0, 442, .inl (zF sn))), (nb, .inl (ca 0, 442, .inl (zF sv151))), (ne, .inl (ca 0, 60, .inl (zF sg)))] := hD
        obtain ⟨hwr51, hv51⟩ := hw51
        subst hwr51
        refine lv_istore_n (lv' := [(1, .int (bI ((tkN sg my 0 0 noG).1))), (0, .ref mo)]) hx hb dX9_reads_54 rfl hl (by decide) rfl (fun ls hl => ?_)
        have L55 : ∀ (fu : Nat) (ok : Bool) (k : Nat) (p : Nat) (sv2 : Nat → Int) (Lc : Nat → Int) (Nc : Nat → Int) (G2 : Nat → Nat → Int), (p ≤ my) → (k ≤ 20) → (ok = true → 1 ≤ k ∧ k ≤ 20 ∧ FWD G2 k ∧ MS sv2 k C Lc Nc G2 ∧ prs sg my = rdA sg my (20 - k) k p Lc Nc G2) → (ok = false → (prs sg my).1 = false ∧ p = (prs sg my).2.1) → (20 - k + ok.toNat) < fu → ∀ (H : Heap) (locs : List Loc), va_P D vwCl [(mo, .inr (9, [.ref na, .ref nb, .ref nc, .ref nd, .int (bI (ms)), .int (nI mk), .ref ne, .int (nI my), .int (nI mt), .int (nI p), .ref nf, .ref ng, .ref nh, .ref ni, .ref nj, .ref nl])), (na, .inl (ca 0, 442, .inl (zF sn))), (nb, .inl (ca 0, 442, .inl (zF sv2))), (ne, .inl (ca 0, 60, .inl (zF sg)))] H → va_D A [(mo, .inr (9, [.ref na, .ref nb, .ref nc, .ref nd, .int (bI (ms)), .int (nI mk), .ref ne, .int (nI my), .int (nI mt), .int (nI p), .ref nf, .ref ng, .ref nh, .ref ni, .ref nj, .ref nl])), (na, .inl (ca 0, 442, .inl (zF sn))), (nb, .inl (ca 0, 442, .inl (zF sv2))), (ne, .inl (ca 0, 60, .inl (zF sg)))] → va_S A s.heap H locs → ∀ ls : Array Slot, lv_has ls 2 [(1, .int (bI (ok))), (0, .ref mo)] → W pG l eV rX9_reads s mI args below meth cO H locs 0 0 Q (F0 mI 55 ls []) := by
          clear hP hD hS hl
          intro fu; induction fu with
          | zero => intro ok k p sv2 Lc Nc G2 hp hk ha9 hrF hmu; exact absurd hmu (Nat.not_lt_zero _)
          | succ n55 ih55 =>
            intro ok k p sv2 Lc Nc G2 hp hk ha9 hrF hmu55 H locs hP hD hS ls hl
            refine lv_iload_n hx hb dX9_reads_55 rfl (lv_at hl 0 rfl) ?_
            refine lv_if_eq (tgt := 95) hx hb dX9_reads_56 (by decide) (fun h56 => ?_) (fun h56 => ?_)
            · skip
              have h56 := bI_0.mp h56
              refine lv_iload_n hx hb dX9_reads_95 rfl (lv_at hl 0 rfl) ?_
              refine lv_if_eq (tgt := 114) hx hb dX9_reads_96 (by decide) (fun h96 => ?_) (fun h96 => ?_)
              · skip
                have h96 := bI_0.mp h96
                refine lv_iconst (v := nI (0)) hx hb dX9_reads_114 (by decide) ?_
                have hb9 := hrF h56
                rw [← hE]
                exact xe_z (p, sv2) hx hb hr hlocks hK hP hD hS rfl (⟨by rw [hb9.1]; rfl, hb9.2, fun h9 => by rw [hb9.1] at h9; cases h9⟩) dX9_reads_115
              · skip
                have h96 := bI_n0.mp h96
                exact absurd (h56.symm.trans h96) Bool.noConfusion
            · skip
              have h56 := bI_n0.mp h56
              have ha := ha9 h56
              have hfz : 20 - k = (20 - k - 1) + 1 ∨ k = 20 := by omega
              refine lv_aload_n hx hb dX9_reads_59 rfl (lv_at hl 1 rfl) ?_
              refine va_get (D := D) (ci := 9) (v := .ref nb) (C := RX9) (T := TX9) (N := 16) hx hb hts inX9 hown hK hP 0 rfl rfl 1 (by decide) f13 (fun _ h9 => h9) rfl dX9_reads_60 ?_
              refine lv_iconst (v := nI (0)) hx hb dX9_reads_63 (by decide) ?_
              refine xr_iald hx hb hK hP 2 0 rfl rfl (by omega) (Nat.le_of_ble_eq_true rfl) (v := iZ (sv2 0)) rfl dX9_reads_64 ?_
              refine xr_top (y := nI (k)) (by rw [iZ_n]; exact congrArg iZ ha.2.2.2.1.1) ?_
              refine lv_bipush (v := nI (20)) hx hb dX9_reads_65 (by decide) ?_
              refine lv_icmp_ge (tgt := 95) hx hb dX9_reads_67 (by decide) (fun h67 => ?_) (fun h67 => ?_)
              · skip
                have h67 := (cL (nI_toInt (by omega)) (nI_toInt (by omega))).mp h67
                refine lv_iload_n hx hb dX9_reads_95 rfl (lv_at hl 0 rfl) ?_
                refine lv_if_eq (tgt := 114) hx hb dX9_reads_96 (by decide) (fun h96 => ?_) (fun h96 => ?_)
                · skip
                  have h96 := bI_0.mp h96
                  exact absurd (h56.symm.trans h96) Bool.noConfusion
                · skip
                  have h96 := bI_n0.mp h96
                  refine lv_aload_n hx hb dX9_reads_99 rfl (lv_at hl 1 rfl) ?_
                  refine va_get (D := D) (ci := 9) (v := .int (nI p)) (C := RX9) (T := TX9) (N := 16) hx hb hts inX9 hown hK hP 0 rfl rfl 9 (by decide) f105 (fun _ h9 => h9) rfl dX9_reads_100 ?_
                  refine lv_aload_n hx hb dX9_reads_103 rfl (lv_at hl 1 rfl) ?_
                  refine va_get (D := D) (ci := 9) (v := .int (nI my)) (C := RX9) (T := TX9) (N := 16) hx hb hts inX9 hown hK hP 0 rfl rfl 7 (by decide) f108 (fun _ h9 => h9) rfl dX9_reads_104 ?_
                  refine lv_icmp_ne (tgt := 114) hx hb dX9_reads_107 (by decide) (fun h107 => ?_) (fun h107 => ?_)
                  · skip
                    have h107 := (not_congr (cE (nI_toInt (by omega)) (nI_toInt (by omega)))).mp h107
                    refine lv_iconst (v := nI (0)) hx hb dX9_reads_114 (by decide) ?_
                    have h9 := ha.2.2.2.2.trans (rdA_e (Or.inl (by omega)))
                    rw [← hE]
                    exact xe_z (p, sv2) hx hb hr hlocks hK hP hD hS rfl (⟨by rw [h9]; show _ = bI (decide _); rw [decide_eq_false (show ¬ p = my by omega)]; rfl, by rw [h9], fun _ => by rw [h9]; exact ha.2.2.2.1⟩) dX9_reads_115
                  · skip
                    have h107 := (cE (nI_toInt (by omega)) (nI_toInt (by omega))).mp h107
                    refine lv_iconst (v := nI (1)) hx hb dX9_reads_110 (by decide) ?_
                    refine lv_goto (tgt := 115) hx hb dX9_reads_111 (by decide) ?_
                    have h9 := ha.2.2.2.2.trans (rdA_e (Or.inl (by omega)))
                    rw [← hE]
                    exact xe_z (p, sv2) hx hb hr hlocks hK hP hD hS rfl (⟨by rw [h9]; show _ = bI (decide _); rw [decide_eq_true (show p = my by omega)]; rfl, by rw [h9], fun _ => by rw [h9]; exact ha.2.2.2.1⟩) dX9_reads_115
              · skip
                have h67 := (not_congr (cL (nI_toInt (by omega)) (nI_toInt (by omega)))).mp h67
                have hfz : 20 - k = (20 - k - 1) + 1 := by omega
                refine lv_aload_n hx hb dX9_reads_70 rfl (lv_at hl 1 rfl) ?_
                refine lv_bipush (v := nI (59)) hx hb dX9_reads_71 (by decide) ?_
                refine lv_bipush (v := nI (59)) hx hb dX9_reads_73 (by decide) ?_
                refine xk_i [(na, .inl (ca 0, 442, .inl (zF sn))), (nb, .inl (ca 0, 442, .inl (zF sv2)))] (fun u => [(mo, .inr (9, [.ref na, .ref nb, .ref nc, .ref nd, .int (bI (ms)), .int (nI mk), .ref ne, .int (nI my), .int (nI mt), .int (nI u), .ref nf, .ref ng, .ref nh, .ref ni, .ref nj, .ref nl])), (na, .inl (ca 0, 442, .inl (zF sn))), (nb, .inl (ca 0, 442, .inl (zF sv2))), (ne, .inl (ca 0, 60, .inl (zF sg)))]) (xk_V (As := [.int (nI 59), .int (nI 59)]) (rest := []) ⟨hx, hb, hml, hown, hts⟩ (mX9_next l D ca H.size mo na nb nc nd ne nf ng nh ni nj nl ms mk my mt p sg 59 59 0 (by omega) hsg (by omega) (by omega)) (cwV 2 hts gX9_reads_X9_next rfl rfl rfl (by decide +kernel) ⟨Nat.le_of_ble_eq_true rfl, Nat.le_of_ble_eq_true rfl⟩) hK hP hD (va_recv (q := (RX9, TX9, 16)) hK hP (ci := 9) (q0 := 0) rfl rfl) [0, 3] rfl rfl rfl hl.1 rfl (Nat.le_of_ble_eq_true rfl) dX9_reads_75 ⟨Nat.le_of_ble_eq_true rfl, Nat.le_of_ble_eq_true rfl⟩) hP hD hS hA [0, 3] [1, 2] [2, 0, 1, 3] rfl rfl rfl rfl (fun _ => rfl) rfl (fun r75 u75 H locs hw75 hP hD hS => ?_)
                obtain ⟨p175, hu75⟩ : ∃ z, z = u75 := ⟨_, rfl⟩
                subst hu75
                have hw75 : r75 = iZ (rdV sg my p 59 0 0) ∧ p175 = rdP sg my p 59 0 0 := hw75
                have hP : va_P D vwCl [(mo, .inr (9, [.ref na, .ref nb, .ref nc, .ref nd, .int (bI (ms)), .int (nI mk), .ref ne, .int (nI my), .int (nI mt), .int (nI p175), .ref nf, .ref ng, .ref nh, .ref ni, .ref nj, .ref nl])), (na, .inl (ca 0, 442, .inl (zF sn))), (nb, .inl (ca 0, 442, .inl (zF sv2))), (ne, .inl (ca 0, 60, .inl (zF sg)))] H := hP
                have hD : va_D A [(mo, .inr (9, [.ref na, .ref nb, .ref nc, .ref nd, .int (bI (ms)), .int (nI mk), .ref ne, .int (nI my), .int (nI mt), .int (nI p175), .ref nf, .ref ng, .ref nh, .ref ni, .ref nj, .ref nl])), (na, .inl (ca 0, 442, .inl (zF sn))), (nb, .inl (ca 0, 442, .inl (zF sv2))), (ne, .inl (ca 0, 60, .inl (zF sg)))] := hD
                obtain ⟨hwr75, hv75⟩ := hw75
                subst hwr75
                have hq7 := rdV_rng sg my p 59 0 0
                refine lv_if_ne (tgt := 95) hx hb dX9_reads_78 (by decide) (fun h78 => ?_) (fun h78 => ?_)
                · skip
                  have h78 := (not_congr (cE (iZ_toInt (by omega) (by omega)) z0_toInt)).mp h78
                  have hc59 : rdC sg my p 59 0 0 = false := by rcases rd0V (sg := sg) (tl := my) (p := p) (z := 59) with h9 | h9; (first | exact h9.2 | exact absurd h9.1 (by omega)); (first | exact h9.2 | exact absurd h9.1 (by omega))
                  have e9 : p = p175 := Eq.symm (hv75.trans (rdP_f hc59))
                  subst e9
                  have hP : va_P D vwCl [(mo, .inr (9, [.ref na, .ref nb, .ref nc, .ref nd, .int (bI (ms)), .int (nI mk), .ref ne, .int (nI my), .int (nI mt), .int (nI p), .ref nf, .ref ng, .ref nh, .ref ni, .ref nj, .ref nl])), (na, .inl (ca 0, 442, .inl (zF sn))), (nb, .inl (ca 0, 442, .inl (zF sv2))), (ne, .inl (ca 0, 60, .inl (zF sg)))] H := hP
                  have hD : va_D A [(mo, .inr (9, [.ref na, .ref nb, .ref nc, .ref nd, .int (bI (ms)), .int (nI mk), .ref ne, .int (nI my), .int (nI mt), .int (nI p), .ref nf, .ref ng, .ref nh, .ref ni, .ref nj, .ref nl])), (na, .inl (ca 0, 442, .inl (zF sn))), (nb, .inl (ca 0, 442, .inl (zF sv2))), (ne, .inl (ca 0, 60, .inl (zF sg)))] := hD
                  refine lv_iload_n hx hb dX9_reads_95 rfl (lv_at hl 0 rfl) ?_
                  refine lv_if_eq (tgt := 114) hx hb dX9_reads_96 (by decide) (fun h96 => ?_) (fun h96 => ?_)
                  · skip
                    have h96 := bI_0.mp h96
                    exact absurd (h56.symm.trans h96) Bool.noConfusion
                  · skip
                    have h96 := bI_n0.mp h96
                    refine lv_aload_n hx hb dX9_reads_99 rfl (lv_at hl 1 rfl) ?_
                    refine va_get (D := D) (ci := 9) (v := .int (nI p)) (C := RX9) (T := TX9) (N := 16) hx hb hts inX9 hown hK hP 0 rfl rfl 9 (by decide) f105 (fun _ h9 => h9) rfl dX9_reads_100 ?_
                    refine lv_aload_n hx hb dX9_reads_103 rfl (lv_at hl 1 rfl) ?_
                    refine va_get (D := D) (ci := 9) (v := .int (nI my)) (C := RX9) (T := TX9) (N := 16) hx hb hts inX9 hown hK hP 0 rfl rfl 7 (by decide) f108 (fun _ h9 => h9) rfl dX9_reads_104 ?_
                    refine lv_icmp_ne (tgt := 114) hx hb dX9_reads_107 (by decide) (fun h107 => ?_) (fun h107 => ?_)
                    · skip
                      have h107 := (not_congr (cE (nI_toInt (by omega)) (nI_toInt (by omega)))).mp h107
                      refine lv_iconst (v := nI (0)) hx hb dX9_reads_114 (by decide) ?_
                      have h9 := ha.2.2.2.2.trans (rdA_e (Or.inr hc59))
                      rw [← hE]
                      exact xe_z (p, sv2) hx hb hr hlocks hK hP hD hS rfl (⟨by rw [h9]; show _ = bI (decide _); rw [decide_eq_false (show ¬ p = my by omega)]; rfl, by rw [h9], fun _ => by rw [h9]; exact ha.2.2.2.1⟩) dX9_reads_115
                    · skip
                      have h107 := (cE (nI_toInt (by omega)) (nI_toInt (by omega))).mp h107
                      refine lv_iconst (v := nI (1)) hx hb dX9_reads_110 (by decide) ?_
                      refine lv_goto (tgt := 115) hx hb dX9_reads_111 (by decide) ?_
                      have h9 := ha.2.2.2.2.trans (rdA_e (Or.inr hc59))
                      rw [← hE]
                      exact xe_z (p, sv2) hx hb hr hlocks hK hP hD hS rfl (⟨by rw [h9]; show _ = bI (decide _); rw [decide_eq_true (show p = my by omega)]; rfl, by rw [h9], fun _ => by rw [h9]; exact ha.2.2.2.1⟩) dX9_reads_115
                · skip
                  have h78 := (cE (iZ_toInt (by omega) (by omega)) z0_toInt).mp h78
                  have hc59 : rdC sg my p 59 0 0 = true := by rcases rd0V (sg := sg) (tl := my) (p := p) (z := 59) with h9 | h9; (first | exact h9.2 | exact absurd h9.1 (by omega)); (first | exact h9.2 | exact absurd h9.1 (by omega))
                  have hq59 := (decide_eq_true_iff).mp hc59
                  have e9 : p + 1 = p175 := Eq.symm (hv75.trans (rdP_t hc59))
                  subst e9
                  have hP : va_P D vwCl [(mo, .inr (9, [.ref na, .ref nb, .ref nc, .ref nd, .int (bI (ms)), .int (nI mk), .ref ne, .int (nI my), .int (nI mt), .int (nI ((p + 1))), .ref nf, .ref ng, .ref nh, .ref ni, .ref nj, .ref nl])), (na, .inl (ca 0, 442, .inl (zF sn))), (nb, .inl (ca 0, 442, .inl (zF sv2))), (ne, .inl (ca 0, 60, .inl (zF sg)))] H := hP
                  have hD : va_D A [(mo, .inr (9, [.ref na, .ref nb, .ref nc, .ref nd, .int (bI (ms)), .int (nI mk), .ref ne, .int (nI my), .int (nI mt), .int (nI ((p + 1))), .ref nf, .ref ng, .ref nh, .ref ni, .ref nj, .ref nl])), (na, .inl (ca 0, 442, .inl (zF sn))), (nb, .inl (ca 0, 442, .inl (zF sv2))), (ne, .inl (ca 0, 60, .inl (zF sg)))] := hD
                  refine lv_aload_n hx hb dX9_reads_81 rfl (lv_at hl 1 rfl) ?_
                  refine lv_aload_n hx hb dX9_reads_82 rfl (lv_at hl 1 rfl) ?_
                  refine va_get (D := D) (ci := 9) (v := .ref nb) (C := RX9) (T := TX9) (N := 16) hx hb hts inX9 hown hK hP 0 rfl rfl 1 (by decide) f13 (fun _ h9 => h9) rfl dX9_reads_83 ?_
                  refine lv_iconst (v := nI (0)) hx hb dX9_reads_86 (by decide) ?_
                  refine xr_iald hx hb hK hP 2 0 rfl rfl (by omega) (Nat.le_of_ble_eq_true rfl) (v := iZ (sv2 0)) rfl dX9_reads_87 ?_
                  refine xr_top (y := nI (k)) (by rw [iZ_n]; exact congrArg iZ ha.2.2.2.1.1) ?_
                  refine xk_i [(na, .inl (ca 0, 442, .inl (zF sn)))] (fun u => [(mo, .inr (9, [.ref na, .ref nb, .ref nc, .ref nd, .int (bI (ms)), .int (nI mk), .ref ne, .int (nI my), .int (nI mt), .int (nI u.1), .ref nf, .ref ng, .ref nh, .ref ni, .ref nj, .ref nl])), (na, .inl (ca 0, 442, .inl (zF sn))), (nb, .inl (ca 0, 442, .inl (zF u.2))), (ne, .inl (ca 0, 60, .inl (zF sg)))]) (xk_V (As := [.int (nI k)]) (rest := []) ⟨hx, hb, hml, hown, hts⟩ (mX9_task l D ca H.size mo na nb nc nd ne nf ng nh ni nj nl ms mk my mt (p + 1) sv2 sg k C Lc Nc G2 (by omega) hsg (by omega) ha.2.2.2.1 (by omega)) (cwV 1 hts gX9_reads_X9_task rfl rfl rfl (by decide +kernel) ⟨Nat.le_of_ble_eq_true rfl, Nat.le_of_ble_eq_true rfl⟩) hK hP hD (va_recv (q := (RX9, TX9, 16)) hK hP (ci := 9) (q0 := 0) rfl rfl) [0, 2, 3] rfl rfl rfl hl.1 rfl (Nat.le_of_ble_eq_true rfl) dX9_reads_88 ⟨Nat.le_of_ble_eq_true rfl, Nat.le_of_ble_eq_true rfl⟩) hP hD hS hA [0, 2, 3] [1] [1, 0, 2, 3] rfl rfl rfl rfl (fun _ => rfl) rfl (fun r88 u88 H locs hw88 hP hD hS => ?_)
                  obtain ⟨p188, sv188⟩ := u88
                  have hw88 : r88 = bI (tkN sg my k (p + 1) G2).1 ∧ p188 = (tkN sg my k (p + 1) G2).2.1 ∧ ((tkN sg my k (p + 1) G2).1 = true → MS sv188 (k + 1) C (upZ Lc k (tkN sg my k (p + 1) G2).2.2.1) (upZ Nc k (tkN sg my k (p + 1) G2).2.2.2.1) (tkN sg my k (p + 1) G2).2.2.2.2) := hw88
                  have hP : va_P D vwCl [(mo, .inr (9, [.ref na, .ref nb, .ref nc, .ref nd, .int (bI (ms)), .int (nI mk), .ref ne, .int (nI my), .int (nI mt), .int (nI p188), .ref nf, .ref ng, .ref nh, .ref ni, .ref nj, .ref nl])), (na, .inl (ca 0, 442, .inl (zF sn))), (nb, .inl (ca 0, 442, .inl (zF sv188))), (ne, .inl (ca 0, 60, .inl (zF sg)))] H := hP
                  have hD : va_D A [(mo, .inr (9, [.ref na, .ref nb, .ref nc, .ref nd, .int (bI (ms)), .int (nI mk), .ref ne, .int (nI my), .int (nI mt), .int (nI p188), .ref nf, .ref ng, .ref nh, .ref ni, .ref nj, .ref nl])), (na, .inl (ca 0, 442, .inl (zF sn))), (nb, .inl (ca 0, 442, .inl (zF sv188))), (ne, .inl (ca 0, 60, .inl (zF sg)))] := hD
                  obtain ⟨hwr88, hv88⟩ := hw88
                  subst hwr88
                  refine lv_istore_n (lv' := [(1, .int (bI ((tkN sg my k (p + 1) G2).1))), (0, .ref mo)]) hx hb dX9_reads_91 rfl hl (by decide) rfl (fun ls hl => ?_)
                  refine lv_goto (tgt := 55) hx hb dX9_reads_92 (by decide) ?_
                  exact ih55 ((tkN sg my k (p + 1) G2).1) (k + 1) p188 sv188 (upZ Lc k (tkN sg my k (p + 1) G2).2.2.1) (upZ Nc k (tkN sg my k (p + 1) G2).2.2.2.1) ((tkN sg my k (p + 1) G2).2.2.2.2) (by rw [hv88.1]; exact tkP_le sg my k (p + 1) G2 (by omega)) (by omega) (fun h9 => ⟨by omega, by omega, tk_fwd ha.2.2.1, hv88.2 h9, by rw [ha.2.2.2.2, rdA_g (by omega) hc59, hfz, rdN_t h9, hv88.1, show 20 - (k + 1) = 20 - k - 1 by omega]⟩) (fun h9 => by rw [ha.2.2.2.2, rdA_g (by omega) hc59, hfz, rdN_f h9]; exact ⟨rfl, hv88.1⟩) (by have e9 : ok.toNat = 1 := (by rw [h56]; rfl); have e8 : (tkN sg my k (p + 1) G2).1.toNat ≤ 1 := Bool.toNat_le _; omega) _ _ hP hD hS _ (lv_sub hl [0, 1] rfl)
        exact L55 _ ((tkN sg my 0 0 noG).1) 1 p151 sv151 (upZ (fun _ => 0) 0 (tkN sg my 0 0 noG).2.2.1) (upZ (fun _ => 0) 0 (tkN sg my 0 0 noG).2.2.2.1) ((tkN sg my 0 0 noG).2.2.2.2) (by rw [hv51.1]; exact tkP_le sg my 0 0 noG (Nat.zero_le _)) (by omega) (fun h9 => ⟨by omega, by omega, tk_fwd FWD_0, hv51.2 h9, by rw [hv51.1]; exact prs_A h9⟩) (fun h9 => by rw [prs_F h9]; exact ⟨rfl, hv51.1⟩) (Nat.lt_succ_self _) _ _ hP hD hS _ (lv_sub hl [0, 1] rfl)
      · skip
        have h6 := (not_congr (cL (nI_toInt (by omega)) (nI_toInt (by omega)))).mp h6
        refine lv_aload_n hx hb dX9_reads_9 rfl (lv_at hl 1 rfl) ?_
        refine va_get (D := D) (ci := 9) (v := .ref nb) (C := RX9) (T := TX9) (N := 16) hx hb hts inX9 hown hK hP 0 rfl rfl 1 (by decide) f13 (fun _ h9 => h9) rfl dX9_reads_10 ?_
        refine lv_iload_n hx hb dX9_reads_13 rfl (lv_at hl 0 rfl) ?_
        refine lv_iload_n hx hb dX9_reads_14 rfl (lv_at hl 0 rfl) ?_
        refine lv_bipush (v := nI (42)) hx hb dX9_reads_15 (by decide) ?_
        refine lv_icmp_ge (tgt := 24) hx hb dX9_reads_17 (by decide) (fun h17 => ?_) (fun h17 => ?_)
        · skip
          have h17 := (cL (nI_toInt (by omega)) (nI_toInt (by omega))).mp h17
          refine lv_iconst (v := iZ (-1)) hx hb dX9_reads_24 (by decide) ?_
          refine xr_iast hx hb hK hP hD hS 2 0 rfl rfl (by omega) (Nat.le_of_ble_eq_true rfl) (zF (upZ sv2 k (-1))) (fun _ _ => zF_up _ _ _ _) dX9_reads_25 (fun H locs hP hD hS => ?_)
          have hP : va_P D vwCl [(mo, .inr (9, [.ref na, .ref nb, .ref nc, .ref nd, .int (bI (ms)), .int (nI mk), .ref ne, .int (nI my), .int (nI mt), .int (nI mp), .ref nf, .ref ng, .ref nh, .ref ni, .ref nj, .ref nl])), (na, .inl (ca 0, 442, .inl (zF sn))), (nb, .inl (ca 0, 442, .inl (zF (upZ sv2 k (-1))))), (ne, .inl (ca 0, 60, .inl (zF sg)))] H := hP
          have hD : va_D A [(mo, .inr (9, [.ref na, .ref nb, .ref nc, .ref nd, .int (bI (ms)), .int (nI mk), .ref ne, .int (nI my), .int (nI mt), .int (nI mp), .ref nf, .ref ng, .ref nh, .ref ni, .ref nj, .ref nl])), (na, .inl (ca 0, 442, .inl (zF sn))), (nb, .inl (ca 0, 442, .inl (zF (upZ sv2 k (-1))))), (ne, .inl (ca 0, 60, .inl (zF sg)))] := hD
          refine lv_iinc (v := nI (k + 1)) (lv' := [(1, .int (nI (k + 1))), (0, .ref mo)]) hx hb dX9_reads_26 hl (k := 0) rfl (nI_add _ 1) (by decide) rfl (fun ls hl => ?_)
          refine lv_goto (tgt := 2) hx hb dX9_reads_29 (by decide) ?_
          exact ih2 (k + 1) (upZ sv2 k (-1)) (by omega) (by rw [hrw]; exact (congrArg (upZ (rwF sv (fun j => if j < 42 then 0 else -1) k) k) (show (-1 : Int) = (if k < 42 then 0 else -1) by rw [if_neg (show ¬ k < 42 by omega)])).trans (rwF_s (g := (fun j => if j < 42 then 0 else -1)))) (by omega) _ _ hP hD hS _ (lv_sub hl [0, 1] rfl)
        · skip
          have h17 := (not_congr (cL (nI_toInt (by omega)) (nI_toInt (by omega)))).mp h17
          refine lv_iconst (v := nI (0)) hx hb dX9_reads_20 (by decide) ?_
          refine lv_goto (tgt := 25) hx hb dX9_reads_21 (by decide) ?_
          refine xr_iast hx hb hK hP hD hS 2 0 rfl rfl (by omega) (Nat.le_of_ble_eq_true rfl) (zF (upZ sv2 k ((0 : Nat) : Int))) (fun _ _ => zF_upn _ _ _ _) dX9_reads_25 (fun H locs hP hD hS => ?_)
          have hP : va_P D vwCl [(mo, .inr (9, [.ref na, .ref nb, .ref nc, .ref nd, .int (bI (ms)), .int (nI mk), .ref ne, .int (nI my), .int (nI mt), .int (nI mp), .ref nf, .ref ng, .ref nh, .ref ni, .ref nj, .ref nl])), (na, .inl (ca 0, 442, .inl (zF sn))), (nb, .inl (ca 0, 442, .inl (zF (upZ sv2 k ((0 : Nat) : Int))))), (ne, .inl (ca 0, 60, .inl (zF sg)))] H := hP
          have hD : va_D A [(mo, .inr (9, [.ref na, .ref nb, .ref nc, .ref nd, .int (bI (ms)), .int (nI mk), .ref ne, .int (nI my), .int (nI mt), .int (nI mp), .ref nf, .ref ng, .ref nh, .ref ni, .ref nj, .ref nl])), (na, .inl (ca 0, 442, .inl (zF sn))), (nb, .inl (ca 0, 442, .inl (zF (upZ sv2 k ((0 : Nat) : Int))))), (ne, .inl (ca 0, 60, .inl (zF sg)))] := hD
          refine lv_iinc (v := nI (k + 1)) (lv' := [(1, .int (nI (k + 1))), (0, .ref mo)]) hx hb dX9_reads_26 hl (k := 0) rfl (nI_add _ 1) (by decide) rfl (fun ls hl => ?_)
          refine lv_goto (tgt := 2) hx hb dX9_reads_29 (by decide) ?_
          exact ih2 (k + 1) (upZ sv2 k ((0 : Nat) : Int)) (by omega) (by rw [hrw]; exact (congrArg (upZ (rwF sv (fun j => if j < 42 then 0 else -1) k) k) (show (((0 : Nat) : Int) : Int) = (if k < 42 then 0 else -1) by rw [if_pos (show k < 42 by omega)]; rfl)).trans (rwF_s (g := (fun j => if j < 42 then 0 else -1)))) (by omega) _ _ hP hD hS _ (lv_sub hl [0, 1] rfl)
  exact L2 _ 0 sv (by omega) rwF_0 (Nat.lt_succ_self _) _ _ hP hD hS _ (lv_sub hl [0, 1] rfl)
def rX9_taskCount : Room := { frames := 0, cells := 0, slots := 0, locals := 0 }
set_option maxHeartbeats 4000000 in
set_option maxRecDepth 100000 in
theorem mX9_taskCount (l : Launch) (D : va_G) (ca : Nat → ClassId) (sz : Nat) (mo : Nat) (na : Nat) (nb : Nat) (nc : Nat) (nd : Nat) (ne : Nat) (nf : Nat) (ng : Nat) (nh : Nat) (ni : Nat) (nj : Nat) (nl : Nat) (ms : Bool) (mk : Nat) (my : Nat) (mt : Nat) (mp : Nat) (sn : Nat → Int) (T : Nat) (En : Int) (C : Int) (L : Nat → Int) (N : Nat → Int) (G : Nat → Nat → Int) (hV : PSV T En C L N G) (hM : MS sn T C L N G) : MM l yX9_taskCount wsX9_taskCount rX9_taskCount D ca [.ref mo] sz [(mo, .inr (9, [.ref na, .ref nb, .ref nc, .ref nd, .int (bI (ms)), .int (nI mk), .ref ne, .int (nI my), .int (nI mt), .int (nI mp), .ref nf, .ref ng, .ref nh, .ref ni, .ref nj, .ref nl])), (na, .inl (ca 0, 442, .inl (zF sn)))] (QI D ca (fun (r : Int32) (u : Unit) => r = nI T) (fun _ => [(mo, .inr (9, [.ref na, .ref nb, .ref nc, .ref nd, .int (bI (ms)), .int (nI mk), .ref ne, .int (nI my), .int (nI 0), .int (nI mp), .ref nf, .ref ng, .ref nh, .ref ni, .ref nj, .ref nl])), (na, .inl (ca 0, 442, .inl (zF sn)))])) := by
  refine MM_of (cc := cX9_taskCount) (maxL := 1) (ret := (some .int)) (lv0 := [(0, .ref mo)]) RX9 (by decide) rfl rfl (Nat.le_of_ble_eq_true rfl) rfl ?_
  intro pG eV s mI args below meth cO hx hb hr hml hts hown hlocks hnm A hA H locs hsz hP hK hD hS Q hE ls hl
  have f44 := hts (.fieldLink RX9 44 "SlackPlanModel" "thrown" "I") (List.mem_of_getElem? (i := 1) rfl)
  have inX9 : ∀ w ∈ u_ws RX9 TX9 16, w ∈ wsX9_taskCount := in_r _ [3, 4, 5, 6, 7, 8, 9, 10, 11, 12, 13, 14, 15, 16, 17, 18] rfl
  have f7 := hts (.fieldLink RX9 7 "SlackPlanModel" "now" "[I") (List.mem_of_getElem? (i := 2) rfl)
  obtain ⟨hT, hC9, hL30, hNk, hG, hac, hGo, hEn, hE40⟩ := hV
  have hLk := L30_LOK hL30
  have hs0 := hM.1
  have hs1 := hM.2.1
  refine lv_aload_n hx hb dX9_taskCount_0 rfl (lv_at hl 0 rfl) ?_
  refine lv_iconst (v := nI (0)) hx hb dX9_taskCount_1 (by decide) ?_
  refine va_put (D := D) (ci := 9) (v := .int (nI 0)) (ty := .int) (C := RX9) (T := TX9) (N := 16) hx hb hts inX9 tyX9 tyX9_ok nmX9 hown hK hP hD hS 0 rfl rfl 8 (by decide) f44 (fun _ h9 => h9) rfl (by decide +kernel) rfl rfl (Nat.le_of_ble_eq_true rfl) dX9_taskCount_2 (fun H locs hP hD hS => ?_)
  have hP : va_P D vwCl [(mo, .inr (9, [.ref na, .ref nb, .ref nc, .ref nd, .int (bI (ms)), .int (nI mk), .ref ne, .int (nI my), .int (nI 0), .int (nI mp), .ref nf, .ref ng, .ref nh, .ref ni, .ref nj, .ref nl])), (na, .inl (ca 0, 442, .inl (zF sn)))] H := hP
  have hD : va_D A [(mo, .inr (9, [.ref na, .ref nb, .ref nc, .ref nd, .int (bI (ms)), .int (nI mk), .ref ne, .int (nI my), .int (nI 0), .int (nI mp), .ref nf, .ref ng, .ref nh, .ref ni, .ref nj, .ref nl])), (na, .inl (ca 0, 442, .inl (zF sn)))] := hD
  refine lv_aload_n hx hb dX9_taskCount_5 rfl (lv_at hl 0 rfl) ?_
  refine va_get (D := D) (ci := 9) (v := .ref na) (C := RX9) (T := TX9) (N := 16) hx hb hts inX9 hown hK hP 0 rfl rfl 0 (by decide) f7 (fun _ h9 => h9) rfl dX9_taskCount_6 ?_
  refine lv_iconst (v := nI (0)) hx hb dX9_taskCount_9 (by decide) ?_
  refine xr_iald hx hb hK hP 1 0 rfl rfl (by omega) (Nat.le_of_ble_eq_true rfl) (v := iZ (sn 0)) rfl dX9_taskCount_10 ?_
  refine xr_top (y := nI (T)) (by rw [iZ_n]; exact congrArg iZ hs0) ?_
  rw [← hE]
  exact xe_i () hx hb hr hlocks hK hP hD hS rfl dX9_taskCount_11
def rX9_dependencyCount : Room := { frames := 1, cells := 0, slots := 0, locals := 22 }
set_option maxHeartbeats 4000000 in
set_option maxRecDepth 100000 in
theorem mX9_dependencyCount (l : Launch) (D : va_G) (ca : Nat → ClassId) (sz : Nat) (mo : Nat) (na : Nat) (nb : Nat) (nc : Nat) (nd : Nat) (ne : Nat) (nf : Nat) (ng : Nat) (nh : Nat) (ni : Nat) (nj : Nat) (nl : Nat) (ms : Bool) (mk : Nat) (my : Nat) (mt : Nat) (mp : Nat) (sn : Nat → Int) (T : Nat) (En : Int) (C : Int) (L : Nat → Int) (N : Nat → Int) (G : Nat → Nat → Int) (hV : PSV T En C L N G) (hM : MS sn T C L N G) : MM l yX9_dependencyCount wsX9_dependencyCount rX9_dependencyCount D ca [.ref mo] sz [(mo, .inr (9, [.ref na, .ref nb, .ref nc, .ref nd, .int (bI (ms)), .int (nI mk), .ref ne, .int (nI my), .int (nI mt), .int (nI mp), .ref nf, .ref ng, .ref nh, .ref ni, .ref nj, .ref nl])), (na, .inl (ca 0, 442, .inl (zF sn)))] (QI D ca (fun (r : Int32) (u : Unit) => r = iZ En) (fun _ => [(mo, .inr (9, [.ref na, .ref nb, .ref nc, .ref nd, .int (bI (ms)), .int (nI mk), .ref ne, .int (nI my), .int (nI 0), .int (nI mp), .ref nf, .ref ng, .ref nh, .ref ni, .ref nj, .ref nl])), (na, .inl (ca 0, 442, .inl (zF sn)))])) := by
  refine MM_of (cc := cX9_dependencyCount) (maxL := 1) (ret := (some .int)) (lv0 := [(0, .ref mo)]) RX9 (by decide) rfl rfl (Nat.le_of_ble_eq_true rfl) rfl ?_
  intro pG eV s mI args below meth cO hx hb hr hml hts hown hlocks hnm A hA H locs hsz hP hK hD hS Q hE ls hl
  have f44 := hts (.fieldLink RX9 44 "SlackPlanModel" "thrown" "I") (List.mem_of_getElem? (i := 1) rfl)
  have inX9 : ∀ w ∈ u_ws RX9 TX9 16, w ∈ wsX9_dependencyCount := in_r _ [7, 8, 9, 10, 11, 12, 13, 14, 15, 16, 17, 18, 19, 20, 21, 22] rfl
  have f7 := hts (.fieldLink RX9 7 "SlackPlanModel" "now" "[I") (List.mem_of_getElem? (i := 2) rfl)
  obtain ⟨hT, hC9, hL30, hNk, hG, hac, hGo, hEn, hE40⟩ := hV
  have hLk := L30_LOK hL30
  have hs0 := hM.1
  have hs1 := hM.2.1
  refine lv_aload_n hx hb dX9_dependencyCount_0 rfl (lv_at hl 0 rfl) ?_
  refine lv_iconst (v := nI (0)) hx hb dX9_dependencyCount_1 (by decide) ?_
  refine va_put (D := D) (ci := 9) (v := .int (nI 0)) (ty := .int) (C := RX9) (T := TX9) (N := 16) hx hb hts inX9 tyX9 tyX9_ok nmX9 hown hK hP hD hS 0 rfl rfl 8 (by decide) f44 (fun _ h9 => h9) rfl (by decide +kernel) rfl rfl (Nat.le_of_ble_eq_true rfl) dX9_dependencyCount_2 (fun H locs hP hD hS => ?_)
  have hP : va_P D vwCl [(mo, .inr (9, [.ref na, .ref nb, .ref nc, .ref nd, .int (bI (ms)), .int (nI mk), .ref ne, .int (nI my), .int (nI 0), .int (nI mp), .ref nf, .ref ng, .ref nh, .ref ni, .ref nj, .ref nl])), (na, .inl (ca 0, 442, .inl (zF sn)))] H := hP
  have hD : va_D A [(mo, .inr (9, [.ref na, .ref nb, .ref nc, .ref nd, .int (bI (ms)), .int (nI mk), .ref ne, .int (nI my), .int (nI 0), .int (nI mp), .ref nf, .ref ng, .ref nh, .ref ni, .ref nj, .ref nl])), (na, .inl (ca 0, 442, .inl (zF sn)))] := hD
  refine lv_aload_n hx hb dX9_dependencyCount_5 rfl (lv_at hl 0 rfl) ?_
  refine va_get (D := D) (ci := 9) (v := .ref na) (C := RX9) (T := TX9) (N := 16) hx hb hts inX9 hown hK hP 0 rfl rfl 0 (by decide) f7 (fun _ h9 => h9) rfl dX9_dependencyCount_6 ?_
  refine xk_pi (xk_S (As := [.ref na]) (rest := []) ⟨hx, hb, hml, hown, hts⟩ (mX9_links l D ca H.size na sn T C L N G hM hG) (va_cwS 1 hts gX9_dependencyCount_X9_links rfl rfl rfl (by decide +kernel) ⟨Nat.le_of_ble_eq_true rfl, Nat.le_of_ble_eq_true rfl⟩) hK hP hD [1] rfl rfl rfl hl.1 rfl (Nat.le_of_ble_eq_true rfl) dX9_dependencyCount_9 ⟨Nat.le_of_ble_eq_true rfl, Nat.le_of_ble_eq_true rfl⟩) hP hD hS hA [1] rfl ⟨rfl, rfl⟩ (fun r9 H locs hw9 hP hS => ?_)
  have hw9 : r9 = iZ (lnk G) := hw9
  subst hw9
  rw [← hE]
  exact xe_i () hx hb hr hlocks hK hP hD hS (congrArg iZ hEn.symm) dX9_dependencyCount_12
def rX9_historySize : Room := { frames := 0, cells := 0, slots := 0, locals := 0 }
set_option maxHeartbeats 4000000 in
set_option maxRecDepth 100000 in
theorem mX9_historySize (l : Launch) (D : va_G) (ca : Nat → ClassId) (sz : Nat) (mo : Nat) (na : Nat) (nb : Nat) (nc : Nat) (nd : Nat) (ne : Nat) (nf : Nat) (ng : Nat) (nh : Nat) (ni : Nat) (nj : Nat) (nl : Nat) (ms : Bool) (mk : Nat) (my : Nat) (mt : Nat) (mp : Nat) (sn : Nat → Int) (T : Nat) (En : Int) (C : Int) (L : Nat → Int) (N : Nat → Int) (G : Nat → Nat → Int) (hV : PSV T En C L N G) (hM : MS sn T C L N G) : MM l yX9_historySize wsX9_historySize rX9_historySize D ca [.ref mo] sz [(mo, .inr (9, [.ref na, .ref nb, .ref nc, .ref nd, .int (bI (ms)), .int (nI mk), .ref ne, .int (nI my), .int (nI mt), .int (nI mp), .ref nf, .ref ng, .ref nh, .ref ni, .ref nj, .ref nl])), (na, .inl (ca 0, 442, .inl (zF sn)))] (QI D ca (fun (r : Int32) (u : Unit) => r = nI mk) (fun _ => [(mo, .inr (9, [.ref na, .ref nb, .ref nc, .ref nd, .int (bI (ms)), .int (nI mk), .ref ne, .int (nI my), .int (nI 0), .int (nI mp), .ref nf, .ref ng, .ref nh, .ref ni, .ref nj, .ref nl])), (na, .inl (ca 0, 442, .inl (zF sn)))])) := by
  refine MM_of (cc := cX9_historySize) (maxL := 1) (ret := (some .int)) (lv0 := [(0, .ref mo)]) RX9 (by decide) rfl rfl (Nat.le_of_ble_eq_true rfl) rfl ?_
  intro pG eV s mI args below meth cO hx hb hr hml hts hown hlocks hnm A hA H locs hsz hP hK hD hS Q hE ls hl
  have f44 := hts (.fieldLink RX9 44 "SlackPlanModel" "thrown" "I") (List.mem_of_getElem? (i := 1) rfl)
  have inX9 : ∀ w ∈ u_ws RX9 TX9 16, w ∈ wsX9_historySize := in_r _ [3, 4, 5, 6, 7, 8, 9, 10, 11, 12, 13, 14, 15, 16, 17, 18] rfl
  have f52 := hts (.fieldLink RX9 52 "SlackPlanModel" "kept" "I") (List.mem_of_getElem? (i := 2) rfl)
  obtain ⟨hT, hC9, hL30, hNk, hG, hac, hGo, hEn, hE40⟩ := hV
  have hLk := L30_LOK hL30
  have hs0 := hM.1
  have hs1 := hM.2.1
  refine lv_aload_n hx hb dX9_historySize_0 rfl (lv_at hl 0 rfl) ?_
  refine lv_iconst (v := nI (0)) hx hb dX9_historySize_1 (by decide) ?_
  refine va_put (D := D) (ci := 9) (v := .int (nI 0)) (ty := .int) (C := RX9) (T := TX9) (N := 16) hx hb hts inX9 tyX9 tyX9_ok nmX9 hown hK hP hD hS 0 rfl rfl 8 (by decide) f44 (fun _ h9 => h9) rfl (by decide +kernel) rfl rfl (Nat.le_of_ble_eq_true rfl) dX9_historySize_2 (fun H locs hP hD hS => ?_)
  have hP : va_P D vwCl [(mo, .inr (9, [.ref na, .ref nb, .ref nc, .ref nd, .int (bI (ms)), .int (nI mk), .ref ne, .int (nI my), .int (nI 0), .int (nI mp), .ref nf, .ref ng, .ref nh, .ref ni, .ref nj, .ref nl])), (na, .inl (ca 0, 442, .inl (zF sn)))] H := hP
  have hD : va_D A [(mo, .inr (9, [.ref na, .ref nb, .ref nc, .ref nd, .int (bI (ms)), .int (nI mk), .ref ne, .int (nI my), .int (nI 0), .int (nI mp), .ref nf, .ref ng, .ref nh, .ref ni, .ref nj, .ref nl])), (na, .inl (ca 0, 442, .inl (zF sn)))] := hD
  refine lv_aload_n hx hb dX9_historySize_5 rfl (lv_at hl 0 rfl) ?_
  refine va_get (D := D) (ci := 9) (v := .int (nI mk)) (C := RX9) (T := TX9) (N := 16) hx hb hts inX9 hown hK hP 0 rfl rfl 5 (by decide) f52 (fun _ h9 => h9) rfl dX9_historySize_6 ?_
  rw [← hE]
  exact xe_i () hx hb hr hlocks hK hP hD hS rfl dX9_historySize_9
def rX9_clearText : Room := { frames := 0, cells := 0, slots := 0, locals := 0 }
set_option maxHeartbeats 4000000 in
set_option maxRecDepth 100000 in
theorem mX9_clearText (l : Launch) (D : va_G) (ca : Nat → ClassId) (sz : Nat) (mo : Nat) (na : Nat) (nb : Nat) (nc : Nat) (nd : Nat) (ne : Nat) (nf : Nat) (ng : Nat) (nh : Nat) (ni : Nat) (nj : Nat) (nl : Nat) (ms : Bool) (mk : Nat) (my : Nat) (mt : Nat) (mp : Nat) (sn : Nat → Int) (T : Nat) (En : Int) (C : Int) (L : Nat → Int) (N : Nat → Int) (G : Nat → Nat → Int) (hV : PSV T En C L N G) (hM : MS sn T C L N G) : MM l yX9_clearText wsX9_clearText rX9_clearText D ca [.ref mo] sz [(mo, .inr (9, [.ref na, .ref nb, .ref nc, .ref nd, .int (bI (ms)), .int (nI mk), .ref ne, .int (nI my), .int (nI mt), .int (nI mp), .ref nf, .ref ng, .ref nh, .ref ni, .ref nj, .ref nl])), (na, .inl (ca 0, 442, .inl (zF sn)))] (QI D ca (fun (r : Int32) (u : Unit) => r = nI my) (fun _ => [(mo, .inr (9, [.ref na, .ref nb, .ref nc, .ref nd, .int (bI (ms)), .int (nI mk), .ref ne, .int (nI 0), .int (nI 0), .int (nI mp), .ref nf, .ref ng, .ref nh, .ref ni, .ref nj, .ref nl])), (na, .inl (ca 0, 442, .inl (zF sn)))])) := by
  refine MM_of (cc := cX9_clearText) (maxL := 2) (ret := (some .int)) (lv0 := [(0, .ref mo)]) RX9 (by decide) rfl rfl (Nat.le_of_ble_eq_true rfl) rfl ?_
  intro pG eV s mI args below meth cO hx hb hr hml hts hown hlocks hnm A hA H locs hsz hP hK hD hS Q hE ls hl
  have f44 := hts (.fieldLink RX9 44 "SlackPlanModel" "thrown" "I") (List.mem_of_getElem? (i := 1) rfl)
  have inX9 : ∀ w ∈ u_ws RX9 TX9 16, w ∈ wsX9_clearText := in_r _ [3, 4, 5, 6, 7, 8, 9, 10, 11, 12, 13, 14, 15, 16, 17, 18] rfl
  have f108 := hts (.fieldLink RX9 108 "SlackPlanModel" "typed" "I") (List.mem_of_getElem? (i := 2) rfl)
  obtain ⟨hT, hC9, hL30, hNk, hG, hac, hGo, hEn, hE40⟩ := hV
  have hLk := L30_LOK hL30
  have hs0 := hM.1
  have hs1 := hM.2.1
  refine lv_aload_n hx hb dX9_clearText_0 rfl (lv_at hl 0 rfl) ?_
  refine lv_iconst (v := nI (0)) hx hb dX9_clearText_1 (by decide) ?_
  refine va_put (D := D) (ci := 9) (v := .int (nI 0)) (ty := .int) (C := RX9) (T := TX9) (N := 16) hx hb hts inX9 tyX9 tyX9_ok nmX9 hown hK hP hD hS 0 rfl rfl 8 (by decide) f44 (fun _ h9 => h9) rfl (by decide +kernel) rfl rfl (Nat.le_of_ble_eq_true rfl) dX9_clearText_2 (fun H locs hP hD hS => ?_)
  have hP : va_P D vwCl [(mo, .inr (9, [.ref na, .ref nb, .ref nc, .ref nd, .int (bI (ms)), .int (nI mk), .ref ne, .int (nI my), .int (nI 0), .int (nI mp), .ref nf, .ref ng, .ref nh, .ref ni, .ref nj, .ref nl])), (na, .inl (ca 0, 442, .inl (zF sn)))] H := hP
  have hD : va_D A [(mo, .inr (9, [.ref na, .ref nb, .ref nc, .ref nd, .int (bI (ms)), .int (nI mk), .ref ne, .int (nI my), .int (nI 0), .int (nI mp), .ref nf, .ref ng, .ref nh, .ref ni, .ref nj, .ref nl])), (na, .inl (ca 0, 442, .inl (zF sn)))] := hD
  refine lv_aload_n hx hb dX9_clearText_5 rfl (lv_at hl 0 rfl) ?_
  refine va_get (D := D) (ci := 9) (v := .int (nI my)) (C := RX9) (T := TX9) (N := 16) hx hb hts inX9 hown hK hP 0 rfl rfl 7 (by decide) f108 (fun _ h9 => h9) rfl dX9_clearText_6 ?_
  refine lv_istore_n (lv' := [(1, .int (nI my)), (0, .ref mo)]) hx hb dX9_clearText_9 rfl hl (by decide) rfl (fun ls hl => ?_)
  refine lv_aload_n hx hb dX9_clearText_10 rfl (lv_at hl 1 rfl) ?_
  refine lv_iconst (v := nI (0)) hx hb dX9_clearText_11 (by decide) ?_
  refine va_put (D := D) (ci := 9) (v := .int (nI 0)) (ty := .int) (C := RX9) (T := TX9) (N := 16) hx hb hts inX9 tyX9 tyX9_ok nmX9 hown hK hP hD hS 0 rfl rfl 7 (by decide) f108 (fun _ h9 => h9) rfl (by decide +kernel) rfl rfl (Nat.le_of_ble_eq_true rfl) dX9_clearText_12 (fun H locs hP hD hS => ?_)
  have hP : va_P D vwCl [(mo, .inr (9, [.ref na, .ref nb, .ref nc, .ref nd, .int (bI (ms)), .int (nI mk), .ref ne, .int (nI 0), .int (nI 0), .int (nI mp), .ref nf, .ref ng, .ref nh, .ref ni, .ref nj, .ref nl])), (na, .inl (ca 0, 442, .inl (zF sn)))] H := hP
  have hD : va_D A [(mo, .inr (9, [.ref na, .ref nb, .ref nc, .ref nd, .int (bI (ms)), .int (nI mk), .ref ne, .int (nI 0), .int (nI 0), .int (nI mp), .ref nf, .ref ng, .ref nh, .ref ni, .ref nj, .ref nl])), (na, .inl (ca 0, 442, .inl (zF sn)))] := hD
  refine lv_iload_n hx hb dX9_clearText_15 rfl (lv_at hl 0 rfl) ?_
  rw [← hE]
  exact xe_i () hx hb hr hlocks hK hP hD hS rfl dX9_clearText_16
def rX9_work : Room := { frames := 1, cells := 0, slots := 0, locals := 22 }
set_option maxHeartbeats 4000000 in
set_option maxRecDepth 100000 in
theorem mX9_work (l : Launch) (D : va_G) (ca : Nat → ClassId) (sz : Nat) (mo : Nat) (na : Nat) (nb : Nat) (nc : Nat) (nd : Nat) (ne : Nat) (nf : Nat) (ng : Nat) (nh : Nat) (ni : Nat) (nj : Nat) (nl : Nat) (ms : Bool) (mk : Nat) (my : Nat) (mt : Nat) (mp : Nat) (sn : Nat → Int) (T : Nat) (En : Int) (C : Int) (L : Nat → Int) (N : Nat → Int) (G : Nat → Nat → Int) (hV : PSV T En C L N G) (hM : MS sn T C L N G) : MM l yX9_work wsX9_work rX9_work D ca [.ref mo] sz [(mo, .inr (9, [.ref na, .ref nb, .ref nc, .ref nd, .int (bI (ms)), .int (nI mk), .ref ne, .int (nI my), .int (nI mt), .int (nI mp), .ref nf, .ref ng, .ref nh, .ref ni, .ref nj, .ref nl])), (na, .inl (ca 0, 442, .inl (zF sn)))] (QI D ca (fun (r : Int32) (u : Unit) => r = iZ (sumW L N T)) (fun _ => [(mo, .inr (9, [.ref na, .ref nb, .ref nc, .ref nd, .int (bI (ms)), .int (nI mk), .ref ne, .int (nI my), .int (nI 0), .int (nI mp), .ref nf, .ref ng, .ref nh, .ref ni, .ref nj, .ref nl])), (na, .inl (ca 0, 442, .inl (zF sn)))])) := by
  refine MM_of (cc := cX9_work) (maxL := 1) (ret := (some .int)) (lv0 := [(0, .ref mo)]) RX9 (by decide) rfl rfl (Nat.le_of_ble_eq_true rfl) rfl ?_
  intro pG eV s mI args below meth cO hx hb hr hml hts hown hlocks hnm A hA H locs hsz hP hK hD hS Q hE ls hl
  have f44 := hts (.fieldLink RX9 44 "SlackPlanModel" "thrown" "I") (List.mem_of_getElem? (i := 1) rfl)
  have inX9 : ∀ w ∈ u_ws RX9 TX9 16, w ∈ wsX9_work := in_r _ [8, 9, 10, 11, 12, 13, 14, 15, 16, 17, 18, 19, 20, 21, 22, 23] rfl
  obtain ⟨hT, hC9, hL30, hNk, hG, hac, hGo, hEn, hE40⟩ := hV
  have hLk := L30_LOK hL30
  have hs0 := hM.1
  have hs1 := hM.2.1
  refine lv_aload_n hx hb dX9_work_0 rfl (lv_at hl 0 rfl) ?_
  refine lv_iconst (v := nI (0)) hx hb dX9_work_1 (by decide) ?_
  refine va_put (D := D) (ci := 9) (v := .int (nI 0)) (ty := .int) (C := RX9) (T := TX9) (N := 16) hx hb hts inX9 tyX9 tyX9_ok nmX9 hown hK hP hD hS 0 rfl rfl 8 (by decide) f44 (fun _ h9 => h9) rfl (by decide +kernel) rfl rfl (Nat.le_of_ble_eq_true rfl) dX9_work_2 (fun H locs hP hD hS => ?_)
  have hP : va_P D vwCl [(mo, .inr (9, [.ref na, .ref nb, .ref nc, .ref nd, .int (bI (ms)), .int (nI mk), .ref ne, .int (nI my), .int (nI 0), .int (nI mp), .ref nf, .ref ng, .ref nh, .ref ni, .ref nj, .ref nl])), (na, .inl (ca 0, 442, .inl (zF sn)))] H := hP
  have hD : va_D A [(mo, .inr (9, [.ref na, .ref nb, .ref nc, .ref nd, .int (bI (ms)), .int (nI mk), .ref ne, .int (nI my), .int (nI 0), .int (nI mp), .ref nf, .ref ng, .ref nh, .ref ni, .ref nj, .ref nl])), (na, .inl (ca 0, 442, .inl (zF sn)))] := hD
  refine lv_aload_n hx hb dX9_work_5 rfl (lv_at hl 0 rfl) ?_
  refine xk_pi (xk_V (As := []) (rest := []) ⟨hx, hb, hml, hown, hts⟩ (mX9_allWork l D ca H.size mo na nb nc nd ne nf ng nh ni nj nl ms mk my 0 mp sn T C L N G (by omega) hM) (cwV 0 hts gX9_work_X9_allWork rfl rfl rfl (by decide +kernel) ⟨Nat.le_of_ble_eq_true rfl, Nat.le_of_ble_eq_true rfl⟩) hK hP hD (va_recv (q := (RX9, TX9, 16)) hK hP (ci := 9) (q0 := 0) rfl rfl) [0, 1] rfl rfl rfl hl.1 rfl (Nat.le_of_ble_eq_true rfl) dX9_work_6 ⟨Nat.le_of_ble_eq_true rfl, Nat.le_of_ble_eq_true rfl⟩) hP hD hS hA [0, 1] rfl ⟨rfl, rfl⟩ (fun r6 H locs hw6 hP hS => ?_)
  have hw6 : r6 = iZ (sumW L N T) := hw6
  subst hw6
  rw [← hE]
  exact xe_i () hx hb hr hlocks hK hP hD hS rfl dX9_work_9
def rX9_lengthOf : Room := { frames := 2, cells := 0, slots := 0, locals := 43 }
set_option maxHeartbeats 4000000 in
set_option maxRecDepth 100000 in
theorem mX9_lengthOf (l : Launch) (D : va_G) (ca : Nat → ClassId) (sz : Nat) (mo : Nat) (na : Nat) (nb : Nat) (nc : Nat) (nd : Nat) (ne : Nat) (nf : Nat) (ng : Nat) (nh : Nat) (ni : Nat) (nj : Nat) (nl : Nat) (ms : Bool) (mk : Nat) (my : Nat) (mt : Nat) (mp : Nat) (sn : Nat → Int) (T : Nat) (En : Int) (C : Int) (L : Nat → Int) (N : Nat → Int) (G : Nat → Nat → Int) (t : Int32) (hV : PSV T En C L N G) (hM : MS sn T C L N G) : MM l yX9_lengthOf wsX9_lengthOf rX9_lengthOf D ca [.ref mo, .int (t)] sz [(mo, .inr (9, [.ref na, .ref nb, .ref nc, .ref nd, .int (bI (ms)), .int (nI mk), .ref ne, .int (nI my), .int (nI mt), .int (nI mp), .ref nf, .ref ng, .ref nh, .ref ni, .ref nj, .ref nl])), (na, .inl (ca 0, 442, .inl (zF sn)))] (QI D ca (fun (r : Int32) (u : Nat) => u = kTa T t ∧ (kTa T t = 0 → r = iZ (L (tI t)))) (fun u => [(mo, .inr (9, [.ref na, .ref nb, .ref nc, .ref nd, .int (bI (ms)), .int (nI mk), .ref ne, .int (nI my), .int (nI u), .int (nI mp), .ref nf, .ref ng, .ref nh, .ref ni, .ref nj, .ref nl])), (na, .inl (ca 0, 442, .inl (zF sn)))])) := by
  refine MM_of (cc := cX9_lengthOf) (maxL := 2) (ret := (some .int)) (lv0 := [(0, .ref mo), (1, .int (t))]) RX9 (by decide) rfl rfl (Nat.le_of_ble_eq_true rfl) rfl ?_
  intro pG eV s mI args below meth cO hx hb hr hml hts hown hlocks hnm A hA H locs hsz hP hK hD hS Q hE ls hl
  have f7 := hts (.fieldLink RX9 7 "SlackPlanModel" "now" "[I") (List.mem_of_getElem? (i := 1) rfl)
  have inX9 : ∀ w ∈ u_ws RX9 TX9 16, w ∈ wsX9_lengthOf := in_r _ [11, 12, 13, 14, 15, 16, 17, 18, 19, 20, 21, 22, 23, 24, 25, 26] rfl
  obtain ⟨hT, hC9, hL30, hNk, hG, hac, hGo, hEn, hE40⟩ := hV
  have hLk := L30_LOK hL30
  have hs0 := hM.1
  have hs1 := hM.2.1
  refine lv_aload_n hx hb dX9_lengthOf_0 rfl (lv_at hl 0 rfl) ?_
  refine lv_iload_n hx hb dX9_lengthOf_1 rfl (lv_at hl 1 rfl) ?_
  refine xk_i [] (fun u => [(mo, .inr (9, [.ref na, .ref nb, .ref nc, .ref nd, .int (bI (ms)), .int (nI mk), .ref ne, .int (nI my), .int (nI u), .int (nI mp), .ref nf, .ref ng, .ref nh, .ref ni, .ref nj, .ref nl])), (na, .inl (ca 0, 442, .inl (zF sn)))]) (xk_V (As := [.int (t)]) (rest := []) ⟨hx, hb, hml, hown, hts⟩ (mX9_isTask l D ca H.size mo na nb nc nd ne nf ng nh ni nj nl ms mk my mt mp sn T t (by omega) hs0) (cwV 1 hts gX9_lengthOf_X9_isTask rfl rfl rfl (by decide +kernel) ⟨Nat.le_of_ble_eq_true rfl, Nat.le_of_ble_eq_true rfl⟩) hK hP hD (va_recv (q := (RX9, TX9, 16)) hK hP (ci := 9) (q0 := 0) rfl rfl) [0, 1] rfl rfl rfl hl.1 rfl (Nat.le_of_ble_eq_true rfl) dX9_lengthOf_2 ⟨Nat.le_of_ble_eq_true rfl, Nat.le_of_ble_eq_true rfl⟩) hP hD hS hA [0, 1] [] [0, 1] rfl rfl rfl rfl (fun _ => rfl) rfl (fun r2 u2 H locs hw2 hP hD hS => ?_)
  obtain ⟨t12, hu2⟩ : ∃ z, z = u2 := ⟨_, rfl⟩
  subst hu2
  have hw2 : r2 = bI (hasB T t) ∧ t12 = kTa T t := hw2
  have hP : va_P D vwCl [(mo, .inr (9, [.ref na, .ref nb, .ref nc, .ref nd, .int (bI (ms)), .int (nI mk), .ref ne, .int (nI my), .int (nI t12), .int (nI mp), .ref nf, .ref ng, .ref nh, .ref ni, .ref nj, .ref nl])), (na, .inl (ca 0, 442, .inl (zF sn)))] H := hP
  have hD : va_D A [(mo, .inr (9, [.ref na, .ref nb, .ref nc, .ref nd, .int (bI (ms)), .int (nI mk), .ref ne, .int (nI my), .int (nI t12), .int (nI mp), .ref nf, .ref ng, .ref nh, .ref ni, .ref nj, .ref nl])), (na, .inl (ca 0, 442, .inl (zF sn)))] := hD
  obtain ⟨hwr2, hv2⟩ := hw2
  subst hwr2
  refine lv_if_eq (tgt := 19) hx hb dX9_lengthOf_5 (by decide) (fun h5 => ?_) (fun h5 => ?_)
  · skip
    have h5 := bI_0.mp h5
    refine lv_iconst (v := nI (0)) hx hb dX9_lengthOf_19 (by decide) ?_
    rw [← hE]
    exact xe_i (t12) hx hb hr hlocks hK hP hD hS (⟨hv2, fun h9 => absurd (h9.symm.trans (kTa_f h5)) (by decide)⟩) dX9_lengthOf_20
  · skip
    have h5 := bI_n0.mp h5
    obtain ⟨ht1, he1⟩ := hasB_ex h5
    have e9 : (t) = nI (tI t) := he1
    have hl : lv_has ls 2 [(0, .ref mo), (1, .int (nI (tI t)))] := by rw [← e9]; exact hl
    refine lv_aload_n hx hb dX9_lengthOf_8 rfl (lv_at hl 0 rfl) ?_
    refine va_get (D := D) (ci := 9) (v := .ref na) (C := RX9) (T := TX9) (N := 16) hx hb hts inX9 hown hK hP 0 rfl rfl 0 (by decide) f7 (fun _ h9 => h9) rfl dX9_lengthOf_9 ?_
    refine lv_iconst (v := nI (2)) hx hb dX9_lengthOf_12 (by decide) ?_
    refine lv_iload_n hx hb dX9_lengthOf_13 rfl (lv_at hl 1 rfl) ?_
    refine xr_iadd hx hb dX9_lengthOf_14 ?_
    refine xr_iald hx hb hK hP 1 0 rfl rfl (by omega) (Nat.le_of_ble_eq_true rfl) (v := iZ (sn (2 + (tI t)))) rfl dX9_lengthOf_15 ?_
    refine lv_goto (tgt := 20) hx hb dX9_lengthOf_16 (by decide) ?_
    rw [← hE]
    exact xe_i (t12) hx hb hr hlocks hK hP hD hS (⟨hv2, fun _ => congrArg iZ (hM.2.2.1 _ ht1).1⟩) dX9_lengthOf_20
def rX9_crewsOf : Room := { frames := 2, cells := 0, slots := 0, locals := 43 }
set_option maxHeartbeats 4000000 in
set_option maxRecDepth 100000 in
theorem mX9_crewsOf (l : Launch) (D : va_G) (ca : Nat → ClassId) (sz : Nat) (mo : Nat) (na : Nat) (nb : Nat) (nc : Nat) (nd : Nat) (ne : Nat) (nf : Nat) (ng : Nat) (nh : Nat) (ni : Nat) (nj : Nat) (nl : Nat) (ms : Bool) (mk : Nat) (my : Nat) (mt : Nat) (mp : Nat) (sn : Nat → Int) (T : Nat) (En : Int) (C : Int) (L : Nat → Int) (N : Nat → Int) (G : Nat → Nat → Int) (t : Int32) (hV : PSV T En C L N G) (hM : MS sn T C L N G) : MM l yX9_crewsOf wsX9_crewsOf rX9_crewsOf D ca [.ref mo, .int (t)] sz [(mo, .inr (9, [.ref na, .ref nb, .ref nc, .ref nd, .int (bI (ms)), .int (nI mk), .ref ne, .int (nI my), .int (nI mt), .int (nI mp), .ref nf, .ref ng, .ref nh, .ref ni, .ref nj, .ref nl])), (na, .inl (ca 0, 442, .inl (zF sn)))] (QI D ca (fun (r : Int32) (u : Nat) => u = kTa T t ∧ (kTa T t = 0 → r = iZ (N (tI t)))) (fun u => [(mo, .inr (9, [.ref na, .ref nb, .ref nc, .ref nd, .int (bI (ms)), .int (nI mk), .ref ne, .int (nI my), .int (nI u), .int (nI mp), .ref nf, .ref ng, .ref nh, .ref ni, .ref nj, .ref nl])), (na, .inl (ca 0, 442, .inl (zF sn)))])) := by
  refine MM_of (cc := cX9_crewsOf) (maxL := 2) (ret := (some .int)) (lv0 := [(0, .ref mo), (1, .int (t))]) RX9 (by decide) rfl rfl (Nat.le_of_ble_eq_true rfl) rfl ?_
  intro pG eV s mI args below meth cO hx hb hr hml hts hown hlocks hnm A hA H locs hsz hP hK hD hS Q hE ls hl
  have f7 := hts (.fieldLink RX9 7 "SlackPlanModel" "now" "[I") (List.mem_of_getElem? (i := 1) rfl)
  have inX9 : ∀ w ∈ u_ws RX9 TX9 16, w ∈ wsX9_crewsOf := in_r _ [11, 12, 13, 14, 15, 16, 17, 18, 19, 20, 21, 22, 23, 24, 25, 26] rfl
  obtain ⟨hT, hC9, hL30, hNk, hG, hac, hGo, hEn, hE40⟩ := hV
  have hLk := L30_LOK hL30
  have hs0 := hM.1
  have hs1 := hM.2.1
  refine lv_aload_n hx hb dX9_crewsOf_0 rfl (lv_at hl 0 rfl) ?_
  refine lv_iload_n hx hb dX9_crewsOf_1 rfl (lv_at hl 1 rfl) ?_
  refine xk_i [] (fun u => [(mo, .inr (9, [.ref na, .ref nb, .ref nc, .ref nd, .int (bI (ms)), .int (nI mk), .ref ne, .int (nI my), .int (nI u), .int (nI mp), .ref nf, .ref ng, .ref nh, .ref ni, .ref nj, .ref nl])), (na, .inl (ca 0, 442, .inl (zF sn)))]) (xk_V (As := [.int (t)]) (rest := []) ⟨hx, hb, hml, hown, hts⟩ (mX9_isTask l D ca H.size mo na nb nc nd ne nf ng nh ni nj nl ms mk my mt mp sn T t (by omega) hs0) (cwV 1 hts gX9_crewsOf_X9_isTask rfl rfl rfl (by decide +kernel) ⟨Nat.le_of_ble_eq_true rfl, Nat.le_of_ble_eq_true rfl⟩) hK hP hD (va_recv (q := (RX9, TX9, 16)) hK hP (ci := 9) (q0 := 0) rfl rfl) [0, 1] rfl rfl rfl hl.1 rfl (Nat.le_of_ble_eq_true rfl) dX9_crewsOf_2 ⟨Nat.le_of_ble_eq_true rfl, Nat.le_of_ble_eq_true rfl⟩) hP hD hS hA [0, 1] [] [0, 1] rfl rfl rfl rfl (fun _ => rfl) rfl (fun r2 u2 H locs hw2 hP hD hS => ?_)
  obtain ⟨t12, hu2⟩ : ∃ z, z = u2 := ⟨_, rfl⟩
  subst hu2
  have hw2 : r2 = bI (hasB T t) ∧ t12 = kTa T t := hw2
  have hP : va_P D vwCl [(mo, .inr (9, [.ref na, .ref nb, .ref nc, .ref nd, .int (bI (ms)), .int (nI mk), .ref ne, .int (nI my), .int (nI t12), .int (nI mp), .ref nf, .ref ng, .ref nh, .ref ni, .ref nj, .ref nl])), (na, .inl (ca 0, 442, .inl (zF sn)))] H := hP
  have hD : va_D A [(mo, .inr (9, [.ref na, .ref nb, .ref nc, .ref nd, .int (bI (ms)), .int (nI mk), .ref ne, .int (nI my), .int (nI t12), .int (nI mp), .ref nf, .ref ng, .ref nh, .ref ni, .ref nj, .ref nl])), (na, .inl (ca 0, 442, .inl (zF sn)))] := hD
  obtain ⟨hwr2, hv2⟩ := hw2
  subst hwr2
  refine lv_if_eq (tgt := 20) hx hb dX9_crewsOf_5 (by decide) (fun h5 => ?_) (fun h5 => ?_)
  · skip
    have h5 := bI_0.mp h5
    refine lv_iconst (v := nI (0)) hx hb dX9_crewsOf_20 (by decide) ?_
    rw [← hE]
    exact xe_i (t12) hx hb hr hlocks hK hP hD hS (⟨hv2, fun h9 => absurd (h9.symm.trans (kTa_f h5)) (by decide)⟩) dX9_crewsOf_21
  · skip
    have h5 := bI_n0.mp h5
    obtain ⟨ht1, he1⟩ := hasB_ex h5
    have e9 : (t) = nI (tI t) := he1
    have hl : lv_has ls 2 [(0, .ref mo), (1, .int (nI (tI t)))] := by rw [← e9]; exact hl
    refine lv_aload_n hx hb dX9_crewsOf_8 rfl (lv_at hl 0 rfl) ?_
    refine va_get (D := D) (ci := 9) (v := .ref na) (C := RX9) (T := TX9) (N := 16) hx hb hts inX9 hown hK hP 0 rfl rfl 0 (by decide) f7 (fun _ h9 => h9) rfl dX9_crewsOf_9 ?_
    refine lv_bipush (v := nI (22)) hx hb dX9_crewsOf_12 (by decide) ?_
    refine lv_iload_n hx hb dX9_crewsOf_14 rfl (lv_at hl 1 rfl) ?_
    refine xr_iadd hx hb dX9_crewsOf_15 ?_
    refine xr_iald hx hb hK hP 1 0 rfl rfl (by omega) (Nat.le_of_ble_eq_true rfl) (v := iZ (sn (22 + (tI t)))) rfl dX9_crewsOf_16 ?_
    refine lv_goto (tgt := 21) hx hb dX9_crewsOf_17 (by decide) ?_
    rw [← hE]
    exact xe_i (t12) hx hb hr hlocks hK hP hD hS (⟨hv2, fun _ => congrArg iZ (hM.2.2.1 _ ht1).2⟩) dX9_crewsOf_21
def rX9_lagOf : Room := { frames := 2, cells := 0, slots := 0, locals := 44 }
set_option maxHeartbeats 4000000 in
set_option maxRecDepth 100000 in
theorem mX9_lagOf (l : Launch) (D : va_G) (ca : Nat → ClassId) (sz : Nat) (mo : Nat) (na : Nat) (nb : Nat) (nc : Nat) (nd : Nat) (ne : Nat) (nf : Nat) (ng : Nat) (nh : Nat) (ni : Nat) (nj : Nat) (nl : Nat) (ms : Bool) (mk : Nat) (my : Nat) (mt : Nat) (mp : Nat) (sn : Nat → Int) (T : Nat) (En : Int) (C : Int) (L : Nat → Int) (N : Nat → Int) (G : Nat → Nat → Int) (t : Int32) (t2 : Int32) (hV : PSV T En C L N G) (hM : MS sn T C L N G) : MM l yX9_lagOf wsX9_lagOf rX9_lagOf D ca [.ref mo, .int (t), .int (t2)] sz [(mo, .inr (9, [.ref na, .ref nb, .ref nc, .ref nd, .int (bI (ms)), .int (nI mk), .ref ne, .int (nI my), .int (nI mt), .int (nI mp), .ref nf, .ref ng, .ref nh, .ref ni, .ref nj, .ref nl])), (na, .inl (ca 0, 442, .inl (zF sn)))] (QI D ca (fun (r : Int32) (u : Nat) => u = kLag T G t t2 ∧ (kLag T G t t2 = 0 → r = iZ (G (tI t) (tI t2)))) (fun u => [(mo, .inr (9, [.ref na, .ref nb, .ref nc, .ref nd, .int (bI (ms)), .int (nI mk), .ref ne, .int (nI my), .int (nI u), .int (nI mp), .ref nf, .ref ng, .ref nh, .ref ni, .ref nj, .ref nl])), (na, .inl (ca 0, 442, .inl (zF sn)))])) := by
  refine MM_of (cc := cX9_lagOf) (maxL := 3) (ret := (some .int)) (lv0 := [(0, .ref mo), (1, .int (t)), (2, .int (t2))]) RX9 (by decide) rfl rfl (Nat.le_of_ble_eq_true rfl) rfl ?_
  intro pG eV s mI args below meth cO hx hb hr hml hts hown hlocks hnm A hA H locs hsz hP hK hD hS Q hE ls hl
  have f7 := hts (.fieldLink RX9 7 "SlackPlanModel" "now" "[I") (List.mem_of_getElem? (i := 1) rfl)
  have inX9 : ∀ w ∈ u_ws RX9 TX9 16, w ∈ wsX9_lagOf := in_r _ [18, 19, 20, 21, 22, 23, 24, 25, 26, 27, 28, 29, 30, 31, 32, 33] rfl
  obtain ⟨hT, hC9, hL30, hNk, hG, hac, hGo, hEn, hE40⟩ := hV
  have hLk := L30_LOK hL30
  have hs0 := hM.1
  have hs1 := hM.2.1
  refine lv_aload_n hx hb dX9_lagOf_0 rfl (lv_at hl 0 rfl) ?_
  refine lv_iload_n hx hb dX9_lagOf_1 rfl (lv_at hl 1 rfl) ?_
  refine lv_iload_n hx hb dX9_lagOf_2 rfl (lv_at hl 2 rfl) ?_
  refine xk_i [] (fun u => [(mo, .inr (9, [.ref na, .ref nb, .ref nc, .ref nd, .int (bI (ms)), .int (nI mk), .ref ne, .int (nI my), .int (nI u), .int (nI mp), .ref nf, .ref ng, .ref nh, .ref ni, .ref nj, .ref nl])), (na, .inl (ca 0, 442, .inl (zF sn)))]) (xk_V (As := [.int (t), .int (t2)]) (rest := []) ⟨hx, hb, hml, hown, hts⟩ (mX9_are l D ca H.size mo na nb nc nd ne nf ng nh ni nj nl ms mk my mt mp sn T t t2 (by omega) hs0) (cwV 2 hts gX9_lagOf_X9_are rfl rfl rfl (by decide +kernel) ⟨Nat.le_of_ble_eq_true rfl, Nat.le_of_ble_eq_true rfl⟩) hK hP hD (va_recv (q := (RX9, TX9, 16)) hK hP (ci := 9) (q0 := 0) rfl rfl) [0, 1] rfl rfl rfl hl.1 rfl (Nat.le_of_ble_eq_true rfl) dX9_lagOf_3 ⟨Nat.le_of_ble_eq_true rfl, Nat.le_of_ble_eq_true rfl⟩) hP hD hS hA [0, 1] [] [0, 1] rfl rfl rfl rfl (fun _ => rfl) rfl (fun r3 u3 H locs hw3 hP hD hS => ?_)
  obtain ⟨t13, hu3⟩ : ∃ z, z = u3 := ⟨_, rfl⟩
  subst hu3
  have hw3 : r3 = bI (decide (hasB T t = true ∧ hasB T t2 = true)) ∧ t13 = kTb T t t2 := hw3
  have hP : va_P D vwCl [(mo, .inr (9, [.ref na, .ref nb, .ref nc, .ref nd, .int (bI (ms)), .int (nI mk), .ref ne, .int (nI my), .int (nI t13), .int (nI mp), .ref nf, .ref ng, .ref nh, .ref ni, .ref nj, .ref nl])), (na, .inl (ca 0, 442, .inl (zF sn)))] H := hP
  have hD : va_D A [(mo, .inr (9, [.ref na, .ref nb, .ref nc, .ref nd, .int (bI (ms)), .int (nI mk), .ref ne, .int (nI my), .int (nI t13), .int (nI mp), .ref nf, .ref ng, .ref nh, .ref ni, .ref nj, .ref nl])), (na, .inl (ca 0, 442, .inl (zF sn)))] := hD
  obtain ⟨hwr3, hv3⟩ := hw3
  subst hwr3
  refine lv_if_ne (tgt := 11) hx hb dX9_lagOf_6 (by decide) (fun h6 => ?_) (fun h6 => ?_)
  · skip
    have h6 := bI_n0.mp h6
    have hbt := (decide_eq_true_iff).mp h6
    obtain ⟨ht1, he1⟩ := hasB_ex hbt.1
    obtain ⟨ht2, he2⟩ := hasB_ex hbt.2
    have e9 : (t) = nI (tI t) := he1
    have hl : lv_has ls 3 [(0, .ref mo), (1, .int (nI (tI t))), (2, .int (t2))] := by rw [← e9]; exact hl
    have e9 : (t2) = nI (tI t2) := he2
    have hl : lv_has ls 3 [(0, .ref mo), (1, .int (nI (tI t))), (2, .int (nI (tI t2)))] := by rw [← e9]; exact hl
    refine lv_aload_n hx hb dX9_lagOf_11 rfl (lv_at hl 0 rfl) ?_
    refine va_get (D := D) (ci := 9) (v := .ref na) (C := RX9) (T := TX9) (N := 16) hx hb hts inX9 hown hK hP 0 rfl rfl 0 (by decide) f7 (fun _ h9 => h9) rfl dX9_lagOf_12 ?_
    refine lv_iload_n hx hb dX9_lagOf_15 rfl (lv_at hl 1 rfl) ?_
    refine lv_iload_n hx hb dX9_lagOf_16 rfl (lv_at hl 2 rfl) ?_
    refine xk_pi (xk_S (As := [.ref na, .int (nI (tI t)), .int (nI (tI t2))]) (rest := []) ⟨hx, hb, hml, hown, hts⟩ (mX9_lag l D ca H.size na sn T C L N G (tI t) (tI t2) hM (by omega)) (va_cwS 3 hts gX9_lagOf_X9_lag rfl rfl rfl (by decide +kernel) ⟨Nat.le_of_ble_eq_true rfl, Nat.le_of_ble_eq_true rfl⟩) hK hP hD [1] rfl rfl rfl hl.1 rfl (Nat.le_of_ble_eq_true rfl) dX9_lagOf_17 ⟨Nat.le_of_ble_eq_true rfl, Nat.le_of_ble_eq_true rfl⟩) hP hD hS hA [1] rfl ⟨rfl, rfl⟩ (fun r17 H locs hw17 hP hS => ?_)
    have hw17 : r17 = iZ (G (tI t) (tI t2)) := hw17
    subst hw17
    have hb1 := hG (tI t) (tI t2) (by omega) (by omega)
    refine lv_if_ge (tgt := 31) hx hb dX9_lagOf_20 (by decide) (fun h20 => ?_) (fun h20 => ?_)
    · skip
      have h20 := (cL z0_toInt (iZ_toInt (by omega) (by omega))).mp h20
      refine lv_aload_n hx hb dX9_lagOf_31 rfl (lv_at hl 0 rfl) ?_
      refine va_get (D := D) (ci := 9) (v := .ref na) (C := RX9) (T := TX9) (N := 16) hx hb hts inX9 hown hK hP 0 rfl rfl 0 (by decide) f7 (fun _ h9 => h9) rfl dX9_lagOf_32 ?_
      refine lv_iload_n hx hb dX9_lagOf_35 rfl (lv_at hl 1 rfl) ?_
      refine lv_iload_n hx hb dX9_lagOf_36 rfl (lv_at hl 2 rfl) ?_
      refine xk_pi (xk_S (As := [.ref na, .int (nI (tI t)), .int (nI (tI t2))]) (rest := []) ⟨hx, hb, hml, hown, hts⟩ (mX9_lag l D ca H.size na sn T C L N G (tI t) (tI t2) hM (by omega)) (va_cwS 3 hts gX9_lagOf_X9_lag rfl rfl rfl (by decide +kernel) ⟨Nat.le_of_ble_eq_true rfl, Nat.le_of_ble_eq_true rfl⟩) hK hP hD [1] rfl rfl rfl hl.1 rfl (Nat.le_of_ble_eq_true rfl) dX9_lagOf_37 ⟨Nat.le_of_ble_eq_true rfl, Nat.le_of_ble_eq_true rfl⟩) hP hD hS hA [1] rfl ⟨rfl, rfl⟩ (fun r37 H locs hw37 hP hS => ?_)
      have hw37 : r37 = iZ (G (tI t) (tI t2)) := hw37
      subst hw37
      rw [← hE]
      exact xe_i (t13) hx hb hr hlocks hK hP hD hS (⟨hv3.trans ((kTb_t h6).trans (kLag_0 hbt (by omega)).symm), fun _ => rfl⟩) dX9_lagOf_40
    · skip
      have h20 := (not_congr (cL z0_toInt (iZ_toInt (by omega) (by omega)))).mp h20
      refine lv_aload_n hx hb dX9_lagOf_23 rfl (lv_at hl 0 rfl) ?_
      refine lv_iconst (v := nI (2)) hx hb dX9_lagOf_24 (by decide) ?_
      refine xk_i [(na, .inl (ca 0, 442, .inl (zF sn)))] (fun u => [(mo, .inr (9, [.ref na, .ref nb, .ref nc, .ref nd, .int (bI (ms)), .int (nI mk), .ref ne, .int (nI my), .int (nI 2), .int (nI mp), .ref nf, .ref ng, .ref nh, .ref ni, .ref nj, .ref nl])), (na, .inl (ca 0, 442, .inl (zF sn)))]) (xk_V (As := [.int (nI 2)]) (rest := []) ⟨hx, hb, hml, hown, hts⟩ (mX9_fails l D ca H.size mo na nb nc nd ne nf ng nh ni nj nl ms mk my t13 mp 2 ) (cwV 1 hts gX9_lagOf_X9_fails rfl rfl rfl (by decide +kernel) ⟨Nat.le_of_ble_eq_true rfl, Nat.le_of_ble_eq_true rfl⟩) hK hP hD (va_recv (q := (RX9, TX9, 16)) hK hP (ci := 9) (q0 := 0) rfl rfl) [0] rfl rfl rfl hl.1 rfl (Nat.le_of_ble_eq_true rfl) dX9_lagOf_25 ⟨Nat.le_of_ble_eq_true rfl, Nat.le_of_ble_eq_true rfl⟩) hP hD hS hA [0] [1] [1, 0] rfl rfl rfl rfl (fun _ => rfl) rfl (fun r25 u25 H locs hw25 hP hD hS => ?_)
      have hw25 : r25 = nI 0 := hw25
      have hP : va_P D vwCl [(mo, .inr (9, [.ref na, .ref nb, .ref nc, .ref nd, .int (bI (ms)), .int (nI mk), .ref ne, .int (nI my), .int (nI 2), .int (nI mp), .ref nf, .ref ng, .ref nh, .ref ni, .ref nj, .ref nl])), (na, .inl (ca 0, 442, .inl (zF sn)))] H := hP
      have hD : va_D A [(mo, .inr (9, [.ref na, .ref nb, .ref nc, .ref nd, .int (bI (ms)), .int (nI mk), .ref ne, .int (nI my), .int (nI 2), .int (nI mp), .ref nf, .ref ng, .ref nh, .ref ni, .ref nj, .ref nl])), (na, .inl (ca 0, 442, .inl (zF sn)))] := hD
      have hwr25 := hw25
      subst hwr25
      refine lv_goto (tgt := 40) hx hb dX9_lagOf_28 (by decide) ?_
      rw [← hE]
      exact xe_i (2) hx hb hr hlocks hK hP hD hS (⟨(kLag_2 hbt (by omega)).symm, fun h9 => absurd (h9.symm.trans (kLag_2 hbt (by omega))) (by decide)⟩) dX9_lagOf_40
  · skip
    have h6 := bI_0.mp h6
    refine lv_iconst (v := nI (0)) hx hb dX9_lagOf_9 (by decide) ?_
    rw [← hE]
    exact xe_i (t13) hx hb hr hlocks hK hP hD hS (⟨hv3.trans ((kTb_f h6).trans (kLag_1 (hb2_f h6)).symm), fun h9 => absurd (h9.symm.trans (kLag_1 (hb2_f h6))) (by decide)⟩) dX9_lagOf_10
def rX9_isAhead : Room := { frames := 2, cells := 0, slots := 0, locals := 44 }
set_option maxHeartbeats 4000000 in
set_option maxRecDepth 100000 in
theorem mX9_isAhead (l : Launch) (D : va_G) (ca : Nat → ClassId) (sz : Nat) (mo : Nat) (na : Nat) (nb : Nat) (nc : Nat) (nd : Nat) (ne : Nat) (nf : Nat) (ng : Nat) (nh : Nat) (ni : Nat) (nj : Nat) (nl : Nat) (ms : Bool) (mk : Nat) (my : Nat) (mt : Nat) (mp : Nat) (sn : Nat → Int) (T : Nat) (En : Int) (C : Int) (L : Nat → Int) (N : Nat → Int) (G : Nat → Nat → Int) (t : Int32) (t2 : Int32) (hV : PSV T En C L N G) (hM : MS sn T C L N G) : MM l yX9_isAhead wsX9_isAhead rX9_isAhead D ca [.ref mo, .int (t), .int (t2)] sz [(mo, .inr (9, [.ref na, .ref nb, .ref nc, .ref nd, .int (bI (ms)), .int (nI mk), .ref ne, .int (nI my), .int (nI mt), .int (nI mp), .ref nf, .ref ng, .ref nh, .ref ni, .ref nj, .ref nl])), (na, .inl (ca 0, 442, .inl (zF sn)))] (QI D ca (fun (r : Int32) (u : Nat) => u = kTb T t t2 ∧ (kTb T t t2 = 0 → r = bI (ahB G T (tI t) (tI t2)))) (fun u => [(mo, .inr (9, [.ref na, .ref nb, .ref nc, .ref nd, .int (bI (ms)), .int (nI mk), .ref ne, .int (nI my), .int (nI u), .int (nI mp), .ref nf, .ref ng, .ref nh, .ref ni, .ref nj, .ref nl])), (na, .inl (ca 0, 442, .inl (zF sn)))])) := by
  refine MM_of (cc := cX9_isAhead) (maxL := 3) (ret := (some .boolean)) (lv0 := [(0, .ref mo), (1, .int (t)), (2, .int (t2))]) RX9 (by decide) rfl rfl (Nat.le_of_ble_eq_true rfl) rfl ?_
  intro pG eV s mI args below meth cO hx hb hr hml hts hown hlocks hnm A hA H locs hsz hP hK hD hS Q hE ls hl
  have f7 := hts (.fieldLink RX9 7 "SlackPlanModel" "now" "[I") (List.mem_of_getElem? (i := 1) rfl)
  have inX9 : ∀ w ∈ u_ws RX9 TX9 16, w ∈ wsX9_isAhead := in_r _ [14, 15, 16, 17, 18, 19, 20, 21, 22, 23, 24, 25, 26, 27, 28, 29] rfl
  obtain ⟨hT, hC9, hL30, hNk, hG, hac, hGo, hEn, hE40⟩ := hV
  have hLk := L30_LOK hL30
  have hs0 := hM.1
  have hs1 := hM.2.1
  refine lv_aload_n hx hb dX9_isAhead_0 rfl (lv_at hl 0 rfl) ?_
  refine lv_iload_n hx hb dX9_isAhead_1 rfl (lv_at hl 1 rfl) ?_
  refine lv_iload_n hx hb dX9_isAhead_2 rfl (lv_at hl 2 rfl) ?_
  refine xk_i [] (fun u => [(mo, .inr (9, [.ref na, .ref nb, .ref nc, .ref nd, .int (bI (ms)), .int (nI mk), .ref ne, .int (nI my), .int (nI u), .int (nI mp), .ref nf, .ref ng, .ref nh, .ref ni, .ref nj, .ref nl])), (na, .inl (ca 0, 442, .inl (zF sn)))]) (xk_V (As := [.int (t), .int (t2)]) (rest := []) ⟨hx, hb, hml, hown, hts⟩ (mX9_are l D ca H.size mo na nb nc nd ne nf ng nh ni nj nl ms mk my mt mp sn T t t2 (by omega) hs0) (cwV 2 hts gX9_isAhead_X9_are rfl rfl rfl (by decide +kernel) ⟨Nat.le_of_ble_eq_true rfl, Nat.le_of_ble_eq_true rfl⟩) hK hP hD (va_recv (q := (RX9, TX9, 16)) hK hP (ci := 9) (q0 := 0) rfl rfl) [0, 1] rfl rfl rfl hl.1 rfl (Nat.le_of_ble_eq_true rfl) dX9_isAhead_3 ⟨Nat.le_of_ble_eq_true rfl, Nat.le_of_ble_eq_true rfl⟩) hP hD hS hA [0, 1] [] [0, 1] rfl rfl rfl rfl (fun _ => rfl) rfl (fun r3 u3 H locs hw3 hP hD hS => ?_)
  obtain ⟨t13, hu3⟩ : ∃ z, z = u3 := ⟨_, rfl⟩
  subst hu3
  have hw3 : r3 = bI (decide (hasB T t = true ∧ hasB T t2 = true)) ∧ t13 = kTb T t t2 := hw3
  have hP : va_P D vwCl [(mo, .inr (9, [.ref na, .ref nb, .ref nc, .ref nd, .int (bI (ms)), .int (nI mk), .ref ne, .int (nI my), .int (nI t13), .int (nI mp), .ref nf, .ref ng, .ref nh, .ref ni, .ref nj, .ref nl])), (na, .inl (ca 0, 442, .inl (zF sn)))] H := hP
  have hD : va_D A [(mo, .inr (9, [.ref na, .ref nb, .ref nc, .ref nd, .int (bI (ms)), .int (nI mk), .ref ne, .int (nI my), .int (nI t13), .int (nI mp), .ref nf, .ref ng, .ref nh, .ref ni, .ref nj, .ref nl])), (na, .inl (ca 0, 442, .inl (zF sn)))] := hD
  obtain ⟨hwr3, hv3⟩ := hw3
  subst hwr3
  refine lv_if_eq (tgt := 25) hx hb dX9_isAhead_6 (by decide) (fun h6 => ?_) (fun h6 => ?_)
  · skip
    have h6 := bI_0.mp h6
    refine lv_iconst (v := nI (0)) hx hb dX9_isAhead_25 (by decide) ?_
    rw [← hE]
    exact xe_z (t13) hx hb hr hlocks hK hP hD hS rfl (⟨hv3, fun h9 => absurd (h9.symm.trans (kTb_f h6)) (by decide)⟩) dX9_isAhead_26
  · skip
    have h6 := bI_n0.mp h6
    have hbt := (decide_eq_true_iff).mp h6
    obtain ⟨ht1, he1⟩ := hasB_ex hbt.1
    obtain ⟨ht2, he2⟩ := hasB_ex hbt.2
    have e9 : (t) = nI (tI t) := he1
    have hl : lv_has ls 3 [(0, .ref mo), (1, .int (nI (tI t))), (2, .int (t2))] := by rw [← e9]; exact hl
    have e9 : (t2) = nI (tI t2) := he2
    have hl : lv_has ls 3 [(0, .ref mo), (1, .int (nI (tI t))), (2, .int (nI (tI t2)))] := by rw [← e9]; exact hl
    refine lv_aload_n hx hb dX9_isAhead_9 rfl (lv_at hl 0 rfl) ?_
    refine va_get (D := D) (ci := 9) (v := .ref na) (C := RX9) (T := TX9) (N := 16) hx hb hts inX9 hown hK hP 0 rfl rfl 0 (by decide) f7 (fun _ h9 => h9) rfl dX9_isAhead_10 ?_
    refine lv_iload_n hx hb dX9_isAhead_13 rfl (lv_at hl 1 rfl) ?_
    refine lv_iload_n hx hb dX9_isAhead_14 rfl (lv_at hl 2 rfl) ?_
    refine xk_pi (xk_S (As := [.ref na, .int (nI (tI t)), .int (nI (tI t2))]) (rest := []) ⟨hx, hb, hml, hown, hts⟩ (mX9_ahead l D ca H.size na sn T C L N G (tI t) (tI t2) (by omega) hG hac hGo hM (by omega)) (va_cwS 3 hts gX9_isAhead_X9_ahead rfl rfl rfl (by decide +kernel) ⟨Nat.le_of_ble_eq_true rfl, Nat.le_of_ble_eq_true rfl⟩) hK hP hD [1] rfl rfl rfl hl.1 rfl (Nat.le_of_ble_eq_true rfl) dX9_isAhead_15 ⟨Nat.le_of_ble_eq_true rfl, Nat.le_of_ble_eq_true rfl⟩) hP hD hS hA [1] rfl ⟨rfl, rfl⟩ (fun r15 H locs hw15 hP hS => ?_)
    have hw15 : r15 = bI (ahB G T (tI t) (tI t2)) := hw15
    subst hw15
    refine lv_if_eq (tgt := 25) hx hb dX9_isAhead_18 (by decide) (fun h18 => ?_) (fun h18 => ?_)
    · skip
      have h18 := bI_0.mp h18
      refine lv_iconst (v := nI (0)) hx hb dX9_isAhead_25 (by decide) ?_
      rw [← hE]
      exact xe_z (t13) hx hb hr hlocks hK hP hD hS rfl (⟨hv3, fun _ => by rw [h18]; rfl⟩) dX9_isAhead_26
    · skip
      have h18 := bI_n0.mp h18
      refine lv_iconst (v := nI (1)) hx hb dX9_isAhead_21 (by decide) ?_
      refine lv_goto (tgt := 26) hx hb dX9_isAhead_22 (by decide) ?_
      rw [← hE]
      exact xe_z (t13) hx hb hr hlocks hK hP hD hS rfl (⟨hv3, fun _ => by rw [h18]; rfl⟩) dX9_isAhead_26
def rX9_earliestStart : Room := { frames := 2, cells := 0, slots := 0, locals := 43 }
set_option maxHeartbeats 4000000 in
set_option maxRecDepth 100000 in
theorem mX9_earliestStart (l : Launch) (D : va_G) (ca : Nat → ClassId) (sz : Nat) (mo : Nat) (na : Nat) (nb : Nat) (nc : Nat) (nd : Nat) (ne : Nat) (nf : Nat) (ng : Nat) (nh : Nat) (ni : Nat) (nj : Nat) (nl : Nat) (ms : Bool) (mk : Nat) (my : Nat) (mt : Nat) (mp : Nat) (sn : Nat → Int) (T : Nat) (En : Int) (C : Int) (L : Nat → Int) (N : Nat → Int) (G : Nat → Nat → Int) (e : Nat → Int) (t : Int32) (hV : PSV T En C L N G) (hM : MS sn T C L N G) : MM l yX9_earliestStart wsX9_earliestStart rX9_earliestStart D ca [.ref mo, .int (t)] sz [(mo, .inr (9, [.ref na, .ref nb, .ref nc, .ref nd, .int (bI (ms)), .int (nI mk), .ref ne, .int (nI my), .int (nI mt), .int (nI mp), .ref nf, .ref ng, .ref nh, .ref ni, .ref nj, .ref nl])), (na, .inl (ca 0, 442, .inl (zF sn))), (nf, .inl (ca 0, 20, .inl (zF e)))] (QI D ca (fun (r : Int32) (u : Nat × (Nat → Int)) => u.1 = kTa T t ∧ (kTa T t = 0 → r = iZ (es G T L (tI t)))) (fun u => [(mo, .inr (9, [.ref na, .ref nb, .ref nc, .ref nd, .int (bI (ms)), .int (nI mk), .ref ne, .int (nI my), .int (nI u.1), .int (nI mp), .ref nf, .ref ng, .ref nh, .ref ni, .ref nj, .ref nl])), (na, .inl (ca 0, 442, .inl (zF sn))), (nf, .inl (ca 0, 20, .inl (zF u.2)))])) := by
  refine MM_of (cc := cX9_earliestStart) (maxL := 2) (ret := (some .int)) (lv0 := [(0, .ref mo), (1, .int (t))]) RX9 (by decide) rfl rfl (Nat.le_of_ble_eq_true rfl) rfl ?_
  intro pG eV s mI args below meth cO hx hb hr hml hts hown hlocks hnm A hA H locs hsz hP hK hD hS Q hE ls hl
  have f7 := hts (.fieldLink RX9 7 "SlackPlanModel" "now" "[I") (List.mem_of_getElem? (i := 1) rfl)
  have inX9 : ∀ w ∈ u_ws RX9 TX9 16, w ∈ wsX9_earliestStart := in_r _ [16, 17, 18, 19, 20, 21, 22, 23, 24, 25, 26, 27, 28, 29, 30, 31] rfl
  have f25 := hts (.fieldLink RX9 25 "SlackPlanModel" "early" "[I") (List.mem_of_getElem? (i := 2) rfl)
  obtain ⟨hT, hC9, hL30, hNk, hG, hac, hGo, hEn, hE40⟩ := hV
  have hLk := L30_LOK hL30
  have hs0 := hM.1
  have hs1 := hM.2.1
  refine lv_aload_n hx hb dX9_earliestStart_0 rfl (lv_at hl 0 rfl) ?_
  refine lv_iload_n hx hb dX9_earliestStart_1 rfl (lv_at hl 1 rfl) ?_
  refine xk_i [(nf, .inl (ca 0, 20, .inl (zF e)))] (fun u => [(mo, .inr (9, [.ref na, .ref nb, .ref nc, .ref nd, .int (bI (ms)), .int (nI mk), .ref ne, .int (nI my), .int (nI u), .int (nI mp), .ref nf, .ref ng, .ref nh, .ref ni, .ref nj, .ref nl])), (na, .inl (ca 0, 442, .inl (zF sn))), (nf, .inl (ca 0, 20, .inl (zF e)))]) (xk_V (As := [.int (t)]) (rest := []) ⟨hx, hb, hml, hown, hts⟩ (mX9_isTask l D ca H.size mo na nb nc nd ne nf ng nh ni nj nl ms mk my mt mp sn T t (by omega) hs0) (cwV 1 hts gX9_earliestStart_X9_isTask rfl rfl rfl (by decide +kernel) ⟨Nat.le_of_ble_eq_true rfl, Nat.le_of_ble_eq_true rfl⟩) hK hP hD (va_recv (q := (RX9, TX9, 16)) hK hP (ci := 9) (q0 := 0) rfl rfl) [0, 1] rfl rfl rfl hl.1 rfl (Nat.le_of_ble_eq_true rfl) dX9_earliestStart_2 ⟨Nat.le_of_ble_eq_true rfl, Nat.le_of_ble_eq_true rfl⟩) hP hD hS hA [0, 1] [2] [1, 2, 0] rfl rfl rfl rfl (fun _ => rfl) rfl (fun r2 u2 H locs hw2 hP hD hS => ?_)
  obtain ⟨t12, hu2⟩ : ∃ z, z = u2 := ⟨_, rfl⟩
  subst hu2
  have hw2 : r2 = bI (hasB T t) ∧ t12 = kTa T t := hw2
  have hP : va_P D vwCl [(mo, .inr (9, [.ref na, .ref nb, .ref nc, .ref nd, .int (bI (ms)), .int (nI mk), .ref ne, .int (nI my), .int (nI t12), .int (nI mp), .ref nf, .ref ng, .ref nh, .ref ni, .ref nj, .ref nl])), (na, .inl (ca 0, 442, .inl (zF sn))), (nf, .inl (ca 0, 20, .inl (zF e)))] H := hP
  have hD : va_D A [(mo, .inr (9, [.ref na, .ref nb, .ref nc, .ref nd, .int (bI (ms)), .int (nI mk), .ref ne, .int (nI my), .int (nI t12), .int (nI mp), .ref nf, .ref ng, .ref nh, .ref ni, .ref nj, .ref nl])), (na, .inl (ca 0, 442, .inl (zF sn))), (nf, .inl (ca 0, 20, .inl (zF e)))] := hD
  obtain ⟨hwr2, hv2⟩ := hw2
  subst hwr2
  refine lv_if_ne (tgt := 10) hx hb dX9_earliestStart_5 (by decide) (fun h5 => ?_) (fun h5 => ?_)
  · skip
    have h5 := bI_n0.mp h5
    obtain ⟨ht1, he1⟩ := hasB_ex h5
    have e9 : (t) = nI (tI t) := he1
    have hl : lv_has ls 2 [(0, .ref mo), (1, .int (nI (tI t)))] := by rw [← e9]; exact hl
    refine lv_aload_n hx hb dX9_earliestStart_10 rfl (lv_at hl 0 rfl) ?_
    refine lv_aload_n hx hb dX9_earliestStart_11 rfl (lv_at hl 0 rfl) ?_
    refine va_get (D := D) (ci := 9) (v := .ref na) (C := RX9) (T := TX9) (N := 16) hx hb hts inX9 hown hK hP 0 rfl rfl 0 (by decide) f7 (fun _ h9 => h9) rfl dX9_earliestStart_12 ?_
    refine xk_i [] (fun u => [(mo, .inr (9, [.ref na, .ref nb, .ref nc, .ref nd, .int (bI (ms)), .int (nI mk), .ref ne, .int (nI my), .int (nI t12), .int (nI mp), .ref nf, .ref ng, .ref nh, .ref ni, .ref nj, .ref nl])), (na, .inl (ca 0, 442, .inl (zF sn))), (nf, .inl (ca 0, 20, .inl (zF u)))]) (xk_V (As := [.ref na]) (rest := []) ⟨hx, hb, hml, hown, hts⟩ (mX9_starts l D ca H.size mo na nb nc nd ne nf ng nh ni nj nl ms mk my t12 mp na sn e T C L N G (by omega) hG hac hGo hM hLk) (cwV 1 hts gX9_earliestStart_X9_starts rfl rfl rfl (by decide +kernel) ⟨Nat.le_of_ble_eq_true rfl, Nat.le_of_ble_eq_true rfl⟩) hK hP hD (va_recv (q := (RX9, TX9, 16)) hK hP (ci := 9) (q0 := 0) rfl rfl) [0, 2, 1] rfl rfl rfl hl.1 rfl (Nat.le_of_ble_eq_true rfl) dX9_earliestStart_15 ⟨Nat.le_of_ble_eq_true rfl, Nat.le_of_ble_eq_true rfl⟩) hP hD hS hA [0, 2, 1] [] [0, 2, 1] rfl rfl rfl rfl (fun _ => rfl) rfl (fun r15 u15 H locs hw15 hP hD hS => ?_)
    obtain ⟨e115, hu15⟩ : ∃ z, z = u15 := ⟨_, rfl⟩
    subst hu15
    have hw15 : r15 = iZ (span G T L) ∧ ∀ j, j < T → e115 j = es G T L j := hw15
    have hP : va_P D vwCl [(mo, .inr (9, [.ref na, .ref nb, .ref nc, .ref nd, .int (bI (ms)), .int (nI mk), .ref ne, .int (nI my), .int (nI t12), .int (nI mp), .ref nf, .ref ng, .ref nh, .ref ni, .ref nj, .ref nl])), (na, .inl (ca 0, 442, .inl (zF sn))), (nf, .inl (ca 0, 20, .inl (zF e115)))] H := hP
    have hD : va_D A [(mo, .inr (9, [.ref na, .ref nb, .ref nc, .ref nd, .int (bI (ms)), .int (nI mk), .ref ne, .int (nI my), .int (nI t12), .int (nI mp), .ref nf, .ref ng, .ref nh, .ref ni, .ref nj, .ref nl])), (na, .inl (ca 0, 442, .inl (zF sn))), (nf, .inl (ca 0, 20, .inl (zF e115)))] := hD
    obtain ⟨hwr15, hv15⟩ := hw15
    subst hwr15
    refine lv_pop hx hb dX9_earliestStart_18 rfl ?_
    refine lv_aload_n hx hb dX9_earliestStart_19 rfl (lv_at hl 0 rfl) ?_
    refine va_get (D := D) (ci := 9) (v := .ref nf) (C := RX9) (T := TX9) (N := 16) hx hb hts inX9 hown hK hP 0 rfl rfl 10 (by decide) f25 (fun _ h9 => h9) rfl dX9_earliestStart_20 ?_
    refine lv_iload_n hx hb dX9_earliestStart_23 rfl (lv_at hl 1 rfl) ?_
    refine xr_iald hx hb hK hP 2 0 rfl rfl (by omega) (Nat.le_of_ble_eq_true rfl) (v := iZ (e115 (tI t))) rfl dX9_earliestStart_24 ?_
    rw [← hE]
    exact xe_i (t12, e115) hx hb hr hlocks hK hP hD hS (⟨hv2, fun _ => congrArg iZ (hv15 _ ht1)⟩) dX9_earliestStart_25
  · skip
    have h5 := bI_0.mp h5
    refine lv_iconst (v := nI (0)) hx hb dX9_earliestStart_8 (by decide) ?_
    rw [← hE]
    exact xe_i (t12, e) hx hb hr hlocks hK hP hD hS (⟨hv2, fun h9 => absurd (h9.symm.trans (kTa_f h5)) (by decide)⟩) dX9_earliestStart_9
def rX9_latestStart : Room := { frames := 2, cells := 0, slots := 0, locals := 51 }
set_option maxHeartbeats 4000000 in
set_option maxRecDepth 100000 in
theorem mX9_latestStart (l : Launch) (D : va_G) (ca : Nat → ClassId) (sz : Nat) (mo : Nat) (na : Nat) (nb : Nat) (nc : Nat) (nd : Nat) (ne : Nat) (nf : Nat) (ng : Nat) (nh : Nat) (ni : Nat) (nj : Nat) (nl : Nat) (ms : Bool) (mk : Nat) (my : Nat) (mt : Nat) (mp : Nat) (sn : Nat → Int) (T : Nat) (En : Int) (C : Int) (L : Nat → Int) (N : Nat → Int) (G : Nat → Nat → Int) (e : Nat → Int) (f : Nat → Int) (t : Int32) (hV : PSV T En C L N G) (hM : MS sn T C L N G) : MM l yX9_latestStart wsX9_latestStart rX9_latestStart D ca [.ref mo, .int (t)] sz [(mo, .inr (9, [.ref na, .ref nb, .ref nc, .ref nd, .int (bI (ms)), .int (nI mk), .ref ne, .int (nI my), .int (nI mt), .int (nI mp), .ref nf, .ref ng, .ref nh, .ref ni, .ref nj, .ref nl])), (na, .inl (ca 0, 442, .inl (zF sn))), (nf, .inl (ca 0, 20, .inl (zF e))), (ng, .inl (ca 0, 20, .inl (zF f)))] (QI D ca (fun (r : Int32) (u : Nat × (Nat → Int) × (Nat → Int)) => u.1 = kTa T t ∧ (kTa T t = 0 → r = iZ (lst G T L (tI t)))) (fun u => [(mo, .inr (9, [.ref na, .ref nb, .ref nc, .ref nd, .int (bI (ms)), .int (nI mk), .ref ne, .int (nI my), .int (nI u.1), .int (nI mp), .ref nf, .ref ng, .ref nh, .ref ni, .ref nj, .ref nl])), (na, .inl (ca 0, 442, .inl (zF sn))), (nf, .inl (ca 0, 20, .inl (zF u.2.1))), (ng, .inl (ca 0, 20, .inl (zF u.2.2)))])) := by
  refine MM_of (cc := cX9_latestStart) (maxL := 2) (ret := (some .int)) (lv0 := [(0, .ref mo), (1, .int (t))]) RX9 (by decide) rfl rfl (Nat.le_of_ble_eq_true rfl) rfl ?_
  intro pG eV s mI args below meth cO hx hb hr hml hts hown hlocks hnm A hA H locs hsz hP hK hD hS Q hE ls hl
  have f7 := hts (.fieldLink RX9 7 "SlackPlanModel" "now" "[I") (List.mem_of_getElem? (i := 1) rfl)
  have inX9 : ∀ w ∈ u_ws RX9 TX9 16, w ∈ wsX9_latestStart := in_r _ [21, 22, 23, 24, 25, 26, 27, 28, 29, 30, 31, 32, 33, 34, 35, 36] rfl
  have f28 := hts (.fieldLink RX9 28 "SlackPlanModel" "late" "[I") (List.mem_of_getElem? (i := 2) rfl)
  obtain ⟨hT, hC9, hL30, hNk, hG, hac, hGo, hEn, hE40⟩ := hV
  have hLk := L30_LOK hL30
  have hs0 := hM.1
  have hs1 := hM.2.1
  refine lv_aload_n hx hb dX9_latestStart_0 rfl (lv_at hl 0 rfl) ?_
  refine lv_iload_n hx hb dX9_latestStart_1 rfl (lv_at hl 1 rfl) ?_
  refine xk_i [(nf, .inl (ca 0, 20, .inl (zF e))), (ng, .inl (ca 0, 20, .inl (zF f)))] (fun u => [(mo, .inr (9, [.ref na, .ref nb, .ref nc, .ref nd, .int (bI (ms)), .int (nI mk), .ref ne, .int (nI my), .int (nI u), .int (nI mp), .ref nf, .ref ng, .ref nh, .ref ni, .ref nj, .ref nl])), (na, .inl (ca 0, 442, .inl (zF sn))), (nf, .inl (ca 0, 20, .inl (zF e))), (ng, .inl (ca 0, 20, .inl (zF f)))]) (xk_V (As := [.int (t)]) (rest := []) ⟨hx, hb, hml, hown, hts⟩ (mX9_isTask l D ca H.size mo na nb nc nd ne nf ng nh ni nj nl ms mk my mt mp sn T t (by omega) hs0) (cwV 1 hts gX9_latestStart_X9_isTask rfl rfl rfl (by decide +kernel) ⟨Nat.le_of_ble_eq_true rfl, Nat.le_of_ble_eq_true rfl⟩) hK hP hD (va_recv (q := (RX9, TX9, 16)) hK hP (ci := 9) (q0 := 0) rfl rfl) [0, 1] rfl rfl rfl hl.1 rfl (Nat.le_of_ble_eq_true rfl) dX9_latestStart_2 ⟨Nat.le_of_ble_eq_true rfl, Nat.le_of_ble_eq_true rfl⟩) hP hD hS hA [0, 1] [2, 3] [2, 3, 0, 1] rfl rfl rfl rfl (fun _ => rfl) rfl (fun r2 u2 H locs hw2 hP hD hS => ?_)
  obtain ⟨t12, hu2⟩ : ∃ z, z = u2 := ⟨_, rfl⟩
  subst hu2
  have hw2 : r2 = bI (hasB T t) ∧ t12 = kTa T t := hw2
  have hP : va_P D vwCl [(mo, .inr (9, [.ref na, .ref nb, .ref nc, .ref nd, .int (bI (ms)), .int (nI mk), .ref ne, .int (nI my), .int (nI t12), .int (nI mp), .ref nf, .ref ng, .ref nh, .ref ni, .ref nj, .ref nl])), (na, .inl (ca 0, 442, .inl (zF sn))), (nf, .inl (ca 0, 20, .inl (zF e))), (ng, .inl (ca 0, 20, .inl (zF f)))] H := hP
  have hD : va_D A [(mo, .inr (9, [.ref na, .ref nb, .ref nc, .ref nd, .int (bI (ms)), .int (nI mk), .ref ne, .int (nI my), .int (nI t12), .int (nI mp), .ref nf, .ref ng, .ref nh, .ref ni, .ref nj, .ref nl])), (na, .inl (ca 0, 442, .inl (zF sn))), (nf, .inl (ca 0, 20, .inl (zF e))), (ng, .inl (ca 0, 20, .inl (zF f)))] := hD
  obtain ⟨hwr2, hv2⟩ := hw2
  subst hwr2
  refine lv_if_ne (tgt := 10) hx hb dX9_latestStart_5 (by decide) (fun h5 => ?_) (fun h5 => ?_)
  · skip
    have h5 := bI_n0.mp h5
    obtain ⟨ht1, he1⟩ := hasB_ex h5
    have e9 : (t) = nI (tI t) := he1
    have hl : lv_has ls 2 [(0, .ref mo), (1, .int (nI (tI t)))] := by rw [← e9]; exact hl
    refine lv_aload_n hx hb dX9_latestStart_10 rfl (lv_at hl 0 rfl) ?_
    refine lv_aload_n hx hb dX9_latestStart_11 rfl (lv_at hl 0 rfl) ?_
    refine va_get (D := D) (ci := 9) (v := .ref na) (C := RX9) (T := TX9) (N := 16) hx hb hts inX9 hown hK hP 0 rfl rfl 0 (by decide) f7 (fun _ h9 => h9) rfl dX9_latestStart_12 ?_
    refine xk_i [] (fun u => [(mo, .inr (9, [.ref na, .ref nb, .ref nc, .ref nd, .int (bI (ms)), .int (nI mk), .ref ne, .int (nI my), .int (nI t12), .int (nI mp), .ref nf, .ref ng, .ref nh, .ref ni, .ref nj, .ref nl])), (na, .inl (ca 0, 442, .inl (zF sn))), (nf, .inl (ca 0, 20, .inl (zF u.1))), (ng, .inl (ca 0, 20, .inl (zF u.2)))]) (xk_V (As := [.ref na]) (rest := []) ⟨hx, hb, hml, hown, hts⟩ (mX9_days l D ca H.size mo na nb nc nd ne nf ng nh ni nj nl ms mk my t12 mp na sn e f T C L N G (by omega) hG hac hGo hM hLk) (cwV 1 hts gX9_latestStart_X9_days rfl rfl rfl (by decide +kernel) ⟨Nat.le_of_ble_eq_true rfl, Nat.le_of_ble_eq_true rfl⟩) hK hP hD (va_recv (q := (RX9, TX9, 16)) hK hP (ci := 9) (q0 := 0) rfl rfl) [0, 2, 3, 1] rfl rfl rfl hl.1 rfl (Nat.le_of_ble_eq_true rfl) dX9_latestStart_15 ⟨Nat.le_of_ble_eq_true rfl, Nat.le_of_ble_eq_true rfl⟩) hP hD hS hA [0, 2, 3, 1] [] [0, 3, 1, 2] rfl rfl rfl rfl (fun _ => rfl) rfl (fun r15 u15 H locs hw15 hP hD hS => ?_)
    obtain ⟨e115, f115⟩ := u15
    have hw15 : r15 = iZ (span G T L) ∧ (∀ j, j < T → e115 j = es G T L j) ∧ ∀ j, j < T → f115 j = lst G T L j := hw15
    have hP : va_P D vwCl [(mo, .inr (9, [.ref na, .ref nb, .ref nc, .ref nd, .int (bI (ms)), .int (nI mk), .ref ne, .int (nI my), .int (nI t12), .int (nI mp), .ref nf, .ref ng, .ref nh, .ref ni, .ref nj, .ref nl])), (na, .inl (ca 0, 442, .inl (zF sn))), (nf, .inl (ca 0, 20, .inl (zF e115))), (ng, .inl (ca 0, 20, .inl (zF f115)))] H := hP
    have hD : va_D A [(mo, .inr (9, [.ref na, .ref nb, .ref nc, .ref nd, .int (bI (ms)), .int (nI mk), .ref ne, .int (nI my), .int (nI t12), .int (nI mp), .ref nf, .ref ng, .ref nh, .ref ni, .ref nj, .ref nl])), (na, .inl (ca 0, 442, .inl (zF sn))), (nf, .inl (ca 0, 20, .inl (zF e115))), (ng, .inl (ca 0, 20, .inl (zF f115)))] := hD
    obtain ⟨hwr15, hv15⟩ := hw15
    subst hwr15
    refine lv_pop hx hb dX9_latestStart_18 rfl ?_
    refine lv_aload_n hx hb dX9_latestStart_19 rfl (lv_at hl 0 rfl) ?_
    refine va_get (D := D) (ci := 9) (v := .ref ng) (C := RX9) (T := TX9) (N := 16) hx hb hts inX9 hown hK hP 0 rfl rfl 11 (by decide) f28 (fun _ h9 => h9) rfl dX9_latestStart_20 ?_
    refine lv_iload_n hx hb dX9_latestStart_23 rfl (lv_at hl 1 rfl) ?_
    refine xr_iald hx hb hK hP 3 0 rfl rfl (by omega) (Nat.le_of_ble_eq_true rfl) (v := iZ (f115 (tI t))) rfl dX9_latestStart_24 ?_
    rw [← hE]
    exact xe_i (t12, e115, f115) hx hb hr hlocks hK hP hD hS (⟨hv2, fun _ => congrArg iZ (hv15.2 _ ht1)⟩) dX9_latestStart_25
  · skip
    have h5 := bI_0.mp h5
    refine lv_iconst (v := nI (0)) hx hb dX9_latestStart_8 (by decide) ?_
    rw [← hE]
    exact xe_i (t12, e, f) hx hb hr hlocks hK hP hD hS (⟨hv2, fun h9 => absurd (h9.symm.trans (kTa_f h5)) (by decide)⟩) dX9_latestStart_9
def rX9_planLength : Room := { frames := 1, cells := 0, slots := 0, locals := 25 }
set_option maxHeartbeats 4000000 in
set_option maxRecDepth 100000 in
theorem mX9_planLength (l : Launch) (D : va_G) (ca : Nat → ClassId) (sz : Nat) (mo : Nat) (na : Nat) (nb : Nat) (nc : Nat) (nd : Nat) (ne : Nat) (nf : Nat) (ng : Nat) (nh : Nat) (ni : Nat) (nj : Nat) (nl : Nat) (ms : Bool) (mk : Nat) (my : Nat) (mt : Nat) (mp : Nat) (sn : Nat → Int) (T : Nat) (En : Int) (C : Int) (L : Nat → Int) (N : Nat → Int) (G : Nat → Nat → Int) (e : Nat → Int) (hV : PSV T En C L N G) (hM : MS sn T C L N G) : MM l yX9_planLength wsX9_planLength rX9_planLength D ca [.ref mo] sz [(mo, .inr (9, [.ref na, .ref nb, .ref nc, .ref nd, .int (bI (ms)), .int (nI mk), .ref ne, .int (nI my), .int (nI mt), .int (nI mp), .ref nf, .ref ng, .ref nh, .ref ni, .ref nj, .ref nl])), (na, .inl (ca 0, 442, .inl (zF sn))), (nf, .inl (ca 0, 20, .inl (zF e)))] (QI D ca (fun (r : Int32) (u : (Nat → Int)) => r = iZ (span G T L)) (fun u => [(mo, .inr (9, [.ref na, .ref nb, .ref nc, .ref nd, .int (bI (ms)), .int (nI mk), .ref ne, .int (nI my), .int (nI 0), .int (nI mp), .ref nf, .ref ng, .ref nh, .ref ni, .ref nj, .ref nl])), (na, .inl (ca 0, 442, .inl (zF sn))), (nf, .inl (ca 0, 20, .inl (zF u)))])) := by
  refine MM_of (cc := cX9_planLength) (maxL := 1) (ret := (some .int)) (lv0 := [(0, .ref mo)]) RX9 (by decide) rfl rfl (Nat.le_of_ble_eq_true rfl) rfl ?_
  intro pG eV s mI args below meth cO hx hb hr hml hts hown hlocks hnm A hA H locs hsz hP hK hD hS Q hE ls hl
  have f44 := hts (.fieldLink RX9 44 "SlackPlanModel" "thrown" "I") (List.mem_of_getElem? (i := 1) rfl)
  have inX9 : ∀ w ∈ u_ws RX9 TX9 16, w ∈ wsX9_planLength := in_r _ [9, 10, 11, 12, 13, 14, 15, 16, 17, 18, 19, 20, 21, 22, 23, 24] rfl
  have f7 := hts (.fieldLink RX9 7 "SlackPlanModel" "now" "[I") (List.mem_of_getElem? (i := 2) rfl)
  obtain ⟨hT, hC9, hL30, hNk, hG, hac, hGo, hEn, hE40⟩ := hV
  have hLk := L30_LOK hL30
  have hs0 := hM.1
  have hs1 := hM.2.1
  refine lv_aload_n hx hb dX9_planLength_0 rfl (lv_at hl 0 rfl) ?_
  refine lv_iconst (v := nI (0)) hx hb dX9_planLength_1 (by decide) ?_
  refine va_put (D := D) (ci := 9) (v := .int (nI 0)) (ty := .int) (C := RX9) (T := TX9) (N := 16) hx hb hts inX9 tyX9 tyX9_ok nmX9 hown hK hP hD hS 0 rfl rfl 8 (by decide) f44 (fun _ h9 => h9) rfl (by decide +kernel) rfl rfl (Nat.le_of_ble_eq_true rfl) dX9_planLength_2 (fun H locs hP hD hS => ?_)
  have hP : va_P D vwCl [(mo, .inr (9, [.ref na, .ref nb, .ref nc, .ref nd, .int (bI (ms)), .int (nI mk), .ref ne, .int (nI my), .int (nI 0), .int (nI mp), .ref nf, .ref ng, .ref nh, .ref ni, .ref nj, .ref nl])), (na, .inl (ca 0, 442, .inl (zF sn))), (nf, .inl (ca 0, 20, .inl (zF e)))] H := hP
  have hD : va_D A [(mo, .inr (9, [.ref na, .ref nb, .ref nc, .ref nd, .int (bI (ms)), .int (nI mk), .ref ne, .int (nI my), .int (nI 0), .int (nI mp), .ref nf, .ref ng, .ref nh, .ref ni, .ref nj, .ref nl])), (na, .inl (ca 0, 442, .inl (zF sn))), (nf, .inl (ca 0, 20, .inl (zF e)))] := hD
  refine lv_aload_n hx hb dX9_planLength_5 rfl (lv_at hl 0 rfl) ?_
  refine lv_aload_n hx hb dX9_planLength_6 rfl (lv_at hl 0 rfl) ?_
  refine va_get (D := D) (ci := 9) (v := .ref na) (C := RX9) (T := TX9) (N := 16) hx hb hts inX9 hown hK hP 0 rfl rfl 0 (by decide) f7 (fun _ h9 => h9) rfl dX9_planLength_7 ?_
  refine xk_i [] (fun u => [(mo, .inr (9, [.ref na, .ref nb, .ref nc, .ref nd, .int (bI (ms)), .int (nI mk), .ref ne, .int (nI my), .int (nI 0), .int (nI mp), .ref nf, .ref ng, .ref nh, .ref ni, .ref nj, .ref nl])), (na, .inl (ca 0, 442, .inl (zF sn))), (nf, .inl (ca 0, 20, .inl (zF u)))]) (xk_V (As := [.ref na]) (rest := []) ⟨hx, hb, hml, hown, hts⟩ (mX9_starts l D ca H.size mo na nb nc nd ne nf ng nh ni nj nl ms mk my 0 mp na sn e T C L N G (by omega) hG hac hGo hM hLk) (cwV 1 hts gX9_planLength_X9_starts rfl rfl rfl (by decide +kernel) ⟨Nat.le_of_ble_eq_true rfl, Nat.le_of_ble_eq_true rfl⟩) hK hP hD (va_recv (q := (RX9, TX9, 16)) hK hP (ci := 9) (q0 := 0) rfl rfl) [0, 2, 1] rfl rfl rfl hl.1 rfl (Nat.le_of_ble_eq_true rfl) dX9_planLength_10 ⟨Nat.le_of_ble_eq_true rfl, Nat.le_of_ble_eq_true rfl⟩) hP hD hS hA [0, 2, 1] [] [0, 2, 1] rfl rfl rfl rfl (fun _ => rfl) rfl (fun r10 u10 H locs hw10 hP hD hS => ?_)
  obtain ⟨e110, hu10⟩ : ∃ z, z = u10 := ⟨_, rfl⟩
  subst hu10
  have hw10 : r10 = iZ (span G T L) ∧ ∀ j, j < T → e110 j = es G T L j := hw10
  have hP : va_P D vwCl [(mo, .inr (9, [.ref na, .ref nb, .ref nc, .ref nd, .int (bI (ms)), .int (nI mk), .ref ne, .int (nI my), .int (nI 0), .int (nI mp), .ref nf, .ref ng, .ref nh, .ref ni, .ref nj, .ref nl])), (na, .inl (ca 0, 442, .inl (zF sn))), (nf, .inl (ca 0, 20, .inl (zF e110)))] H := hP
  have hD : va_D A [(mo, .inr (9, [.ref na, .ref nb, .ref nc, .ref nd, .int (bI (ms)), .int (nI mk), .ref ne, .int (nI my), .int (nI 0), .int (nI mp), .ref nf, .ref ng, .ref nh, .ref ni, .ref nj, .ref nl])), (na, .inl (ca 0, 442, .inl (zF sn))), (nf, .inl (ca 0, 20, .inl (zF e110)))] := hD
  obtain ⟨hwr10, hv10⟩ := hw10
  subst hwr10
  rw [← hE]
  exact xe_i (e110) hx hb hr hlocks hK hP hD hS rfl dX9_planLength_13
def rX9_planLengthByRounds : Room := { frames := 1, cells := 0, slots := 0, locals := 25 }
set_option maxHeartbeats 4000000 in
set_option maxRecDepth 100000 in
theorem mX9_planLengthByRounds (l : Launch) (D : va_G) (ca : Nat → ClassId) (sz : Nat) (mo : Nat) (na : Nat) (nb : Nat) (nc : Nat) (nd : Nat) (ne : Nat) (nf : Nat) (ng : Nat) (nh : Nat) (ni : Nat) (nj : Nat) (nl : Nat) (ms : Bool) (mk : Nat) (my : Nat) (mt : Nat) (mp : Nat) (sn : Nat → Int) (T : Nat) (En : Int) (C : Int) (L : Nat → Int) (N : Nat → Int) (G : Nat → Nat → Int) (e : Nat → Int) (hV : PSV T En C L N G) (hM : MS sn T C L N G) : MM l yX9_planLengthByRounds wsX9_planLengthByRounds rX9_planLengthByRounds D ca [.ref mo] sz [(mo, .inr (9, [.ref na, .ref nb, .ref nc, .ref nd, .int (bI (ms)), .int (nI mk), .ref ne, .int (nI my), .int (nI mt), .int (nI mp), .ref nf, .ref ng, .ref nh, .ref ni, .ref nj, .ref nl])), (na, .inl (ca 0, 442, .inl (zF sn))), (nf, .inl (ca 0, 20, .inl (zF e)))] (QI D ca (fun (r : Int32) (u : (Nat → Int)) => r = iZ (span G T L)) (fun u => [(mo, .inr (9, [.ref na, .ref nb, .ref nc, .ref nd, .int (bI (ms)), .int (nI mk), .ref ne, .int (nI my), .int (nI 0), .int (nI mp), .ref nf, .ref ng, .ref nh, .ref ni, .ref nj, .ref nl])), (na, .inl (ca 0, 442, .inl (zF sn))), (nf, .inl (ca 0, 20, .inl (zF u)))])) := by
  refine MM_of (cc := cX9_planLengthByRounds) (maxL := 1) (ret := (some .int)) (lv0 := [(0, .ref mo)]) RX9 (by decide) rfl rfl (Nat.le_of_ble_eq_true rfl) rfl ?_
  intro pG eV s mI args below meth cO hx hb hr hml hts hown hlocks hnm A hA H locs hsz hP hK hD hS Q hE ls hl
  have f44 := hts (.fieldLink RX9 44 "SlackPlanModel" "thrown" "I") (List.mem_of_getElem? (i := 1) rfl)
  have inX9 : ∀ w ∈ u_ws RX9 TX9 16, w ∈ wsX9_planLengthByRounds := in_r _ [9, 10, 11, 12, 13, 14, 15, 16, 17, 18, 19, 20, 21, 22, 23, 24] rfl
  have f7 := hts (.fieldLink RX9 7 "SlackPlanModel" "now" "[I") (List.mem_of_getElem? (i := 2) rfl)
  obtain ⟨hT, hC9, hL30, hNk, hG, hac, hGo, hEn, hE40⟩ := hV
  have hLk := L30_LOK hL30
  have hs0 := hM.1
  have hs1 := hM.2.1
  refine lv_aload_n hx hb dX9_planLengthByRounds_0 rfl (lv_at hl 0 rfl) ?_
  refine lv_iconst (v := nI (0)) hx hb dX9_planLengthByRounds_1 (by decide) ?_
  refine va_put (D := D) (ci := 9) (v := .int (nI 0)) (ty := .int) (C := RX9) (T := TX9) (N := 16) hx hb hts inX9 tyX9 tyX9_ok nmX9 hown hK hP hD hS 0 rfl rfl 8 (by decide) f44 (fun _ h9 => h9) rfl (by decide +kernel) rfl rfl (Nat.le_of_ble_eq_true rfl) dX9_planLengthByRounds_2 (fun H locs hP hD hS => ?_)
  have hP : va_P D vwCl [(mo, .inr (9, [.ref na, .ref nb, .ref nc, .ref nd, .int (bI (ms)), .int (nI mk), .ref ne, .int (nI my), .int (nI 0), .int (nI mp), .ref nf, .ref ng, .ref nh, .ref ni, .ref nj, .ref nl])), (na, .inl (ca 0, 442, .inl (zF sn))), (nf, .inl (ca 0, 20, .inl (zF e)))] H := hP
  have hD : va_D A [(mo, .inr (9, [.ref na, .ref nb, .ref nc, .ref nd, .int (bI (ms)), .int (nI mk), .ref ne, .int (nI my), .int (nI 0), .int (nI mp), .ref nf, .ref ng, .ref nh, .ref ni, .ref nj, .ref nl])), (na, .inl (ca 0, 442, .inl (zF sn))), (nf, .inl (ca 0, 20, .inl (zF e)))] := hD
  refine lv_aload_n hx hb dX9_planLengthByRounds_5 rfl (lv_at hl 0 rfl) ?_
  refine lv_aload_n hx hb dX9_planLengthByRounds_6 rfl (lv_at hl 0 rfl) ?_
  refine va_get (D := D) (ci := 9) (v := .ref na) (C := RX9) (T := TX9) (N := 16) hx hb hts inX9 hown hK hP 0 rfl rfl 0 (by decide) f7 (fun _ h9 => h9) rfl dX9_planLengthByRounds_7 ?_
  refine xk_i [] (fun u => [(mo, .inr (9, [.ref na, .ref nb, .ref nc, .ref nd, .int (bI (ms)), .int (nI mk), .ref ne, .int (nI my), .int (nI 0), .int (nI mp), .ref nf, .ref ng, .ref nh, .ref ni, .ref nj, .ref nl])), (na, .inl (ca 0, 442, .inl (zF sn))), (nf, .inl (ca 0, 20, .inl (zF u)))]) (xk_V (As := [.ref na]) (rest := []) ⟨hx, hb, hml, hown, hts⟩ (mX9_starts l D ca H.size mo na nb nc nd ne nf ng nh ni nj nl ms mk my 0 mp na sn e T C L N G (by omega) hG hac hGo hM hLk) (cwV 1 hts gX9_planLengthByRounds_X9_starts rfl rfl rfl (by decide +kernel) ⟨Nat.le_of_ble_eq_true rfl, Nat.le_of_ble_eq_true rfl⟩) hK hP hD (va_recv (q := (RX9, TX9, 16)) hK hP (ci := 9) (q0 := 0) rfl rfl) [0, 2, 1] rfl rfl rfl hl.1 rfl (Nat.le_of_ble_eq_true rfl) dX9_planLengthByRounds_10 ⟨Nat.le_of_ble_eq_true rfl, Nat.le_of_ble_eq_true rfl⟩) hP hD hS hA [0, 2, 1] [] [0, 2, 1] rfl rfl rfl rfl (fun _ => rfl) rfl (fun r10 u10 H locs hw10 hP hD hS => ?_)
  obtain ⟨e110, hu10⟩ : ∃ z, z = u10 := ⟨_, rfl⟩
  subst hu10
  have hw10 : r10 = iZ (span G T L) ∧ ∀ j, j < T → e110 j = es G T L j := hw10
  have hP : va_P D vwCl [(mo, .inr (9, [.ref na, .ref nb, .ref nc, .ref nd, .int (bI (ms)), .int (nI mk), .ref ne, .int (nI my), .int (nI 0), .int (nI mp), .ref nf, .ref ng, .ref nh, .ref ni, .ref nj, .ref nl])), (na, .inl (ca 0, 442, .inl (zF sn))), (nf, .inl (ca 0, 20, .inl (zF e110)))] H := hP
  have hD : va_D A [(mo, .inr (9, [.ref na, .ref nb, .ref nc, .ref nd, .int (bI (ms)), .int (nI mk), .ref ne, .int (nI my), .int (nI 0), .int (nI mp), .ref nf, .ref ng, .ref nh, .ref ni, .ref nj, .ref nl])), (na, .inl (ca 0, 442, .inl (zF sn))), (nf, .inl (ca 0, 20, .inl (zF e110)))] := hD
  obtain ⟨hwr10, hv10⟩ := hw10
  subst hwr10
  rw [← hE]
  exact xe_i (e110) hx hb hr hlocks hK hP hD hS rfl dX9_planLengthByRounds_13
def rX9_left : Room := { frames := 2, cells := 0, slots := 0, locals := 51 }
set_option maxHeartbeats 4000000 in
set_option maxRecDepth 100000 in
theorem mX9_left (l : Launch) (D : va_G) (ca : Nat → ClassId) (sz : Nat) (mo : Nat) (na : Nat) (nb : Nat) (nc : Nat) (nd : Nat) (ne : Nat) (nf : Nat) (ng : Nat) (nh : Nat) (ni : Nat) (nj : Nat) (nl : Nat) (ms : Bool) (mk : Nat) (my : Nat) (mt : Nat) (mp : Nat) (sn : Nat → Int) (T : Nat) (En : Int) (C : Int) (L : Nat → Int) (N : Nat → Int) (G : Nat → Nat → Int) (e : Nat → Int) (f : Nat → Int) (t : Int32) (hV : PSV T En C L N G) (hM : MS sn T C L N G) : MM l yX9_left wsX9_left rX9_left D ca [.ref mo, .int (t)] sz [(mo, .inr (9, [.ref na, .ref nb, .ref nc, .ref nd, .int (bI (ms)), .int (nI mk), .ref ne, .int (nI my), .int (nI mt), .int (nI mp), .ref nf, .ref ng, .ref nh, .ref ni, .ref nj, .ref nl])), (na, .inl (ca 0, 442, .inl (zF sn))), (nf, .inl (ca 0, 20, .inl (zF e))), (ng, .inl (ca 0, 20, .inl (zF f)))] (QI D ca (fun (r : Int32) (u : Nat × (Nat → Int) × (Nat → Int)) => u.1 = kTa T t ∧ (kTa T t = 0 → r = iZ (lst G T L (tI t) - es G T L (tI t)))) (fun u => [(mo, .inr (9, [.ref na, .ref nb, .ref nc, .ref nd, .int (bI (ms)), .int (nI mk), .ref ne, .int (nI my), .int (nI u.1), .int (nI mp), .ref nf, .ref ng, .ref nh, .ref ni, .ref nj, .ref nl])), (na, .inl (ca 0, 442, .inl (zF sn))), (nf, .inl (ca 0, 20, .inl (zF u.2.1))), (ng, .inl (ca 0, 20, .inl (zF u.2.2)))])) := by
  refine MM_of (cc := cX9_left) (maxL := 2) (ret := (some .int)) (lv0 := [(0, .ref mo), (1, .int (t))]) RX9 (by decide) rfl rfl (Nat.le_of_ble_eq_true rfl) rfl ?_
  intro pG eV s mI args below meth cO hx hb hr hml hts hown hlocks hnm A hA H locs hsz hP hK hD hS Q hE ls hl
  have f7 := hts (.fieldLink RX9 7 "SlackPlanModel" "now" "[I") (List.mem_of_getElem? (i := 1) rfl)
  have inX9 : ∀ w ∈ u_ws RX9 TX9 16, w ∈ wsX9_left := in_r _ [21, 22, 23, 24, 25, 26, 27, 28, 29, 30, 31, 32, 33, 34, 35, 36] rfl
  have f28 := hts (.fieldLink RX9 28 "SlackPlanModel" "late" "[I") (List.mem_of_getElem? (i := 2) rfl)
  have f25 := hts (.fieldLink RX9 25 "SlackPlanModel" "early" "[I") (List.mem_of_getElem? (i := 3) rfl)
  obtain ⟨hT, hC9, hL30, hNk, hG, hac, hGo, hEn, hE40⟩ := hV
  have hLk := L30_LOK hL30
  have hs0 := hM.1
  have hs1 := hM.2.1
  refine lv_aload_n hx hb dX9_left_0 rfl (lv_at hl 0 rfl) ?_
  refine lv_iload_n hx hb dX9_left_1 rfl (lv_at hl 1 rfl) ?_
  refine xk_i [(nf, .inl (ca 0, 20, .inl (zF e))), (ng, .inl (ca 0, 20, .inl (zF f)))] (fun u => [(mo, .inr (9, [.ref na, .ref nb, .ref nc, .ref nd, .int (bI (ms)), .int (nI mk), .ref ne, .int (nI my), .int (nI u), .int (nI mp), .ref nf, .ref ng, .ref nh, .ref ni, .ref nj, .ref nl])), (na, .inl (ca 0, 442, .inl (zF sn))), (nf, .inl (ca 0, 20, .inl (zF e))), (ng, .inl (ca 0, 20, .inl (zF f)))]) (xk_V (As := [.int (t)]) (rest := []) ⟨hx, hb, hml, hown, hts⟩ (mX9_isTask l D ca H.size mo na nb nc nd ne nf ng nh ni nj nl ms mk my mt mp sn T t (by omega) hs0) (cwV 1 hts gX9_left_X9_isTask rfl rfl rfl (by decide +kernel) ⟨Nat.le_of_ble_eq_true rfl, Nat.le_of_ble_eq_true rfl⟩) hK hP hD (va_recv (q := (RX9, TX9, 16)) hK hP (ci := 9) (q0 := 0) rfl rfl) [0, 1] rfl rfl rfl hl.1 rfl (Nat.le_of_ble_eq_true rfl) dX9_left_2 ⟨Nat.le_of_ble_eq_true rfl, Nat.le_of_ble_eq_true rfl⟩) hP hD hS hA [0, 1] [2, 3] [2, 3, 0, 1] rfl rfl rfl rfl (fun _ => rfl) rfl (fun r2 u2 H locs hw2 hP hD hS => ?_)
  obtain ⟨t12, hu2⟩ : ∃ z, z = u2 := ⟨_, rfl⟩
  subst hu2
  have hw2 : r2 = bI (hasB T t) ∧ t12 = kTa T t := hw2
  have hP : va_P D vwCl [(mo, .inr (9, [.ref na, .ref nb, .ref nc, .ref nd, .int (bI (ms)), .int (nI mk), .ref ne, .int (nI my), .int (nI t12), .int (nI mp), .ref nf, .ref ng, .ref nh, .ref ni, .ref nj, .ref nl])), (na, .inl (ca 0, 442, .inl (zF sn))), (nf, .inl (ca 0, 20, .inl (zF e))), (ng, .inl (ca 0, 20, .inl (zF f)))] H := hP
  have hD : va_D A [(mo, .inr (9, [.ref na, .ref nb, .ref nc, .ref nd, .int (bI (ms)), .int (nI mk), .ref ne, .int (nI my), .int (nI t12), .int (nI mp), .ref nf, .ref ng, .ref nh, .ref ni, .ref nj, .ref nl])), (na, .inl (ca 0, 442, .inl (zF sn))), (nf, .inl (ca 0, 20, .inl (zF e))), (ng, .inl (ca 0, 20, .inl (zF f)))] := hD
  obtain ⟨hwr2, hv2⟩ := hw2
  subst hwr2
  refine lv_if_ne (tgt := 10) hx hb dX9_left_5 (by decide) (fun h5 => ?_) (fun h5 => ?_)
  · skip
    have h5 := bI_n0.mp h5
    obtain ⟨ht1, he1⟩ := hasB_ex h5
    have e9 : (t) = nI (tI t) := he1
    have hl : lv_has ls 2 [(0, .ref mo), (1, .int (nI (tI t)))] := by rw [← e9]; exact hl
    refine lv_aload_n hx hb dX9_left_10 rfl (lv_at hl 0 rfl) ?_
    refine lv_aload_n hx hb dX9_left_11 rfl (lv_at hl 0 rfl) ?_
    refine va_get (D := D) (ci := 9) (v := .ref na) (C := RX9) (T := TX9) (N := 16) hx hb hts inX9 hown hK hP 0 rfl rfl 0 (by decide) f7 (fun _ h9 => h9) rfl dX9_left_12 ?_
    refine xk_i [] (fun u => [(mo, .inr (9, [.ref na, .ref nb, .ref nc, .ref nd, .int (bI (ms)), .int (nI mk), .ref ne, .int (nI my), .int (nI t12), .int (nI mp), .ref nf, .ref ng, .ref nh, .ref ni, .ref nj, .ref nl])), (na, .inl (ca 0, 442, .inl (zF sn))), (nf, .inl (ca 0, 20, .inl (zF u.1))), (ng, .inl (ca 0, 20, .inl (zF u.2)))]) (xk_V (As := [.ref na]) (rest := []) ⟨hx, hb, hml, hown, hts⟩ (mX9_days l D ca H.size mo na nb nc nd ne nf ng nh ni nj nl ms mk my t12 mp na sn e f T C L N G (by omega) hG hac hGo hM hLk) (cwV 1 hts gX9_left_X9_days rfl rfl rfl (by decide +kernel) ⟨Nat.le_of_ble_eq_true rfl, Nat.le_of_ble_eq_true rfl⟩) hK hP hD (va_recv (q := (RX9, TX9, 16)) hK hP (ci := 9) (q0 := 0) rfl rfl) [0, 2, 3, 1] rfl rfl rfl hl.1 rfl (Nat.le_of_ble_eq_true rfl) dX9_left_15 ⟨Nat.le_of_ble_eq_true rfl, Nat.le_of_ble_eq_true rfl⟩) hP hD hS hA [0, 2, 3, 1] [] [0, 3, 1, 2] rfl rfl rfl rfl (fun _ => rfl) rfl (fun r15 u15 H locs hw15 hP hD hS => ?_)
    obtain ⟨e115, f115⟩ := u15
    have hw15 : r15 = iZ (span G T L) ∧ (∀ j, j < T → e115 j = es G T L j) ∧ ∀ j, j < T → f115 j = lst G T L j := hw15
    have hP : va_P D vwCl [(mo, .inr (9, [.ref na, .ref nb, .ref nc, .ref nd, .int (bI (ms)), .int (nI mk), .ref ne, .int (nI my), .int (nI t12), .int (nI mp), .ref nf, .ref ng, .ref nh, .ref ni, .ref nj, .ref nl])), (na, .inl (ca 0, 442, .inl (zF sn))), (nf, .inl (ca 0, 20, .inl (zF e115))), (ng, .inl (ca 0, 20, .inl (zF f115)))] H := hP
    have hD : va_D A [(mo, .inr (9, [.ref na, .ref nb, .ref nc, .ref nd, .int (bI (ms)), .int (nI mk), .ref ne, .int (nI my), .int (nI t12), .int (nI mp), .ref nf, .ref ng, .ref nh, .ref ni, .ref nj, .ref nl])), (na, .inl (ca 0, 442, .inl (zF sn))), (nf, .inl (ca 0, 20, .inl (zF e115))), (ng, .inl (ca 0, 20, .inl (zF f115)))] := hD
    obtain ⟨hwr15, hv15⟩ := hw15
    subst hwr15
    refine lv_pop hx hb dX9_left_18 rfl ?_
    refine lv_aload_n hx hb dX9_left_19 rfl (lv_at hl 0 rfl) ?_
    refine va_get (D := D) (ci := 9) (v := .ref ng) (C := RX9) (T := TX9) (N := 16) hx hb hts inX9 hown hK hP 0 rfl rfl 11 (by decide) f28 (fun _ h9 => h9) rfl dX9_left_20 ?_
    refine lv_iload_n hx hb dX9_left_23 rfl (lv_at hl 1 rfl) ?_
    refine xr_iald hx hb hK hP 3 0 rfl rfl (by omega) (Nat.le_of_ble_eq_true rfl) (v := iZ (f115 (tI t))) rfl dX9_left_24 ?_
    refine lv_aload_n hx hb dX9_left_25 rfl (lv_at hl 0 rfl) ?_
    refine va_get (D := D) (ci := 9) (v := .ref nf) (C := RX9) (T := TX9) (N := 16) hx hb hts inX9 hown hK hP 0 rfl rfl 10 (by decide) f25 (fun _ h9 => h9) rfl dX9_left_26 ?_
    refine lv_iload_n hx hb dX9_left_29 rfl (lv_at hl 1 rfl) ?_
    refine xr_iald hx hb hK hP 2 0 rfl rfl (by omega) (Nat.le_of_ble_eq_true rfl) (v := iZ (e115 (tI t))) rfl dX9_left_30 ?_
    refine xr_isub_zz hx hb dX9_left_31 ?_
    rw [← hE]
    exact xe_i (t12, e115, f115) hx hb hr hlocks hK hP hD hS (⟨hv2, fun _ => by rw [hv15.1 _ ht1, hv15.2 _ ht1]⟩) dX9_left_32
  · skip
    have h5 := bI_0.mp h5
    refine lv_iconst (v := nI (0)) hx hb dX9_left_8 (by decide) ?_
    rw [← hE]
    exact xe_i (t12, e, f) hx hb hr hlocks hK hP hD hS (⟨hv2, fun h9 => absurd (h9.symm.trans (kTa_f h5)) (by decide)⟩) dX9_left_9
def rX9_slack : Room := { frames := 3, cells := 0, slots := 0, locals := 72 }
set_option maxHeartbeats 4000000 in
set_option maxRecDepth 100000 in
theorem mX9_slack (l : Launch) (D : va_G) (ca : Nat → ClassId) (sz : Nat) (mo : Nat) (na : Nat) (nb : Nat) (nc : Nat) (nd : Nat) (ne : Nat) (nf : Nat) (ng : Nat) (nh : Nat) (ni : Nat) (nj : Nat) (nl : Nat) (ms : Bool) (mk : Nat) (my : Nat) (mt : Nat) (mp : Nat) (sn : Nat → Int) (T : Nat) (En : Int) (C : Int) (L : Nat → Int) (N : Nat → Int) (G : Nat → Nat → Int) (e : Nat → Int) (f : Nat → Int) (t : Int32) (hV : PSV T En C L N G) (hM : MS sn T C L N G) : MM l yX9_slack wsX9_slack rX9_slack D ca [.ref mo, .int (t)] sz [(mo, .inr (9, [.ref na, .ref nb, .ref nc, .ref nd, .int (bI (ms)), .int (nI mk), .ref ne, .int (nI my), .int (nI mt), .int (nI mp), .ref nf, .ref ng, .ref nh, .ref ni, .ref nj, .ref nl])), (na, .inl (ca 0, 442, .inl (zF sn))), (nf, .inl (ca 0, 20, .inl (zF e))), (ng, .inl (ca 0, 20, .inl (zF f)))] (QI D ca (fun (r : Int32) (u : Nat × (Nat → Int) × (Nat → Int)) => u.1 = kTa T t ∧ (kTa T t = 0 → r = iZ (lst G T L (tI t) - es G T L (tI t)))) (fun u => [(mo, .inr (9, [.ref na, .ref nb, .ref nc, .ref nd, .int (bI (ms)), .int (nI mk), .ref ne, .int (nI my), .int (nI u.1), .int (nI mp), .ref nf, .ref ng, .ref nh, .ref ni, .ref nj, .ref nl])), (na, .inl (ca 0, 442, .inl (zF sn))), (nf, .inl (ca 0, 20, .inl (zF u.2.1))), (ng, .inl (ca 0, 20, .inl (zF u.2.2)))])) := by
  refine MM_of (cc := cX9_slack) (maxL := 2) (ret := (some .int)) (lv0 := [(0, .ref mo), (1, .int (t))]) RX9 (by decide) rfl rfl (Nat.le_of_ble_eq_true rfl) rfl ?_
  intro pG eV s mI args below meth cO hx hb hr hml hts hown hlocks hnm A hA H locs hsz hP hK hD hS Q hE ls hl
  refine lv_aload_n hx hb dX9_slack_0 rfl (lv_at hl 0 rfl) ?_
  refine lv_iload_n hx hb dX9_slack_1 rfl (lv_at hl 1 rfl) ?_
  refine xk_i [] (fun u => [(mo, .inr (9, [.ref na, .ref nb, .ref nc, .ref nd, .int (bI (ms)), .int (nI mk), .ref ne, .int (nI my), .int (nI u.1), .int (nI mp), .ref nf, .ref ng, .ref nh, .ref ni, .ref nj, .ref nl])), (na, .inl (ca 0, 442, .inl (zF sn))), (nf, .inl (ca 0, 20, .inl (zF u.2.1))), (ng, .inl (ca 0, 20, .inl (zF u.2.2)))]) (xk_V (As := [.int (t)]) (rest := []) ⟨hx, hb, hml, hown, hts⟩ (mX9_left l D ca H.size mo na nb nc nd ne nf ng nh ni nj nl ms mk my mt mp sn T En C L N G e f t hV hM) (cwV 1 hts gX9_slack_X9_left rfl rfl rfl (by decide +kernel) ⟨Nat.le_of_ble_eq_true rfl, Nat.le_of_ble_eq_true rfl⟩) hK hP hD (va_recv (q := (RX9, TX9, 16)) hK hP (ci := 9) (q0 := 0) rfl rfl) [0, 1, 2, 3] rfl rfl rfl hl.1 rfl (Nat.le_of_ble_eq_true rfl) dX9_slack_2 ⟨Nat.le_of_ble_eq_true rfl, Nat.le_of_ble_eq_true rfl⟩) hP hD hS hA [0, 1, 2, 3] [] [0, 1, 2, 3] rfl rfl rfl rfl (fun _ => rfl) rfl (fun r2 u2 H locs hw2 hP hD hS => ?_)
  obtain ⟨t12, e12, f12⟩ := u2
  have hw2 : t12 = kTa T t ∧ (kTa T t = 0 → r2 = iZ (lst G T L (tI t) - es G T L (tI t))) := hw2
  have hP : va_P D vwCl [(mo, .inr (9, [.ref na, .ref nb, .ref nc, .ref nd, .int (bI (ms)), .int (nI mk), .ref ne, .int (nI my), .int (nI t12), .int (nI mp), .ref nf, .ref ng, .ref nh, .ref ni, .ref nj, .ref nl])), (na, .inl (ca 0, 442, .inl (zF sn))), (nf, .inl (ca 0, 20, .inl (zF e12))), (ng, .inl (ca 0, 20, .inl (zF f12)))] H := hP
  have hD : va_D A [(mo, .inr (9, [.ref na, .ref nb, .ref nc, .ref nd, .int (bI (ms)), .int (nI mk), .ref ne, .int (nI my), .int (nI t12), .int (nI mp), .ref nf, .ref ng, .ref nh, .ref ni, .ref nj, .ref nl])), (na, .inl (ca 0, 442, .inl (zF sn))), (nf, .inl (ca 0, 20, .inl (zF e12))), (ng, .inl (ca 0, 20, .inl (zF f12)))] := hD
  rw [← hE]
  exact xe_i (t12, e12, f12) hx hb hr hlocks hK hP hD hS hw2 dX9_slack_5
def rX9_slackByChain : Room := { frames := 3, cells := 0, slots := 0, locals := 72 }
set_option maxHeartbeats 4000000 in
set_option maxRecDepth 100000 in
theorem mX9_slackByChain (l : Launch) (D : va_G) (ca : Nat → ClassId) (sz : Nat) (mo : Nat) (na : Nat) (nb : Nat) (nc : Nat) (nd : Nat) (ne : Nat) (nf : Nat) (ng : Nat) (nh : Nat) (ni : Nat) (nj : Nat) (nl : Nat) (ms : Bool) (mk : Nat) (my : Nat) (mt : Nat) (mp : Nat) (sn : Nat → Int) (T : Nat) (En : Int) (C : Int) (L : Nat → Int) (N : Nat → Int) (G : Nat → Nat → Int) (e : Nat → Int) (f : Nat → Int) (t : Int32) (hV : PSV T En C L N G) (hM : MS sn T C L N G) : MM l yX9_slackByChain wsX9_slackByChain rX9_slackByChain D ca [.ref mo, .int (t)] sz [(mo, .inr (9, [.ref na, .ref nb, .ref nc, .ref nd, .int (bI (ms)), .int (nI mk), .ref ne, .int (nI my), .int (nI mt), .int (nI mp), .ref nf, .ref ng, .ref nh, .ref ni, .ref nj, .ref nl])), (na, .inl (ca 0, 442, .inl (zF sn))), (nf, .inl (ca 0, 20, .inl (zF e))), (ng, .inl (ca 0, 20, .inl (zF f)))] (QI D ca (fun (r : Int32) (u : Nat × (Nat → Int) × (Nat → Int)) => u.1 = kTa T t ∧ (kTa T t = 0 → r = iZ (lst G T L (tI t) - es G T L (tI t)))) (fun u => [(mo, .inr (9, [.ref na, .ref nb, .ref nc, .ref nd, .int (bI (ms)), .int (nI mk), .ref ne, .int (nI my), .int (nI u.1), .int (nI mp), .ref nf, .ref ng, .ref nh, .ref ni, .ref nj, .ref nl])), (na, .inl (ca 0, 442, .inl (zF sn))), (nf, .inl (ca 0, 20, .inl (zF u.2.1))), (ng, .inl (ca 0, 20, .inl (zF u.2.2)))])) := by
  refine MM_of (cc := cX9_slackByChain) (maxL := 2) (ret := (some .int)) (lv0 := [(0, .ref mo), (1, .int (t))]) RX9 (by decide) rfl rfl (Nat.le_of_ble_eq_true rfl) rfl ?_
  intro pG eV s mI args below meth cO hx hb hr hml hts hown hlocks hnm A hA H locs hsz hP hK hD hS Q hE ls hl
  refine lv_aload_n hx hb dX9_slackByChain_0 rfl (lv_at hl 0 rfl) ?_
  refine lv_iload_n hx hb dX9_slackByChain_1 rfl (lv_at hl 1 rfl) ?_
  refine xk_i [] (fun u => [(mo, .inr (9, [.ref na, .ref nb, .ref nc, .ref nd, .int (bI (ms)), .int (nI mk), .ref ne, .int (nI my), .int (nI u.1), .int (nI mp), .ref nf, .ref ng, .ref nh, .ref ni, .ref nj, .ref nl])), (na, .inl (ca 0, 442, .inl (zF sn))), (nf, .inl (ca 0, 20, .inl (zF u.2.1))), (ng, .inl (ca 0, 20, .inl (zF u.2.2)))]) (xk_V (As := [.int (t)]) (rest := []) ⟨hx, hb, hml, hown, hts⟩ (mX9_left l D ca H.size mo na nb nc nd ne nf ng nh ni nj nl ms mk my mt mp sn T En C L N G e f t hV hM) (cwV 1 hts gX9_slackByChain_X9_left rfl rfl rfl (by decide +kernel) ⟨Nat.le_of_ble_eq_true rfl, Nat.le_of_ble_eq_true rfl⟩) hK hP hD (va_recv (q := (RX9, TX9, 16)) hK hP (ci := 9) (q0 := 0) rfl rfl) [0, 1, 2, 3] rfl rfl rfl hl.1 rfl (Nat.le_of_ble_eq_true rfl) dX9_slackByChain_2 ⟨Nat.le_of_ble_eq_true rfl, Nat.le_of_ble_eq_true rfl⟩) hP hD hS hA [0, 1, 2, 3] [] [0, 1, 2, 3] rfl rfl rfl rfl (fun _ => rfl) rfl (fun r2 u2 H locs hw2 hP hD hS => ?_)
  obtain ⟨t12, e12, f12⟩ := u2
  have hw2 : t12 = kTa T t ∧ (kTa T t = 0 → r2 = iZ (lst G T L (tI t) - es G T L (tI t))) := hw2
  have hP : va_P D vwCl [(mo, .inr (9, [.ref na, .ref nb, .ref nc, .ref nd, .int (bI (ms)), .int (nI mk), .ref ne, .int (nI my), .int (nI t12), .int (nI mp), .ref nf, .ref ng, .ref nh, .ref ni, .ref nj, .ref nl])), (na, .inl (ca 0, 442, .inl (zF sn))), (nf, .inl (ca 0, 20, .inl (zF e12))), (ng, .inl (ca 0, 20, .inl (zF f12)))] H := hP
  have hD : va_D A [(mo, .inr (9, [.ref na, .ref nb, .ref nc, .ref nd, .int (bI (ms)), .int (nI mk), .ref ne, .int (nI my), .int (nI t12), .int (nI mp), .ref nf, .ref ng, .ref nh, .ref ni, .ref nj, .ref nl])), (na, .inl (ca 0, 442, .inl (zF sn))), (nf, .inl (ca 0, 20, .inl (zF e12))), (ng, .inl (ca 0, 20, .inl (zF f12)))] := hD
  rw [← hE]
  exact xe_i (t12, e12, f12) hx hb hr hlocks hK hP hD hS hw2 dX9_slackByChain_5
def rX9_longestHarmless : Room := { frames := 3, cells := 0, slots := 0, locals := 72 }
set_option maxHeartbeats 4000000 in
set_option maxRecDepth 100000 in
theorem mX9_longestHarmless (l : Launch) (D : va_G) (ca : Nat → ClassId) (sz : Nat) (mo : Nat) (na : Nat) (nb : Nat) (nc : Nat) (nd : Nat) (ne : Nat) (nf : Nat) (ng : Nat) (nh : Nat) (ni : Nat) (nj : Nat) (nl : Nat) (ms : Bool) (mk : Nat) (my : Nat) (mt : Nat) (mp : Nat) (sn : Nat → Int) (T : Nat) (En : Int) (C : Int) (L : Nat → Int) (N : Nat → Int) (G : Nat → Nat → Int) (e : Nat → Int) (f : Nat → Int) (t : Int32) (hV : PSV T En C L N G) (hM : MS sn T C L N G) : MM l yX9_longestHarmless wsX9_longestHarmless rX9_longestHarmless D ca [.ref mo, .int (t)] sz [(mo, .inr (9, [.ref na, .ref nb, .ref nc, .ref nd, .int (bI (ms)), .int (nI mk), .ref ne, .int (nI my), .int (nI mt), .int (nI mp), .ref nf, .ref ng, .ref nh, .ref ni, .ref nj, .ref nl])), (na, .inl (ca 0, 442, .inl (zF sn))), (nf, .inl (ca 0, 20, .inl (zF e))), (ng, .inl (ca 0, 20, .inl (zF f)))] (QI D ca (fun (r : Int32) (u : Nat × (Nat → Int) × (Nat → Int)) => u.1 = kTa T t ∧ (kTa T t = 0 → r = iZ (L (tI t) + (lst G T L (tI t) - es G T L (tI t))))) (fun u => [(mo, .inr (9, [.ref na, .ref nb, .ref nc, .ref nd, .int (bI (ms)), .int (nI mk), .ref ne, .int (nI my), .int (nI u.1), .int (nI mp), .ref nf, .ref ng, .ref nh, .ref ni, .ref nj, .ref nl])), (na, .inl (ca 0, 442, .inl (zF sn))), (nf, .inl (ca 0, 20, .inl (zF u.2.1))), (ng, .inl (ca 0, 20, .inl (zF u.2.2)))])) := by
  refine MM_of (cc := cX9_longestHarmless) (maxL := 3) (ret := (some .int)) (lv0 := [(0, .ref mo), (1, .int (t))]) RX9 (by decide) rfl rfl (Nat.le_of_ble_eq_true rfl) rfl ?_
  intro pG eV s mI args below meth cO hx hb hr hml hts hown hlocks hnm A hA H locs hsz hP hK hD hS Q hE ls hl
  have f44 := hts (.fieldLink RX9 44 "SlackPlanModel" "thrown" "I") (List.mem_of_getElem? (i := 1) rfl)
  have inX9 : ∀ w ∈ u_ws RX9 TX9 16, w ∈ wsX9_longestHarmless := in_r _ [25, 26, 27, 28, 29, 30, 31, 32, 33, 34, 35, 36, 37, 38, 39, 40] rfl
  have f7 := hts (.fieldLink RX9 7 "SlackPlanModel" "now" "[I") (List.mem_of_getElem? (i := 2) rfl)
  have hM9 := hM
  have hT := hV.1
  refine lv_aload_n hx hb dX9_longestHarmless_0 rfl (lv_at hl 0 rfl) ?_
  refine lv_iload_n hx hb dX9_longestHarmless_1 rfl (lv_at hl 1 rfl) ?_
  refine xk_i [] (fun u => [(mo, .inr (9, [.ref na, .ref nb, .ref nc, .ref nd, .int (bI (ms)), .int (nI mk), .ref ne, .int (nI my), .int (nI u.1), .int (nI mp), .ref nf, .ref ng, .ref nh, .ref ni, .ref nj, .ref nl])), (na, .inl (ca 0, 442, .inl (zF sn))), (nf, .inl (ca 0, 20, .inl (zF u.2.1))), (ng, .inl (ca 0, 20, .inl (zF u.2.2)))]) (xk_V (As := [.int (t)]) (rest := []) ⟨hx, hb, hml, hown, hts⟩ (mX9_left l D ca H.size mo na nb nc nd ne nf ng nh ni nj nl ms mk my mt mp sn T En C L N G e f t hV hM) (cwV 1 hts gX9_longestHarmless_X9_left rfl rfl rfl (by decide +kernel) ⟨Nat.le_of_ble_eq_true rfl, Nat.le_of_ble_eq_true rfl⟩) hK hP hD (va_recv (q := (RX9, TX9, 16)) hK hP (ci := 9) (q0 := 0) rfl rfl) [0, 1, 2, 3] rfl rfl rfl hl.1 rfl (Nat.le_of_ble_eq_true rfl) dX9_longestHarmless_2 ⟨Nat.le_of_ble_eq_true rfl, Nat.le_of_ble_eq_true rfl⟩) hP hD hS hA [0, 1, 2, 3] [] [0, 1, 2, 3] rfl rfl rfl rfl (fun _ => rfl) rfl (fun r2 u2 H locs hw2 hP hD hS => ?_)
  obtain ⟨t12, e12, f12⟩ := u2
  have hw2 : t12 = kTa T t ∧ (kTa T t = 0 → r2 = iZ (lst G T L (tI t) - es G T L (tI t))) := hw2
  have hP : va_P D vwCl [(mo, .inr (9, [.ref na, .ref nb, .ref nc, .ref nd, .int (bI (ms)), .int (nI mk), .ref ne, .int (nI my), .int (nI t12), .int (nI mp), .ref nf, .ref ng, .ref nh, .ref ni, .ref nj, .ref nl])), (na, .inl (ca 0, 442, .inl (zF sn))), (nf, .inl (ca 0, 20, .inl (zF e12))), (ng, .inl (ca 0, 20, .inl (zF f12)))] H := hP
  have hD : va_D A [(mo, .inr (9, [.ref na, .ref nb, .ref nc, .ref nd, .int (bI (ms)), .int (nI mk), .ref ne, .int (nI my), .int (nI t12), .int (nI mp), .ref nf, .ref ng, .ref nh, .ref ni, .ref nj, .ref nl])), (na, .inl (ca 0, 442, .inl (zF sn))), (nf, .inl (ca 0, 20, .inl (zF e12))), (ng, .inl (ca 0, 20, .inl (zF f12)))] := hD
  refine lv_istore_n (lv' := [(2, .int (r2)), (0, .ref mo), (1, .int (t))]) hx hb dX9_longestHarmless_5 rfl hl (by decide) rfl (fun ls hl => ?_)
  refine lv_aload_n hx hb dX9_longestHarmless_6 rfl (lv_at hl 1 rfl) ?_
  refine va_get (D := D) (ci := 9) (v := .int (nI t12)) (C := RX9) (T := TX9) (N := 16) hx hb hts inX9 hown hK hP 0 rfl rfl 8 (by decide) f44 (fun _ h9 => h9) rfl dX9_longestHarmless_7 ?_
  have hk9 : kTa T t ≤ 1 := by unfold kTa; split <;> omega
  have hk8 := hw2.1
  refine lv_if_le (tgt := 17) hx hb dX9_longestHarmless_10 (by decide) (fun h10 => ?_) (fun h10 => ?_)
  · skip
    have h10 := (cL (nI_toInt (by omega)) z0_toInt).mp h10
    have hk7 : hasB T t = true := by cases hc : hasB T t with
        | true => rfl
        | false => have := kTa_f hc; omega
    obtain ⟨ht1, he1⟩ := hasB_ex hk7
    have e9 : (t) = nI (tI t) := he1
    have hl : lv_has ls 3 [(2, .int (r2)), (0, .ref mo), (1, .int (nI (tI t)))] := by rw [← e9]; exact hl
    have hr9 := hw2.2 (kTa_t hk7)
    have e9 : (r2) = iZ (lst G T L (tI t) - es G T L (tI t)) := hr9
    have hl : lv_has ls 3 [(2, .int (iZ (lst G T L (tI t) - es G T L (tI t)))), (0, .ref mo), (1, .int (nI (tI t)))] := by rw [← e9]; exact hl
    refine lv_aload_n hx hb dX9_longestHarmless_17 rfl (lv_at hl 1 rfl) ?_
    refine va_get (D := D) (ci := 9) (v := .ref na) (C := RX9) (T := TX9) (N := 16) hx hb hts inX9 hown hK hP 0 rfl rfl 0 (by decide) f7 (fun _ h9 => h9) rfl dX9_longestHarmless_18 ?_
    refine lv_iconst (v := nI (2)) hx hb dX9_longestHarmless_21 (by decide) ?_
    refine lv_iload_n hx hb dX9_longestHarmless_22 rfl (lv_at hl 2 rfl) ?_
    refine xr_iadd hx hb dX9_longestHarmless_23 ?_
    refine xr_iald hx hb hK hP 1 0 rfl rfl (by omega) (Nat.le_of_ble_eq_true rfl) (v := iZ (sn (2 + (tI t)))) rfl dX9_longestHarmless_24 ?_
    refine lv_iload_n hx hb dX9_longestHarmless_25 rfl (lv_at hl 0 rfl) ?_
    refine xr_iadd_zz hx hb dX9_longestHarmless_26 ?_
    rw [← hE]
    exact xe_i (t12, e12, f12) hx hb hr hlocks hK hP hD hS (⟨hw2.1, fun _ => by rw [(hM.2.2.1 _ ht1).1]⟩) dX9_longestHarmless_27
  · skip
    have h10 := (not_congr (cL (nI_toInt (by omega)) z0_toInt)).mp h10
    refine lv_iconst (v := nI (0)) hx hb dX9_longestHarmless_13 (by decide) ?_
    refine lv_goto (tgt := 27) hx hb dX9_longestHarmless_14 (by decide) ?_
    rw [← hE]
    exact xe_i (t12, e12, f12) hx hb hr hlocks hK hP hD hS (⟨hw2.1, fun h9 => by omega⟩) dX9_longestHarmless_27

