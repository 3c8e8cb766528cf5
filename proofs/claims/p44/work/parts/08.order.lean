def rX3_put : Room := { frames := 0, cells := 0, slots := 0, locals := 0 }
set_option maxHeartbeats 4000000 in
set_option maxRecDepth 100000 in
/-- put(task) -/
theorem mX3_put (l : Launch) (D : va_G) (ca : Nat → ClassId) (sz : Nat) (o : Nat) (ot : Nat) (ow : Nat) (z : Nat) (od : Nat → Nat) (t : Nat) (hz : z < 20) : MM l yX3_put wsX3_put rX3_put D ca [.ref o, .int (nI t)] sz [(o, .inr (3, [.int (nI z), .ref ot, .ref ow])), (ot, .inl (ca 0, 20, .inl (nF od)))] (QV D ca (fun (u : Unit) => True) (fun _ => [(o, .inr (3, [.int (nI (z + 1)), .ref ot, .ref ow])), (ot, .inl (ca 0, 20, .inl (nF (upN od z t))))])) := by
  refine MM_of (cc := cX3_put) (maxL := 2) (ret := none) (lv0 := [(0, .ref o), (1, .int (nI t))]) RX3 (by decide) rfl rfl (Nat.le_of_ble_eq_true rfl) rfl ?_
  intro pG eV s mI args below meth cO hx hb hr hml hts hown hlocks hnm A hA H locs hsz hP hK hD hS Q hE ls hl
  have f9 := hts (.fieldLink RX3 9 "SlackPlan$Order" "size" "I") (List.mem_of_getElem? (i := 1) rfl)
  have inX3 : ∀ w ∈ u_ws RX3 TX3 3, w ∈ wsX3_put := in_r _ [3, 4, 5] rfl
  have f15 := hts (.fieldLink RX3 15 "SlackPlan$Order" "tasks" "[I") (List.mem_of_getElem? (i := 2) rfl)
  refine lv_aload_n hx hb dX3_put_0 rfl (lv_at hl 0 rfl) ?_
  refine va_get (D := D) (ci := 3) (v := .int (nI z)) (C := RX3) (T := TX3) (N := 3) hx hb hts inX3 hown hK hP 0 rfl rfl 0 (by decide) f9 (fun _ h9 => h9) rfl dX3_put_1 ?_
  refine lv_bipush (v := nI (20)) hx hb dX3_put_4 (by decide) ?_
  refine lv_icmp_ge (tgt := 29) hx hb dX3_put_6 (by decide) (fun h6 => ?_) (fun h6 => ?_)
  · skip
    have h6 := (cL (nI_toInt (by omega)) (nI_toInt (by omega))).mp h6
    exact absurd h6 (by omega)
  · skip
    have h6 := (not_congr (cL (nI_toInt (by omega)) (nI_toInt (by omega)))).mp h6
    refine lv_aload_n hx hb dX3_put_9 rfl (lv_at hl 0 rfl) ?_
    refine va_get (D := D) (ci := 3) (v := .ref ot) (C := RX3) (T := TX3) (N := 3) hx hb hts inX3 hown hK hP 0 rfl rfl 1 (by decide) f15 (fun _ h9 => h9) rfl dX3_put_10 ?_
    refine lv_aload_n hx hb dX3_put_13 rfl (lv_at hl 0 rfl) ?_
    refine va_get (D := D) (ci := 3) (v := .int (nI z)) (C := RX3) (T := TX3) (N := 3) hx hb hts inX3 hown hK hP 0 rfl rfl 0 (by decide) f9 (fun _ h9 => h9) rfl dX3_put_14 ?_
    refine lv_iload_n hx hb dX3_put_17 rfl (lv_at hl 1 rfl) ?_
    refine xr_iast hx hb hK hP hD hS 1 0 rfl rfl (by omega) (Nat.le_of_ble_eq_true rfl) (nF (upN od z t)) (fun _ _ => nF_up _ _ _ _) dX3_put_18 (fun H locs hP hD hS => ?_)
    have hP : va_P D vwCl [(o, .inr (3, [.int (nI z), .ref ot, .ref ow])), (ot, .inl (ca 0, 20, .inl (nF (upN od z t))))] H := hP
    have hD : va_D A [(o, .inr (3, [.int (nI z), .ref ot, .ref ow])), (ot, .inl (ca 0, 20, .inl (nF (upN od z t))))] := hD
    refine lv_aload_n hx hb dX3_put_19 rfl (lv_at hl 0 rfl) ?_
    refine lv_dup hx hb dX3_put_20 rfl ?_
    refine va_get (D := D) (ci := 3) (v := .int (nI z)) (C := RX3) (T := TX3) (N := 3) hx hb hts inX3 hown hK hP 0 rfl rfl 0 (by decide) f9 (fun _ h9 => h9) rfl dX3_put_21 ?_
    refine lv_iconst (v := nI (1)) hx hb dX3_put_24 (by decide) ?_
    refine xr_iadd hx hb dX3_put_25 ?_
    refine va_put (D := D) (ci := 3) (v := .int (nI (z + 1))) (ty := .int) (C := RX3) (T := TX3) (N := 3) hx hb hts inX3 tyX3 tyX3_ok nmX3 hown hK hP hD hS 0 rfl rfl 0 (by decide) f9 (fun _ h9 => h9) rfl (by decide +kernel) rfl rfl (Nat.le_of_ble_eq_true rfl) dX3_put_26 (fun H locs hP hD hS => ?_)
    have hP : va_P D vwCl [(o, .inr (3, [.int (nI (z + 1)), .ref ot, .ref ow])), (ot, .inl (ca 0, 20, .inl (nF (upN od z t))))] H := hP
    have hD : va_D A [(o, .inr (3, [.int (nI (z + 1)), .ref ot, .ref ow])), (ot, .inl (ca 0, 20, .inl (nF (upN od z t))))] := hD
    rw [← hE]
    exact xe_v () hx hb hr hlocks hK hP hD hS trivial dX3_put_29
def rX3_sort : Room := { frames := 3, cells := 0, slots := 0, locals := 66 }
set_option maxHeartbeats 4000000 in
set_option maxRecDepth 100000 in
/-- sort(plan): the tasks, each after all that are ahead of it -/
theorem mX3_sort (l : Launch) (D : va_G) (ca : Nat → ClassId) (sz : Nat) (o : Nat) (ot : Nat) (ow : Nat) (z : Nat) (od : Nat → Nat) (wt : Nat → Int) (h : Nat) (a : Nat) (b : Nat) (c : Nat) (T : Nat) (E : Int) (C : Int) (G : Nat → Nat → Int) (hT : T ≤ 20) (hG : GOK G) (hac : ACY G T) : MM l yX3_sort wsX3_sort rX3_sort D ca [.ref o, .ref h] sz [(o, .inr (3, [.int (nI z), .ref ot, .ref ow])), (ot, .inl (ca 0, 20, .inl (nF od))), (ow, .inl (ca 0, 20, .inl (zF wt))), (h, .inr (7, [.int (nI T), .int (iZ E), .int (iZ C), .ref a, .ref b, .ref c])), (c, .inl (ca 0, 400, .inl (zG G)))] (QV D ca (fun (u : (Nat → Nat) × (Nat → Int)) => TOPO G T u.1) (fun u => [(o, .inr (3, [.int (nI T), .ref ot, .ref ow])), (ot, .inl (ca 0, 20, .inl (nF u.1))), (ow, .inl (ca 0, 20, .inl (zF u.2))), (h, .inr (7, [.int (nI T), .int (iZ E), .int (iZ C), .ref a, .ref b, .ref c])), (c, .inl (ca 0, 400, .inl (zG G)))])) := by
  refine MM_of (cc := cX3_sort) (maxL := 4) (ret := none) (lv0 := [(0, .ref o), (1, .ref h)]) RX3 (by decide) rfl rfl (Nat.le_of_ble_eq_true rfl) rfl ?_
  intro pG eV s mI args below meth cO hx hb hr hml hts hown hlocks hnm A hA H locs hsz hP hK hD hS Q hE ls hl
  have f9 := hts (.fieldLink RX3 9 "SlackPlan$Order" "size" "I") (List.mem_of_getElem? (i := 1) rfl)
  have inX3 : ∀ w ∈ u_ws RX3 TX3 3, w ∈ wsX3_sort := in_r _ [26, 27, 28] rfl
  have f22 := hts (.fieldLink RX3 22 "SlackPlan$State" "tasks" "I") (List.mem_of_getElem? (i := 2) rfl)
  have inX7 : ∀ w ∈ u_ws RX7 TX7 6, w ∈ wsX3_sort := in_r _ [29, 30, 31, 32, 33, 34] rfl
  have f15 := hts (.fieldLink RX3 15 "SlackPlan$Order" "tasks" "[I") (List.mem_of_getElem? (i := 4) rfl)
  have f19 := hts (.fieldLink RX3 19 "SlackPlan$Order" "waiting" "[I") (List.mem_of_getElem? (i := 3) rfl)
  refine lv_aload_n hx hb dX3_sort_0 rfl (lv_at hl 0 rfl) ?_
  refine lv_iconst (v := nI (0)) hx hb dX3_sort_1 (by decide) ?_
  refine va_put (D := D) (ci := 3) (v := .int (nI 0)) (ty := .int) (C := RX3) (T := TX3) (N := 3) hx hb hts inX3 tyX3 tyX3_ok nmX3 hown hK hP hD hS 0 rfl rfl 0 (by decide) f9 (fun _ h9 => h9) rfl (by decide +kernel) rfl rfl (Nat.le_of_ble_eq_true rfl) dX3_sort_2 (fun H locs hP hD hS => ?_)
  have hP : va_P D vwCl [(o, .inr (3, [.int (nI 0), .ref ot, .ref ow])), (ot, .inl (ca 0, 20, .inl (nF od))), (ow, .inl (ca 0, 20, .inl (zF wt))), (h, .inr (7, [.int (nI T), .int (iZ E), .int (iZ C), .ref a, .ref b, .ref c])), (c, .inl (ca 0, 400, .inl (zG G)))] H := hP
  have hD : va_D A [(o, .inr (3, [.int (nI 0), .ref ot, .ref ow])), (ot, .inl (ca 0, 20, .inl (nF od))), (ow, .inl (ca 0, 20, .inl (zF wt))), (h, .inr (7, [.int (nI T), .int (iZ E), .int (iZ C), .ref a, .ref b, .ref c])), (c, .inl (ca 0, 400, .inl (zG G)))] := hD
  refine lv_iconst (v := nI (0)) hx hb dX3_sort_5 (by decide) ?_
  refine lv_istore_n (lv' := [(2, .int (nI 0)), (0, .ref o), (1, .ref h)]) hx hb dX3_sort_6 rfl hl (by decide) rfl (fun ls hl => ?_)
  have L7 : ∀ (fu : Nat) (k : Nat) (z1 : Nat) (od1 : Nat → Nat) (wt1 : Nat → Int), (k ≤ T) → (KA G T k z1 od1 wt1) → (T - k) < fu → ∀ (H : Heap) (locs : List Loc), va_P D vwCl [(o, .inr (3, [.int (nI z1), .ref ot, .ref ow])), (ot, .inl (ca 0, 20, .inl (nF od1))), (ow, .inl (ca 0, 20, .inl (zF wt1))), (h, .inr (7, [.int (nI T), .int (iZ E), .int (iZ C), .ref a, .ref b, .ref c])), (c, .inl (ca 0, 400, .inl (zG G)))] H → va_D A [(o, .inr (3, [.int (nI z1), .ref ot, .ref ow])), (ot, .inl (ca 0, 20, .inl (nF od1))), (ow, .inl (ca 0, 20, .inl (zF wt1))), (h, .inr (7, [.int (nI T), .int (iZ E), .int (iZ C), .ref a, .ref b, .ref c])), (c, .inl (ca 0, 400, .inl (zG G)))] → va_S A s.heap H locs → ∀ ls : Array Slot, lv_has ls 4 [(2, .int (nI k)), (0, .ref o), (1, .ref h)] → W pG l eV rX3_sort s mI args below meth cO H locs 0 0 Q (F0 mI 7 ls []) := by
    clear hP hD hS hl
    intro fu; induction fu with
    | zero => intro k z1 od1 wt1 hk hKA hmu; exact absurd hmu (Nat.not_lt_zero _)
    | succ n7 ih7 =>
      intro k z1 od1 wt1 hk hKA hmu7 H locs hP hD hS ls hl
      refine lv_iload_n hx hb dX3_sort_7 rfl (lv_at hl 0 rfl) ?_
      refine lv_aload_n hx hb dX3_sort_8 rfl (lv_at hl 2 rfl) ?_
      refine va_get (D := D) (ci := 7) (v := .int (nI T)) (C := RX7) (T := TX7) (N := 6) hx hb hts inX7 hown hK hP 3 rfl rfl 0 (by decide) f22 (fun _ h9 => h9) rfl dX3_sort_9 ?_
      refine lv_icmp_ge (tgt := 46) hx hb dX3_sort_12 (by decide) (fun h12 => ?_) (fun h12 => ?_)
      · skip
        have h12 := (cL (nI_toInt (by omega)) (nI_toInt (by omega))).mp h12
        refine lv_iconst (v := nI (0)) hx hb dX3_sort_46 (by decide) ?_
        refine lv_istore_n (lv' := [(2, .int (nI 0)), (0, .ref o), (1, .ref h)]) hx hb dX3_sort_47 rfl hl (by decide) rfl (fun ls hl => ?_)
        have L48 : ∀ (fu : Nat) (pl : Nat) (z2 : Nat) (od2 : Nat → Nat) (wt2 : Nat → Int), (KI G T pl z2 od2 wt2) → (T - pl) < fu → ∀ (H : Heap) (locs : List Loc), va_P D vwCl [(o, .inr (3, [.int (nI z2), .ref ot, .ref ow])), (ot, .inl (ca 0, 20, .inl (nF od2))), (ow, .inl (ca 0, 20, .inl (zF wt2))), (h, .inr (7, [.int (nI T), .int (iZ E), .int (iZ C), .ref a, .ref b, .ref c])), (c, .inl (ca 0, 400, .inl (zG G)))] H → va_D A [(o, .inr (3, [.int (nI z2), .ref ot, .ref ow])), (ot, .inl (ca 0, 20, .inl (nF od2))), (ow, .inl (ca 0, 20, .inl (zF wt2))), (h, .inr (7, [.int (nI T), .int (iZ E), .int (iZ C), .ref a, .ref b, .ref c])), (c, .inl (ca 0, 400, .inl (zG G)))] → va_S A s.heap H locs → ∀ ls : Array Slot, lv_has ls 4 [(2, .int (nI pl)), (0, .ref o), (1, .ref h)] → W pG l eV rX3_sort s mI args below meth cO H locs 0 0 Q (F0 mI 48 ls []) := by
          clear hP hD hS hl
          intro fu; induction fu with
          | zero => intro pl z2 od2 wt2 hI hmu; exact absurd hmu (Nat.not_lt_zero _)
          | succ n48 ih48 =>
            intro pl z2 od2 wt2 hI hmu48 H locs hP hD hS ls hl
            have hq3 := hI.1
            have hq4 := hI.2.1
            refine lv_iload_n hx hb dX3_sort_48 rfl (lv_at hl 0 rfl) ?_
            refine lv_aload_n hx hb dX3_sort_49 rfl (lv_at hl 1 rfl) ?_
            refine va_get (D := D) (ci := 3) (v := .int (nI z2)) (C := RX3) (T := TX3) (N := 3) hx hb hts inX3 hown hK hP 0 rfl rfl 0 (by decide) f9 (fun _ h9 => h9) rfl dX3_sort_50 ?_
            refine lv_icmp_ge (tgt := 123) hx hb dX3_sort_53 (by decide) (fun h53 => ?_) (fun h53 => ?_)
            · skip
              have h53 := (cL (nI_toInt (by omega)) (nI_toInt (by omega))).mp h53
              obtain ⟨hz9, htp⟩ := KI_end hI (by omega) hac
              rw [hz9] at hP hD
              rw [← hE]
              exact xe_v (od2, wt2) hx hb hr hlocks hK hP hD hS htp dX3_sort_123
            · skip
              have h53 := (not_congr (cL (nI_toInt (by omega)) (nI_toInt (by omega)))).mp h53
              refine lv_iload_n hx hb dX3_sort_56 rfl (lv_at hl 0 rfl) ?_
              refine lv_bipush (v := nI (20)) hx hb dX3_sort_57 (by decide) ?_
              refine lv_icmp_ge (tgt := 123) hx hb dX3_sort_59 (by decide) (fun h59 => ?_) (fun h59 => ?_)
              · skip
                have h59 := (cL (nI_toInt (by omega)) (nI_toInt (by omega))).mp h59
                exact absurd h59 (by omega)
              · skip
                have h59 := (not_congr (cL (nI_toInt (by omega)) (nI_toInt (by omega)))).mp h59
                refine lv_iconst (v := nI (0)) hx hb dX3_sort_62 (by decide) ?_
                refine lv_istore_n (lv' := [(3, .int (nI 0)), (2, .int (nI pl)), (0, .ref o), (1, .ref h)]) hx hb dX3_sort_63 rfl hl (by decide) rfl (fun ls hl => ?_)
                have L64 : ∀ (fu : Nat) (t : Nat) (z3 : Nat) (od3 : Nat → Nat) (wt3 : Nat → Int), (t ≤ T) → (KJ G T pl t z3 od3 wt3) → (T - t) < fu → ∀ (H : Heap) (locs : List Loc), va_P D vwCl [(o, .inr (3, [.int (nI z3), .ref ot, .ref ow])), (ot, .inl (ca 0, 20, .inl (nF od3))), (ow, .inl (ca 0, 20, .inl (zF wt3))), (h, .inr (7, [.int (nI T), .int (iZ E), .int (iZ C), .ref a, .ref b, .ref c])), (c, .inl (ca 0, 400, .inl (zG G)))] H → va_D A [(o, .inr (3, [.int (nI z3), .ref ot, .ref ow])), (ot, .inl (ca 0, 20, .inl (nF od3))), (ow, .inl (ca 0, 20, .inl (zF wt3))), (h, .inr (7, [.int (nI T), .int (iZ E), .int (iZ C), .ref a, .ref b, .ref c])), (c, .inl (ca 0, 400, .inl (zG G)))] → va_S A s.heap H locs → ∀ ls : Array Slot, lv_has ls 4 [(3, .int (nI t)), (2, .int (nI pl)), (0, .ref o), (1, .ref h)] → W pG l eV rX3_sort s mI args below meth cO H locs 0 0 Q (F0 mI 64 ls []) := by
                  clear hP hD hS hl
                  intro fu; induction fu with
                  | zero => intro t z3 od3 wt3 ht hJ hmu; exact absurd hmu (Nat.not_lt_zero _)
                  | succ n64 ih64 =>
                    intro t z3 od3 wt3 ht hJ hmu64 H locs hP hD hS ls hl
                    have hq1 := hJ.1
                    have hq2 := hJ.2.1
                    refine lv_iload_n hx hb dX3_sort_64 rfl (lv_at hl 0 rfl) ?_
                    refine lv_aload_n hx hb dX3_sort_65 rfl (lv_at hl 3 rfl) ?_
                    refine va_get (D := D) (ci := 7) (v := .int (nI T)) (C := RX7) (T := TX7) (N := 6) hx hb hts inX7 hown hK hP 3 rfl rfl 0 (by decide) f22 (fun _ h9 => h9) rfl dX3_sort_66 ?_
                    refine lv_icmp_ge (tgt := 117) hx hb dX3_sort_69 (by decide) (fun h69 => ?_) (fun h69 => ?_)
                    · skip
                      have h69 := (cL (nI_toInt (by omega)) (nI_toInt (by omega))).mp h69
                      refine lv_iinc (v := nI (pl + 1)) (lv' := [(2, .int (nI (pl + 1))), (3, .int (nI t)), (0, .ref o), (1, .ref h)]) hx hb dX3_sort_117 hl (k := 1) rfl (nI_add _ 1) (by decide) rfl (fun ls hl => ?_)
                      refine lv_goto (tgt := 48) hx hb dX3_sort_120 (by decide) ?_
                      exact ih48 (pl + 1) z3 od3 wt3 (KJ_KI (by have e9 : t = T := (by omega); rw [e9] at hJ; exact hJ)) (by omega) _ _ hP hD hS _ (lv_sub hl [0, 2, 3] rfl)
                    · skip
                      have h69 := (not_congr (cL (nI_toInt (by omega)) (nI_toInt (by omega)))).mp h69
                      refine lv_aload_n hx hb dX3_sort_72 rfl (lv_at hl 3 rfl) ?_
                      refine lv_aload_n hx hb dX3_sort_73 rfl (lv_at hl 2 rfl) ?_
                      refine va_get (D := D) (ci := 3) (v := .ref ot) (C := RX3) (T := TX3) (N := 3) hx hb hts inX3 hown hK hP 0 rfl rfl 1 (by decide) f15 (fun _ h9 => h9) rfl dX3_sort_74 ?_
                      refine lv_iload_n hx hb dX3_sort_77 rfl (lv_at hl 1 rfl) ?_
                      refine xr_iald hx hb hK hP 1 0 rfl rfl (by omega) (Nat.le_of_ble_eq_true rfl) (v := nI (od3 pl)) rfl dX3_sort_78 ?_
                      refine lv_iload_n hx hb dX3_sort_79 rfl (lv_at hl 0 rfl) ?_
                      refine xk_pi (xk_V (As := [.int (nI (od3 pl)), .int (nI t)]) (rest := []) ⟨hx, hb, hml, hown, hts⟩ (mX7_lag l D ca H.size h a b c T E C G (od3 pl) t (by omega) (KJ_od hJ) (by omega)) (cwV 2 hts gX3_sort_X7_lag rfl rfl rfl (by decide +kernel) ⟨Nat.le_of_ble_eq_true rfl, Nat.le_of_ble_eq_true rfl⟩) hK hP hD (va_recv (q := (RX7, TX7, 6)) hK hP (ci := 7) (q0 := 3) rfl rfl) [3, 4] rfl rfl rfl hl.1 rfl (Nat.le_of_ble_eq_true rfl) dX3_sort_80 ⟨Nat.le_of_ble_eq_true rfl, Nat.le_of_ble_eq_true rfl⟩) hP hD hS hA [3, 4] rfl ⟨rfl, rfl⟩ (fun r80 H locs hw80 hP hS => ?_)
                      have hw80 : r80 = iZ (G (od3 pl) t) := hw80
                      subst hw80
                      have hb1 := hG (od3 pl) t (by have := KJ_od hJ; omega) (by omega)
                      refine lv_iconst (v := iZ (-1)) hx hb dX3_sort_83 (by decide) ?_
                      refine lv_icmp_eq (tgt := 111) hx hb dX3_sort_84 (by decide) (fun h84 => ?_) (fun h84 => ?_)
                      · skip
                        have h84 := (cE (iZ_toInt (by omega) (by omega)) (iZ_toInt (by omega) (by omega))).mp h84
                        refine lv_iinc (v := nI (t + 1)) (lv' := [(3, .int (nI (t + 1))), (2, .int (nI pl)), (0, .ref o), (1, .ref h)]) hx hb dX3_sort_111 hl (k := 0) rfl (nI_add _ 1) (by decide) rfl (fun ls hl => ?_)
                        refine lv_goto (tgt := 64) hx hb dX3_sort_114 (by decide) ?_
                        exact ih64 (t + 1) z3 od3 wt3 (by omega) (KJ_skip hJ h84) (by omega) _ _ hP hD hS _ (lv_sub hl [0, 1, 2, 3] rfl)
                      · skip
                        have h84 := (not_congr (cE (iZ_toInt (by omega) (by omega)) (iZ_toInt (by omega) (by omega)))).mp h84
                        refine lv_aload_n hx hb dX3_sort_87 rfl (lv_at hl 2 rfl) ?_
                        refine va_get (D := D) (ci := 3) (v := .ref ow) (C := RX3) (T := TX3) (N := 3) hx hb hts inX3 hown hK hP 0 rfl rfl 2 (by decide) f19 (fun _ h9 => h9) rfl dX3_sort_88 ?_
                        refine lv_iload_n hx hb dX3_sort_91 rfl (lv_at hl 0 rfl) ?_
                        refine lv_dup2_11 hx hb dX3_sort_92 rfl rfl ?_
                        refine xr_iald hx hb hK hP 2 0 rfl rfl (by omega) (Nat.le_of_ble_eq_true rfl) (v := iZ (wt3 t)) rfl dX3_sort_93 ?_
                        refine lv_iconst (v := nI (1)) hx hb dX3_sort_94 (by decide) ?_
                        refine xr_isub_zn hx hb dX3_sort_95 ?_
                        refine xr_iast hx hb hK hP hD hS 2 0 rfl rfl (by omega) (Nat.le_of_ble_eq_true rfl) (zF (upZ wt3 t ((wt3 t) - 1))) (fun _ _ => zF_up _ _ _ _) dX3_sort_96 (fun H locs hP hD hS => ?_)
                        have hP : va_P D vwCl [(o, .inr (3, [.int (nI z3), .ref ot, .ref ow])), (ot, .inl (ca 0, 20, .inl (nF od3))), (ow, .inl (ca 0, 20, .inl (zF (upZ wt3 t ((wt3 t) - 1))))), (h, .inr (7, [.int (nI T), .int (iZ E), .int (iZ C), .ref a, .ref b, .ref c])), (c, .inl (ca 0, 400, .inl (zG G)))] H := hP
                        have hD : va_D A [(o, .inr (3, [.int (nI z3), .ref ot, .ref ow])), (ot, .inl (ca 0, 20, .inl (nF od3))), (ow, .inl (ca 0, 20, .inl (zF (upZ wt3 t ((wt3 t) - 1))))), (h, .inr (7, [.int (nI T), .int (iZ E), .int (iZ C), .ref a, .ref b, .ref c])), (c, .inl (ca 0, 400, .inl (zG G)))] := hD
                        have hw1 := KJ_wt hJ hT (show t < T by omega)
                        refine lv_aload_n hx hb dX3_sort_97 rfl (lv_at hl 2 rfl) ?_
                        refine va_get (D := D) (ci := 3) (v := .ref ow) (C := RX3) (T := TX3) (N := 3) hx hb hts inX3 hown hK hP 0 rfl rfl 2 (by decide) f19 (fun _ h9 => h9) rfl dX3_sort_98 ?_
                        refine lv_iload_n hx hb dX3_sort_101 rfl (lv_at hl 0 rfl) ?_
                        refine xr_iald hx hb hK hP 2 0 rfl rfl (by omega) (Nat.le_of_ble_eq_true rfl) (v := iZ ((upZ wt3 t ((wt3 t) - 1)) t)) rfl dX3_sort_102 ?_
                        refine xr_top (y := iZ (wt3 t - 1)) (by rw [upZ_s]) ?_
                        refine lv_if_ne (tgt := 111) hx hb dX3_sort_103 (by decide) (fun h103 => ?_) (fun h103 => ?_)
                        · skip
                          have h103 := (not_congr (cE (iZ_toInt (by omega) (by omega)) z0_toInt)).mp h103
                          refine lv_iinc (v := nI (t + 1)) (lv' := [(3, .int (nI (t + 1))), (2, .int (nI pl)), (0, .ref o), (1, .ref h)]) hx hb dX3_sort_111 hl (k := 0) rfl (nI_add _ 1) (by decide) rfl (fun ls hl => ?_)
                          refine lv_goto (tgt := 64) hx hb dX3_sort_114 (by decide) ?_
                          exact ih64 (t + 1) z3 od3 (upZ wt3 t ((wt3 t) - 1)) (by omega) (KJ_dec hJ (by omega) h84 h103) (by omega) _ _ hP hD hS _ (lv_sub hl [0, 1, 2, 3] rfl)
                        · skip
                          have h103 := (cE (iZ_toInt (by omega) (by omega)) z0_toInt).mp h103
                          refine lv_aload_n hx hb dX3_sort_106 rfl (lv_at hl 2 rfl) ?_
                          refine lv_iload_n hx hb dX3_sort_107 rfl (lv_at hl 0 rfl) ?_
                          refine xk_v [(ow, .inl (ca 0, 20, .inl (zF (upZ wt3 t ((wt3 t) - 1))))), (h, .inr (7, [.int (nI T), .int (iZ E), .int (iZ C), .ref a, .ref b, .ref c])), (c, .inl (ca 0, 400, .inl (zG G)))] (fun u => [(o, .inr (3, [.int (nI (z3 + 1)), .ref ot, .ref ow])), (ot, .inl (ca 0, 20, .inl (nF (upN od3 z3 t)))), (ow, .inl (ca 0, 20, .inl (zF (upZ wt3 t ((wt3 t) - 1))))), (h, .inr (7, [.int (nI T), .int (iZ E), .int (iZ C), .ref a, .ref b, .ref c])), (c, .inl (ca 0, 400, .inl (zG G)))]) (xk_V (As := [.int (nI t)]) (rest := []) ⟨hx, hb, hml, hown, hts⟩ (mX3_put l D ca H.size o ot ow z3 od3 t (by have := KJ_z hJ (show t < T by omega) h84; omega)) (cwV 1 hts gX3_sort_X3_put rfl rfl rfl (by decide +kernel) ⟨Nat.le_of_ble_eq_true rfl, Nat.le_of_ble_eq_true rfl⟩) hK hP hD (va_recv (q := (RX3, TX3, 3)) hK hP (ci := 3) (q0 := 0) rfl rfl) [0, 1] rfl rfl rfl hl.1 rfl (Nat.le_of_ble_eq_true rfl) dX3_sort_108 ⟨Nat.le_of_ble_eq_true rfl, Nat.le_of_ble_eq_true rfl⟩) hP hD hS hA [0, 1] [2, 3, 4] [3, 4, 0, 1, 2] rfl rfl rfl rfl (fun _ => rfl) rfl (fun u108 H locs hw108 hP hD hS => ?_)
                          have hw108 : True := hw108
                          have hP : va_P D vwCl [(o, .inr (3, [.int (nI (z3 + 1)), .ref ot, .ref ow])), (ot, .inl (ca 0, 20, .inl (nF (upN od3 z3 t)))), (ow, .inl (ca 0, 20, .inl (zF (upZ wt3 t ((wt3 t) - 1))))), (h, .inr (7, [.int (nI T), .int (iZ E), .int (iZ C), .ref a, .ref b, .ref c])), (c, .inl (ca 0, 400, .inl (zG G)))] H := hP
                          have hD : va_D A [(o, .inr (3, [.int (nI (z3 + 1)), .ref ot, .ref ow])), (ot, .inl (ca 0, 20, .inl (nF (upN od3 z3 t)))), (ow, .inl (ca 0, 20, .inl (zF (upZ wt3 t ((wt3 t) - 1))))), (h, .inr (7, [.int (nI T), .int (iZ E), .int (iZ C), .ref a, .ref b, .ref c])), (c, .inl (ca 0, 400, .inl (zG G)))] := hD
                          refine lv_iinc (v := nI (t + 1)) (lv' := [(3, .int (nI (t + 1))), (2, .int (nI pl)), (0, .ref o), (1, .ref h)]) hx hb dX3_sort_111 hl (k := 0) rfl (nI_add _ 1) (by decide) rfl (fun ls hl => ?_)
                          refine lv_goto (tgt := 64) hx hb dX3_sort_114 (by decide) ?_
                          exact ih64 (t + 1) (z3 + 1) (upN od3 z3 t) (upZ wt3 t ((wt3 t) - 1)) (by omega) (KJ_put hJ (by omega) h84 h103) (by omega) _ _ hP hD hS _ (lv_sub hl [0, 1, 2, 3] rfl)
                exact L64 _ 0 z2 od2 wt2 (by omega) (KI_KJ hI (by omega)) (Nat.lt_succ_self _) _ _ hP hD hS _ (lv_sub hl [0, 1, 2, 3] rfl)
        exact L48 _ 0 z1 od1 wt1 (KA_KI (by have e9 : k = T := (by omega); rw [e9] at hKA; exact hKA)) (Nat.lt_succ_self _) _ _ hP hD hS _ (lv_sub hl [0, 1, 2] rfl)
      · skip
        have h12 := (not_congr (cL (nI_toInt (by omega)) (nI_toInt (by omega)))).mp h12
        refine lv_aload_n hx hb dX3_sort_15 rfl (lv_at hl 1 rfl) ?_
        refine va_get (D := D) (ci := 3) (v := .ref ow) (C := RX3) (T := TX3) (N := 3) hx hb hts inX3 hown hK hP 0 rfl rfl 2 (by decide) f19 (fun _ h9 => h9) rfl dX3_sort_16 ?_
        refine lv_iload_n hx hb dX3_sort_19 rfl (lv_at hl 0 rfl) ?_
        refine lv_aload_n hx hb dX3_sort_20 rfl (lv_at hl 2 rfl) ?_
        refine lv_iload_n hx hb dX3_sort_21 rfl (lv_at hl 0 rfl) ?_
        refine xk_pi (xk_V (As := [.int (nI k)]) (rest := [.int (nI k), .ref ow]) ⟨hx, hb, hml, hown, hts⟩ (mX7_countBefore l D ca H.size h a b c T E C G k (by omega) (by omega) hG) (cwV 1 hts gX3_sort_X7_countBefore rfl rfl rfl (by decide +kernel) ⟨Nat.le_of_ble_eq_true rfl, Nat.le_of_ble_eq_true rfl⟩) hK hP hD (va_recv (q := (RX7, TX7, 6)) hK hP (ci := 7) (q0 := 3) rfl rfl) [3, 4] rfl rfl rfl hl.1 rfl (Nat.le_of_ble_eq_true rfl) dX3_sort_22 ⟨Nat.le_of_ble_eq_true rfl, Nat.le_of_ble_eq_true rfl⟩) hP hD hS hA [3, 4] rfl ⟨rfl, rfl⟩ (fun r22 H locs hw22 hP hS => ?_)
        have hw22 : r22 = nI (cntB G k T) := hw22
        subst hw22
        refine xr_iast hx hb hK hP hD hS 2 0 rfl rfl (by omega) (Nat.le_of_ble_eq_true rfl) (zF (upZ wt1 k ((cntB G k T : Nat) : Int))) (fun _ _ => zF_upn _ _ _ _) dX3_sort_25 (fun H locs hP hD hS => ?_)
        have hP : va_P D vwCl [(o, .inr (3, [.int (nI z1), .ref ot, .ref ow])), (ot, .inl (ca 0, 20, .inl (nF od1))), (ow, .inl (ca 0, 20, .inl (zF (upZ wt1 k ((cntB G k T : Nat) : Int))))), (h, .inr (7, [.int (nI T), .int (iZ E), .int (iZ C), .ref a, .ref b, .ref c])), (c, .inl (ca 0, 400, .inl (zG G)))] H := hP
        have hD : va_D A [(o, .inr (3, [.int (nI z1), .ref ot, .ref ow])), (ot, .inl (ca 0, 20, .inl (nF od1))), (ow, .inl (ca 0, 20, .inl (zF (upZ wt1 k ((cntB G k T : Nat) : Int))))), (h, .inr (7, [.int (nI T), .int (iZ E), .int (iZ C), .ref a, .ref b, .ref c])), (c, .inl (ca 0, 400, .inl (zG G)))] := hD
        have hc1 := cntB_le G k T
        refine lv_aload_n hx hb dX3_sort_26 rfl (lv_at hl 1 rfl) ?_
        refine va_get (D := D) (ci := 3) (v := .ref ow) (C := RX3) (T := TX3) (N := 3) hx hb hts inX3 hown hK hP 0 rfl rfl 2 (by decide) f19 (fun _ h9 => h9) rfl dX3_sort_27 ?_
        refine lv_iload_n hx hb dX3_sort_30 rfl (lv_at hl 0 rfl) ?_
        refine xr_iald hx hb hK hP 2 0 rfl rfl (by omega) (Nat.le_of_ble_eq_true rfl) (v := iZ ((upZ wt1 k ((cntB G k T : Nat) : Int)) k)) rfl dX3_sort_31 ?_
        refine xr_top (y := iZ (((cntB G k T : Nat) : Int))) (by rw [upZ_s]) ?_
        refine lv_if_ne (tgt := 40) hx hb dX3_sort_32 (by decide) (fun h32 => ?_) (fun h32 => ?_)
        · skip
          have h32 := (not_congr (cE (iZ_toInt (by omega) (by omega)) z0_toInt)).mp h32
          refine lv_iinc (v := nI (k + 1)) (lv' := [(2, .int (nI (k + 1))), (0, .ref o), (1, .ref h)]) hx hb dX3_sort_40 hl (k := 0) rfl (nI_add _ 1) (by decide) rfl (fun ls hl => ?_)
          refine lv_goto (tgt := 7) hx hb dX3_sort_43 (by decide) ?_
          exact ih7 (k + 1) z1 od1 (upZ wt1 k ((cntB G k T : Nat) : Int)) (by omega) (KA_skip hKA h32) (by omega) _ _ hP hD hS _ (lv_sub hl [0, 1, 2] rfl)
        · skip
          have h32 := (cE (iZ_toInt (by omega) (by omega)) z0_toInt).mp h32
          refine lv_aload_n hx hb dX3_sort_35 rfl (lv_at hl 1 rfl) ?_
          refine lv_iload_n hx hb dX3_sort_36 rfl (lv_at hl 0 rfl) ?_
          refine xk_v [(ow, .inl (ca 0, 20, .inl (zF (upZ wt1 k ((cntB G k T : Nat) : Int))))), (h, .inr (7, [.int (nI T), .int (iZ E), .int (iZ C), .ref a, .ref b, .ref c])), (c, .inl (ca 0, 400, .inl (zG G)))] (fun u => [(o, .inr (3, [.int (nI (z1 + 1)), .ref ot, .ref ow])), (ot, .inl (ca 0, 20, .inl (nF (upN od1 z1 k)))), (ow, .inl (ca 0, 20, .inl (zF (upZ wt1 k ((cntB G k T : Nat) : Int))))), (h, .inr (7, [.int (nI T), .int (iZ E), .int (iZ C), .ref a, .ref b, .ref c])), (c, .inl (ca 0, 400, .inl (zG G)))]) (xk_V (As := [.int (nI k)]) (rest := []) ⟨hx, hb, hml, hown, hts⟩ (mX3_put l D ca H.size o ot ow z1 od1 k (by have := hKA.1; omega)) (cwV 1 hts gX3_sort_X3_put rfl rfl rfl (by decide +kernel) ⟨Nat.le_of_ble_eq_true rfl, Nat.le_of_ble_eq_true rfl⟩) hK hP hD (va_recv (q := (RX3, TX3, 3)) hK hP (ci := 3) (q0 := 0) rfl rfl) [0, 1] rfl rfl rfl hl.1 rfl (Nat.le_of_ble_eq_true rfl) dX3_sort_37 ⟨Nat.le_of_ble_eq_true rfl, Nat.le_of_ble_eq_true rfl⟩) hP hD hS hA [0, 1] [2, 3, 4] [3, 4, 0, 1, 2] rfl rfl rfl rfl (fun _ => rfl) rfl (fun u37 H locs hw37 hP hD hS => ?_)
          have hw37 : True := hw37
          have hP : va_P D vwCl [(o, .inr (3, [.int (nI (z1 + 1)), .ref ot, .ref ow])), (ot, .inl (ca 0, 20, .inl (nF (upN od1 z1 k)))), (ow, .inl (ca 0, 20, .inl (zF (upZ wt1 k ((cntB G k T : Nat) : Int))))), (h, .inr (7, [.int (nI T), .int (iZ E), .int (iZ C), .ref a, .ref b, .ref c])), (c, .inl (ca 0, 400, .inl (zG G)))] H := hP
          have hD : va_D A [(o, .inr (3, [.int (nI (z1 + 1)), .ref ot, .ref ow])), (ot, .inl (ca 0, 20, .inl (nF (upN od1 z1 k)))), (ow, .inl (ca 0, 20, .inl (zF (upZ wt1 k ((cntB G k T : Nat) : Int))))), (h, .inr (7, [.int (nI T), .int (iZ E), .int (iZ C), .ref a, .ref b, .ref c])), (c, .inl (ca 0, 400, .inl (zG G)))] := hD
          refine lv_iinc (v := nI (k + 1)) (lv' := [(2, .int (nI (k + 1))), (0, .ref o), (1, .ref h)]) hx hb dX3_sort_40 hl (k := 0) rfl (nI_add _ 1) (by decide) rfl (fun ls hl => ?_)
          refine lv_goto (tgt := 7) hx hb dX3_sort_43 (by decide) ?_
          exact ih7 (k + 1) (z1 + 1) (upN od1 z1 k) (upZ wt1 k ((cntB G k T : Nat) : Int)) (by omega) (KA_put hKA h32) (by omega) _ _ hP hD hS _ (lv_sub hl [0, 1, 2] rfl)
  exact L7 _ 0 0 od wt (by omega) (KA_0 _ _ _ _) (Nat.lt_succ_self _) _ _ hP hD hS _ (lv_sub hl [0, 1, 2] rfl)

