def rX0_leads : Room := { frames := 4, cells := 0, slots := 0, locals := 89 }
set_option maxHeartbeats 4000000 in
set_option maxRecDepth 100000 in
/-- leads(plan, task, other) -/
theorem mX0_leads (l : Launch) (D : va_G) (ca : Nat → ClassId) (sz : Nat) (k0 : Nat) (kr : Nat) (kt : Nat) (kf : Nat) (kc : Nat) (o : Nat) (ot : Nat) (ow : Nat) (z : Nat) (od : Nat → Nat) (wt : Nat → Int) (rb : Nat → Bool) (h : Nat) (a : Nat) (b : Nat) (c : Nat) (T : Nat) (E : Int) (C : Int) (G : Nat → Nat → Int) (i : Nat) (j : Nat) (hT : T ≤ 20) (hG : GOK G) (hac : ACY G T) (hi : i < T) (hj : j < T) : MM l yX0_leads wsX0_leads rX0_leads D ca [.ref k0, .ref h, .int (nI i), .int (nI j)] sz [(k0, .inr (0, [.ref o, .ref kr, .ref kt, .ref kf, .ref kc])), (kr, .inl (ca 1, 20, .inl (bF rb))), (o, .inr (3, [.int (nI z), .ref ot, .ref ow])), (ot, .inl (ca 0, 20, .inl (nF od))), (ow, .inl (ca 0, 20, .inl (zF wt))), (h, .inr (7, [.int (nI T), .int (iZ E), .int (iZ C), .ref a, .ref b, .ref c])), (c, .inl (ca 0, 400, .inl (zG G)))] (QI D ca (fun (r : Int32) (u : Nat × (Nat → Nat) × (Nat → Int) × (Nat → Bool)) => r = bI (ahB G T i j)) (fun u => [(k0, .inr (0, [.ref o, .ref kr, .ref kt, .ref kf, .ref kc])), (kr, .inl (ca 1, 20, .inl (bF u.2.2.2))), (o, .inr (3, [.int (nI u.1), .ref ot, .ref ow])), (ot, .inl (ca 0, 20, .inl (nF u.2.1))), (ow, .inl (ca 0, 20, .inl (zF u.2.2.1))), (h, .inr (7, [.int (nI T), .int (iZ E), .int (iZ C), .ref a, .ref b, .ref c])), (c, .inl (ca 0, 400, .inl (zG G)))])) := by
  refine MM_of (cc := cX0_leads) (maxL := 7) (ret := (some .boolean)) (lv0 := [(0, .ref k0), (1, .ref h), (2, .int (nI i)), (3, .int (nI j))]) RX0 (by decide) rfl rfl (Nat.le_of_ble_eq_true rfl) rfl ?_
  intro pG eV s mI args below meth cO hx hb hr hml hts hown hlocks hnm A hA H locs hsz hP hK hD hS Q hE ls hl
  have f12 := hts (.fieldLink RX0 12 "SlackPlan$Chains" "order" "LSlackPlan$Order;") (List.mem_of_getElem? (i := 2) rfl)
  have inX0 : ∀ w ∈ u_ws RX0 TX0 5, w ∈ wsX0_leads := in_r _ [37, 38, 39, 40, 41] rfl
  have f43 := hts (.fieldLink RX0 43 "SlackPlan$Order" "size" "I") (List.mem_of_getElem? (i := 3) rfl)
  have inX3 : ∀ w ∈ u_ws RX3 TX3 3, w ∈ wsX0_leads := in_r _ [42, 43, 44] rfl
  have f18 := hts (.fieldLink RX0 18 "SlackPlan$Chains" "reached" "[Z") (List.mem_of_getElem? (i := 1) rfl)
  have f47 := hts (.fieldLink RX0 47 "SlackPlan$Order" "tasks" "[I") (List.mem_of_getElem? (i := 4) rfl)
  have f50 := hts (.fieldLink RX0 50 "SlackPlan$State" "tasks" "I") (List.mem_of_getElem? (i := 5) rfl)
  have inX7 : ∀ w ∈ u_ws RX7 TX7 6, w ∈ wsX0_leads := in_r _ [45, 46, 47, 48, 49, 50] rfl
  refine lv_aload_n hx hb dX0_leads_0 rfl (lv_at hl 1 rfl) ?_
  refine lv_iload_n hx hb dX0_leads_1 rfl (lv_at hl 2 rfl) ?_
  refine xk_pi (xk_V (As := [.int (nI i)]) (rest := []) ⟨hx, hb, hml, hown, hts⟩ (mX7_has l D ca H.size h a b c T E C (nI (i)) (by omega)) (cwV 1 hts gX0_leads_X7_has rfl rfl rfl (by decide +kernel) ⟨Nat.le_of_ble_eq_true rfl, Nat.le_of_ble_eq_true rfl⟩) hK hP hD (va_recv (q := (RX7, TX7, 6)) hK hP (ci := 7) (q0 := 5) rfl rfl) [5] rfl rfl rfl hl.1 rfl (Nat.le_of_ble_eq_true rfl) dX0_leads_2 ⟨Nat.le_of_ble_eq_true rfl, Nat.le_of_ble_eq_true rfl⟩) hP hD hS hA [5] rfl ⟨rfl, rfl⟩ (fun r2 H locs hw2 hP hS => ?_)
  have hw2 : r2 = bI (hasB T (nI (i))) := hw2
  subst hw2
  refine lv_if_eq (tgt := 21) hx hb dX0_leads_5 (by decide) (fun h5 => ?_) (fun h5 => ?_)
  · skip
    have h5 := bI_0.mp h5
    exact absurd (h5.symm.trans (hasB_t hi hT)) (by decide)
  · skip
    have h5 := bI_n0.mp h5
    refine lv_aload_n hx hb dX0_leads_8 rfl (lv_at hl 1 rfl) ?_
    refine lv_iload_n hx hb dX0_leads_9 rfl (lv_at hl 3 rfl) ?_
    refine xk_pi (xk_V (As := [.int (nI j)]) (rest := []) ⟨hx, hb, hml, hown, hts⟩ (mX7_has l D ca H.size h a b c T E C (nI (j)) (by omega)) (cwV 1 hts gX0_leads_X7_has rfl rfl rfl (by decide +kernel) ⟨Nat.le_of_ble_eq_true rfl, Nat.le_of_ble_eq_true rfl⟩) hK hP hD (va_recv (q := (RX7, TX7, 6)) hK hP (ci := 7) (q0 := 5) rfl rfl) [5] rfl rfl rfl hl.1 rfl (Nat.le_of_ble_eq_true rfl) dX0_leads_10 ⟨Nat.le_of_ble_eq_true rfl, Nat.le_of_ble_eq_true rfl⟩) hP hD hS hA [5] rfl ⟨rfl, rfl⟩ (fun r10 H locs hw10 hP hS => ?_)
    have hw10 : r10 = bI (hasB T (nI (j))) := hw10
    subst hw10
    refine lv_if_eq (tgt := 21) hx hb dX0_leads_13 (by decide) (fun h13 => ?_) (fun h13 => ?_)
    · skip
      have h13 := bI_0.mp h13
      exact absurd (h13.symm.trans (hasB_t hj hT)) (by decide)
    · skip
      have h13 := bI_n0.mp h13
      refine lv_iload_n hx hb dX0_leads_16 rfl (lv_at hl 2 rfl) ?_
      refine lv_iload_n hx hb dX0_leads_17 rfl (lv_at hl 3 rfl) ?_
      refine lv_icmp_ne (tgt := 23) hx hb dX0_leads_18 (by decide) (fun h18 => ?_) (fun h18 => ?_)
      · skip
        have h18 := (not_congr (cE (nI_toInt (by omega)) (nI_toInt (by omega)))).mp h18
        refine lv_iconst (v := nI (0)) hx hb dX0_leads_23 (by decide) ?_
        refine lv_istore (lv' := [(4, .int (nI 0)), (0, .ref k0), (1, .ref h), (2, .int (nI i)), (3, .int (nI j))]) hx hb dX0_leads_24 hl (by decide) rfl (fun ls hl => ?_)
        have L26 : ∀ (fu : Nat) (k : Nat), (k ≤ 20) → (20 - k) < fu → ∀ (H : Heap) (locs : List Loc), va_P D vwCl [(k0, .inr (0, [.ref o, .ref kr, .ref kt, .ref kf, .ref kc])), (kr, .inl (ca 1, 20, .inl (bF (ini i rb k)))), (o, .inr (3, [.int (nI z), .ref ot, .ref ow])), (ot, .inl (ca 0, 20, .inl (nF od))), (ow, .inl (ca 0, 20, .inl (zF wt))), (h, .inr (7, [.int (nI T), .int (iZ E), .int (iZ C), .ref a, .ref b, .ref c])), (c, .inl (ca 0, 400, .inl (zG G)))] H → va_D A [(k0, .inr (0, [.ref o, .ref kr, .ref kt, .ref kf, .ref kc])), (kr, .inl (ca 1, 20, .inl (bF (ini i rb k)))), (o, .inr (3, [.int (nI z), .ref ot, .ref ow])), (ot, .inl (ca 0, 20, .inl (nF od))), (ow, .inl (ca 0, 20, .inl (zF wt))), (h, .inr (7, [.int (nI T), .int (iZ E), .int (iZ C), .ref a, .ref b, .ref c])), (c, .inl (ca 0, 400, .inl (zG G)))] → va_S A s.heap H locs → ∀ ls : Array Slot, lv_has ls 7 [(4, .int (nI k)), (0, .ref k0), (1, .ref h), (2, .int (nI i)), (3, .int (nI j))] → W pG l eV rX0_leads s mI args below meth cO H locs 0 0 Q (F0 mI 26 ls []) := by
          clear hP hD hS hl
          intro fu; induction fu with
          | zero => intro k hk hmu; exact absurd hmu (Nat.not_lt_zero _)
          | succ n26 ih26 =>
            intro k hk hmu26 H locs hP hD hS ls hl
            refine lv_iload hx hb dX0_leads_26 (lv_at hl 0 rfl) ?_
            refine lv_bipush (v := nI (20)) hx hb dX0_leads_28 (by decide) ?_
            refine lv_icmp_ge (tgt := 57) hx hb dX0_leads_30 (by decide) (fun h30 => ?_) (fun h30 => ?_)
            · skip
              have h30 := (cL (nI_toInt (by omega)) (nI_toInt (by omega))).mp h30
              have hP := hP.arr 1 (bF (ini i rb 20)) rfl (fun j9 _ => by rw [show k = 20 by omega])
              have hD := hD.set (p := 1) (e := .inl (ca 1, 20, .inl (bF (ini i rb 20)))) rfl
              have hP : va_P D vwCl [(k0, .inr (0, [.ref o, .ref kr, .ref kt, .ref kf, .ref kc])), (kr, .inl (ca 1, 20, .inl (bF (ini i rb 20)))), (o, .inr (3, [.int (nI z), .ref ot, .ref ow])), (ot, .inl (ca 0, 20, .inl (nF od))), (ow, .inl (ca 0, 20, .inl (zF wt))), (h, .inr (7, [.int (nI T), .int (iZ E), .int (iZ C), .ref a, .ref b, .ref c])), (c, .inl (ca 0, 400, .inl (zG G)))] H := hP
              have hD : va_D A [(k0, .inr (0, [.ref o, .ref kr, .ref kt, .ref kf, .ref kc])), (kr, .inl (ca 1, 20, .inl (bF (ini i rb 20)))), (o, .inr (3, [.int (nI z), .ref ot, .ref ow])), (ot, .inl (ca 0, 20, .inl (nF od))), (ow, .inl (ca 0, 20, .inl (zF wt))), (h, .inr (7, [.int (nI T), .int (iZ E), .int (iZ C), .ref a, .ref b, .ref c])), (c, .inl (ca 0, 400, .inl (zG G)))] := hD
              refine lv_aload_n hx hb dX0_leads_57 rfl (lv_at hl 1 rfl) ?_
              refine va_get (D := D) (ci := 0) (v := .ref o) (C := RX0) (T := TX0) (N := 5) hx hb hts inX0 hown hK hP 0 rfl rfl 0 (by decide) f12 (fun _ h9 => h9) rfl dX0_leads_58 ?_
              refine lv_aload_n hx hb dX0_leads_61 rfl (lv_at hl 2 rfl) ?_
              refine xk_v [(k0, .inr (0, [.ref o, .ref kr, .ref kt, .ref kf, .ref kc])), (kr, .inl (ca 1, 20, .inl (bF (ini i rb 20))))] (fun u => [(k0, .inr (0, [.ref o, .ref kr, .ref kt, .ref kf, .ref kc])), (kr, .inl (ca 1, 20, .inl (bF (ini i rb 20)))), (o, .inr (3, [.int (nI T), .ref ot, .ref ow])), (ot, .inl (ca 0, 20, .inl (nF u.1))), (ow, .inl (ca 0, 20, .inl (zF u.2))), (h, .inr (7, [.int (nI T), .int (iZ E), .int (iZ C), .ref a, .ref b, .ref c])), (c, .inl (ca 0, 400, .inl (zG G)))]) (xk_V (As := [.ref h]) (rest := []) ⟨hx, hb, hml, hown, hts⟩ (mX3_sort l D ca H.size o ot ow z od wt h a b c T E C G (by omega) hG hac) (cwV 1 hts gX0_leads_X3_sort rfl rfl rfl (by decide +kernel) ⟨Nat.le_of_ble_eq_true rfl, Nat.le_of_ble_eq_true rfl⟩) hK hP hD (va_recv (q := (RX3, TX3, 3)) hK hP (ci := 3) (q0 := 2) rfl rfl) [2, 3, 4, 5, 6] rfl rfl rfl hl.1 rfl (Nat.le_of_ble_eq_true rfl) dX0_leads_62 ⟨Nat.le_of_ble_eq_true rfl, Nat.le_of_ble_eq_true rfl⟩) hP hD hS hA [2, 3, 4, 5, 6] [0, 1] [0, 1, 2, 3, 4, 5, 6] rfl rfl rfl rfl (fun _ => rfl) rfl (fun u62 H locs hw62 hP hD hS => ?_)
              obtain ⟨od162, wt162⟩ := u62
              have hw62 : TOPO G T od162 := hw62
              have hP : va_P D vwCl [(k0, .inr (0, [.ref o, .ref kr, .ref kt, .ref kf, .ref kc])), (kr, .inl (ca 1, 20, .inl (bF (ini i rb 20)))), (o, .inr (3, [.int (nI T), .ref ot, .ref ow])), (ot, .inl (ca 0, 20, .inl (nF od162))), (ow, .inl (ca 0, 20, .inl (zF wt162))), (h, .inr (7, [.int (nI T), .int (iZ E), .int (iZ C), .ref a, .ref b, .ref c])), (c, .inl (ca 0, 400, .inl (zG G)))] H := hP
              have hD : va_D A [(k0, .inr (0, [.ref o, .ref kr, .ref kt, .ref kf, .ref kc])), (kr, .inl (ca 1, 20, .inl (bF (ini i rb 20)))), (o, .inr (3, [.int (nI T), .ref ot, .ref ow])), (ot, .inl (ca 0, 20, .inl (nF od162))), (ow, .inl (ca 0, 20, .inl (zF wt162))), (h, .inr (7, [.int (nI T), .int (iZ E), .int (iZ C), .ref a, .ref b, .ref c])), (c, .inl (ca 0, 400, .inl (zG G)))] := hD
              refine lv_iconst (v := nI (0)) hx hb dX0_leads_65 (by decide) ?_
              refine lv_istore (lv' := [(4, .int (nI 0)), (0, .ref k0), (1, .ref h), (2, .int (nI i)), (3, .int (nI j))]) hx hb dX0_leads_66 hl (by decide) rfl (fun ls hl => ?_)
              have L68 : ∀ (fu : Nat) (pl : Nat) (rb2 : Nat → Bool), (pl ≤ T) → (LD G T od162 i pl 0 rb2) → (T - pl) < fu → ∀ (H : Heap) (locs : List Loc), va_P D vwCl [(k0, .inr (0, [.ref o, .ref kr, .ref kt, .ref kf, .ref kc])), (kr, .inl (ca 1, 20, .inl (bF rb2))), (o, .inr (3, [.int (nI T), .ref ot, .ref ow])), (ot, .inl (ca 0, 20, .inl (nF od162))), (ow, .inl (ca 0, 20, .inl (zF wt162))), (h, .inr (7, [.int (nI T), .int (iZ E), .int (iZ C), .ref a, .ref b, .ref c])), (c, .inl (ca 0, 400, .inl (zG G)))] H → va_D A [(k0, .inr (0, [.ref o, .ref kr, .ref kt, .ref kf, .ref kc])), (kr, .inl (ca 1, 20, .inl (bF rb2))), (o, .inr (3, [.int (nI T), .ref ot, .ref ow])), (ot, .inl (ca 0, 20, .inl (nF od162))), (ow, .inl (ca 0, 20, .inl (zF wt162))), (h, .inr (7, [.int (nI T), .int (iZ E), .int (iZ C), .ref a, .ref b, .ref c])), (c, .inl (ca 0, 400, .inl (zG G)))] → va_S A s.heap H locs → ∀ ls : Array Slot, lv_has ls 7 [(4, .int (nI pl)), (0, .ref k0), (1, .ref h), (2, .int (nI i)), (3, .int (nI j))] → W pG l eV rX0_leads s mI args below meth cO H locs 0 0 Q (F0 mI 68 ls []) := by
                clear hP hD hS hl
                intro fu; induction fu with
                | zero => intro pl rb2 hpl hLD hmu; exact absurd hmu (Nat.not_lt_zero _)
                | succ n68 ih68 =>
                  intro pl rb2 hpl hLD hmu68 H locs hP hD hS ls hl
                  refine lv_iload hx hb dX0_leads_68 (lv_at hl 0 rfl) ?_
                  refine lv_aload_n hx hb dX0_leads_70 rfl (lv_at hl 1 rfl) ?_
                  refine va_get (D := D) (ci := 0) (v := .ref o) (C := RX0) (T := TX0) (N := 5) hx hb hts inX0 hown hK hP 0 rfl rfl 0 (by decide) f12 (fun _ h9 => h9) rfl dX0_leads_71 ?_
                  refine va_get (D := D) (ci := 3) (v := .int (nI T)) (C := RX3) (T := TX3) (N := 3) hx hb hts inX3 hown hK hP 2 rfl rfl 0 (by decide) f43 (fun _ h9 => h9) rfl dX0_leads_74 ?_
                  refine lv_icmp_ge (tgt := 146) hx hb dX0_leads_77 (by decide) (fun h77 => ?_) (fun h77 => ?_)
                  · skip
                    have h77 := (cL (nI_toInt (by omega)) (nI_toInt (by omega))).mp h77
                    refine lv_aload_n hx hb dX0_leads_146 rfl (lv_at hl 1 rfl) ?_
                    refine va_get (D := D) (ci := 0) (v := .ref kr) (C := RX0) (T := TX0) (N := 5) hx hb hts inX0 hown hK hP 0 rfl rfl 1 (by decide) f18 (fun _ h9 => h9) rfl dX0_leads_147 ?_
                    refine lv_iload_n hx hb dX0_leads_150 rfl (lv_at hl 4 rfl) ?_
                    refine xr_zald hx hb hK hP 1 1 rfl rfl (by omega) (Nat.le_of_ble_eq_true rfl) (v := bI (rb2 j)) rfl dX0_leads_151 ?_
                    rw [← hE]
                    exact xe_z (T, od162, wt162, rb2) hx hb hr hlocks hK hP hD hS (bI_nar _) (congrArg bI (LD_end hLD hw62 (by omega) hj (by omega))) dX0_leads_152
                  · skip
                    have h77 := (not_congr (cL (nI_toInt (by omega)) (nI_toInt (by omega)))).mp h77
                    refine lv_aload_n hx hb dX0_leads_80 rfl (lv_at hl 1 rfl) ?_
                    refine va_get (D := D) (ci := 0) (v := .ref o) (C := RX0) (T := TX0) (N := 5) hx hb hts inX0 hown hK hP 0 rfl rfl 0 (by decide) f12 (fun _ h9 => h9) rfl dX0_leads_81 ?_
                    refine va_get (D := D) (ci := 3) (v := .ref ot) (C := RX3) (T := TX3) (N := 3) hx hb hts inX3 hown hK hP 2 rfl rfl 1 (by decide) f47 (fun _ h9 => h9) rfl dX0_leads_84 ?_
                    refine lv_iload hx hb dX0_leads_87 (lv_at hl 0 rfl) ?_
                    refine xr_iald hx hb hK hP 3 0 rfl rfl (by omega) (Nat.le_of_ble_eq_true rfl) (v := nI (od162 pl)) rfl dX0_leads_89 ?_
                    refine lv_istore (lv' := [(5, .int (nI (od162 pl))), (4, .int (nI pl)), (0, .ref k0), (1, .ref h), (2, .int (nI i)), (3, .int (nI j))]) hx hb dX0_leads_90 hl (by decide) rfl (fun ls hl => ?_)
                    refine lv_iconst (v := nI (0)) hx hb dX0_leads_92 (by decide) ?_
                    refine lv_istore (lv' := [(6, .int (nI 0)), (5, .int (nI (od162 pl))), (4, .int (nI pl)), (0, .ref k0), (1, .ref h), (2, .int (nI i)), (3, .int (nI j))]) hx hb dX0_leads_93 hl (by decide) rfl (fun ls hl => ?_)
                    have L95 : ∀ (fu : Nat) (u : Nat) (rb3 : Nat → Bool), (u ≤ T) → (LD G T od162 i pl u rb3) → (T - u) < fu → ∀ (H : Heap) (locs : List Loc), va_P D vwCl [(k0, .inr (0, [.ref o, .ref kr, .ref kt, .ref kf, .ref kc])), (kr, .inl (ca 1, 20, .inl (bF rb3))), (o, .inr (3, [.int (nI T), .ref ot, .ref ow])), (ot, .inl (ca 0, 20, .inl (nF od162))), (ow, .inl (ca 0, 20, .inl (zF wt162))), (h, .inr (7, [.int (nI T), .int (iZ E), .int (iZ C), .ref a, .ref b, .ref c])), (c, .inl (ca 0, 400, .inl (zG G)))] H → va_D A [(k0, .inr (0, [.ref o, .ref kr, .ref kt, .ref kf, .ref kc])), (kr, .inl (ca 1, 20, .inl (bF rb3))), (o, .inr (3, [.int (nI T), .ref ot, .ref ow])), (ot, .inl (ca 0, 20, .inl (nF od162))), (ow, .inl (ca 0, 20, .inl (zF wt162))), (h, .inr (7, [.int (nI T), .int (iZ E), .int (iZ C), .ref a, .ref b, .ref c])), (c, .inl (ca 0, 400, .inl (zG G)))] → va_S A s.heap H locs → ∀ ls : Array Slot, lv_has ls 7 [(6, .int (nI u)), (5, .int (nI (od162 pl))), (4, .int (nI pl)), (0, .ref k0), (1, .ref h), (2, .int (nI i)), (3, .int (nI j))] → W pG l eV rX0_leads s mI args below meth cO H locs 0 0 Q (F0 mI 95 ls []) := by
                      clear hP hD hS hl
                      intro fu; induction fu with
                      | zero => intro u rb3 hu hLD hmu; exact absurd hmu (Nat.not_lt_zero _)
                      | succ n95 ih95 =>
                        intro u rb3 hu hLD hmu95 H locs hP hD hS ls hl
                        refine lv_iload hx hb dX0_leads_95 (lv_at hl 0 rfl) ?_
                        refine lv_aload_n hx hb dX0_leads_97 rfl (lv_at hl 4 rfl) ?_
                        refine va_get (D := D) (ci := 7) (v := .int (nI T)) (C := RX7) (T := TX7) (N := 6) hx hb hts inX7 hown hK hP 5 rfl rfl 0 (by decide) f50 (fun _ h9 => h9) rfl dX0_leads_98 ?_
                        refine lv_icmp_ge (tgt := 140) hx hb dX0_leads_101 (by decide) (fun h101 => ?_) (fun h101 => ?_)
                        · skip
                          have h101 := (cL (nI_toInt (by omega)) (nI_toInt (by omega))).mp h101
                          refine lv_iinc (v := nI (pl + 1)) (lv' := [(4, .int (nI (pl + 1))), (6, .int (nI u)), (5, .int (nI (od162 pl))), (0, .ref k0), (1, .ref h), (2, .int (nI i)), (3, .int (nI j))]) hx hb dX0_leads_140 hl (k := 2) rfl (nI_add _ 1) (by decide) rfl (fun ls hl => ?_)
                          refine lv_goto (tgt := 68) hx hb dX0_leads_143 (by decide) ?_
                          exact ih68 (pl + 1) rb3 (by omega) (LD_nx hLD (by omega)) (by omega) _ _ hP hD hS _ (lv_sub hl [0, 3, 4, 5, 6] rfl)
                        · skip
                          have h101 := (not_congr (cL (nI_toInt (by omega)) (nI_toInt (by omega)))).mp h101
                          have ho := hw62.1 pl (by omega)
                          refine lv_aload_n hx hb dX0_leads_104 rfl (lv_at hl 3 rfl) ?_
                          refine va_get (D := D) (ci := 0) (v := .ref kr) (C := RX0) (T := TX0) (N := 5) hx hb hts inX0 hown hK hP 0 rfl rfl 1 (by decide) f18 (fun _ h9 => h9) rfl dX0_leads_105 ?_
                          refine lv_iload hx hb dX0_leads_108 (lv_at hl 1 rfl) ?_
                          refine xr_zald hx hb hK hP 1 1 rfl rfl (by omega) (Nat.le_of_ble_eq_true rfl) (v := bI (rb3 (od162 pl))) rfl dX0_leads_110 ?_
                          refine lv_if_eq (tgt := 134) hx hb dX0_leads_111 (by decide) (fun h111 => ?_) (fun h111 => ?_)
                          · skip
                            have h111 := bI_0.mp h111
                            refine lv_iinc (v := nI (u + 1)) (lv' := [(6, .int (nI (u + 1))), (5, .int (nI (od162 pl))), (4, .int (nI pl)), (0, .ref k0), (1, .ref h), (2, .int (nI i)), (3, .int (nI j))]) hx hb dX0_leads_134 hl (k := 0) rfl (nI_add _ 1) (by decide) rfl (fun ls hl => ?_)
                            refine lv_goto (tgt := 95) hx hb dX0_leads_137 (by decide) ?_
                            exact ih95 (u + 1) rb3 (by omega) (LD_no hLD (Or.inl h111)) (by omega) _ _ hP hD hS _ (lv_sub hl [0, 1, 2, 3, 4, 5, 6] rfl)
                          · skip
                            have h111 := bI_n0.mp h111
                            refine lv_aload_n hx hb dX0_leads_114 rfl (lv_at hl 4 rfl) ?_
                            refine lv_iload hx hb dX0_leads_115 (lv_at hl 1 rfl) ?_
                            refine lv_iload hx hb dX0_leads_117 (lv_at hl 0 rfl) ?_
                            refine xk_pi (xk_V (As := [.int (nI (od162 pl)), .int (nI u)]) (rest := []) ⟨hx, hb, hml, hown, hts⟩ (mX7_lag l D ca H.size h a b c T E C G (od162 pl) u (by omega) ho (by omega)) (cwV 2 hts gX0_leads_X7_lag rfl rfl rfl (by decide +kernel) ⟨Nat.le_of_ble_eq_true rfl, Nat.le_of_ble_eq_true rfl⟩) hK hP hD (va_recv (q := (RX7, TX7, 6)) hK hP (ci := 7) (q0 := 5) rfl rfl) [5, 6] rfl rfl rfl hl.1 rfl (Nat.le_of_ble_eq_true rfl) dX0_leads_119 ⟨Nat.le_of_ble_eq_true rfl, Nat.le_of_ble_eq_true rfl⟩) hP hD hS hA [5, 6] rfl ⟨rfl, rfl⟩ (fun r119 H locs hw119 hP hS => ?_)
                            have hw119 : r119 = iZ (G (od162 pl) u) := hw119
                            subst hw119
                            have hb1 := hG (od162 pl) u (by omega) (by omega)
                            refine lv_iconst (v := iZ (-1)) hx hb dX0_leads_122 (by decide) ?_
                            refine lv_icmp_eq (tgt := 134) hx hb dX0_leads_123 (by decide) (fun h123 => ?_) (fun h123 => ?_)
                            · skip
                              have h123 := (cE (iZ_toInt (by omega) (by omega)) (iZ_toInt (by omega) (by omega))).mp h123
                              refine lv_iinc (v := nI (u + 1)) (lv' := [(6, .int (nI (u + 1))), (5, .int (nI (od162 pl))), (4, .int (nI pl)), (0, .ref k0), (1, .ref h), (2, .int (nI i)), (3, .int (nI j))]) hx hb dX0_leads_134 hl (k := 0) rfl (nI_add _ 1) (by decide) rfl (fun ls hl => ?_)
                              refine lv_goto (tgt := 95) hx hb dX0_leads_137 (by decide) ?_
                              exact ih95 (u + 1) rb3 (by omega) (LD_no hLD (Or.inr h123)) (by omega) _ _ hP hD hS _ (lv_sub hl [0, 1, 2, 3, 4, 5, 6] rfl)
                            · skip
                              have h123 := (not_congr (cE (iZ_toInt (by omega) (by omega)) (iZ_toInt (by omega) (by omega)))).mp h123
                              refine lv_aload_n hx hb dX0_leads_126 rfl (lv_at hl 3 rfl) ?_
                              refine va_get (D := D) (ci := 0) (v := .ref kr) (C := RX0) (T := TX0) (N := 5) hx hb hts inX0 hown hK hP 0 rfl rfl 1 (by decide) f18 (fun _ h9 => h9) rfl dX0_leads_127 ?_
                              refine lv_iload hx hb dX0_leads_130 (lv_at hl 0 rfl) ?_
                              refine lv_iconst (v := nI (1)) hx hb dX0_leads_132 (by decide) ?_
                              refine xr_zast hx hb hK hP hD hS 1 1 rfl rfl (by omega) (Nat.le_of_ble_eq_true rfl) (bF (upB rb3 u true)) (fun _ _ => bF_up1 _ _ _) dX0_leads_133 (fun H locs hP hD hS => ?_)
                              have hP : va_P D vwCl [(k0, .inr (0, [.ref o, .ref kr, .ref kt, .ref kf, .ref kc])), (kr, .inl (ca 1, 20, .inl (bF (upB rb3 u true)))), (o, .inr (3, [.int (nI T), .ref ot, .ref ow])), (ot, .inl (ca 0, 20, .inl (nF od162))), (ow, .inl (ca 0, 20, .inl (zF wt162))), (h, .inr (7, [.int (nI T), .int (iZ E), .int (iZ C), .ref a, .ref b, .ref c])), (c, .inl (ca 0, 400, .inl (zG G)))] H := hP
                              have hD : va_D A [(k0, .inr (0, [.ref o, .ref kr, .ref kt, .ref kf, .ref kc])), (kr, .inl (ca 1, 20, .inl (bF (upB rb3 u true)))), (o, .inr (3, [.int (nI T), .ref ot, .ref ow])), (ot, .inl (ca 0, 20, .inl (nF od162))), (ow, .inl (ca 0, 20, .inl (zF wt162))), (h, .inr (7, [.int (nI T), .int (iZ E), .int (iZ C), .ref a, .ref b, .ref c])), (c, .inl (ca 0, 400, .inl (zG G)))] := hD
                              refine lv_iinc (v := nI (u + 1)) (lv' := [(6, .int (nI (u + 1))), (5, .int (nI (od162 pl))), (4, .int (nI pl)), (0, .ref k0), (1, .ref h), (2, .int (nI i)), (3, .int (nI j))]) hx hb dX0_leads_134 hl (k := 0) rfl (nI_add _ 1) (by decide) rfl (fun ls hl => ?_)
                              refine lv_goto (tgt := 95) hx hb dX0_leads_137 (by decide) ?_
                              exact ih95 (u + 1) (upB rb3 u true) (by omega) (LD_up hLD hw62 (by omega) (by omega) h111 h123) (by omega) _ _ hP hD hS _ (lv_sub hl [0, 1, 2, 3, 4, 5, 6] rfl)
                    exact L95 _ 0 rb2 (by omega) hLD (Nat.lt_succ_self _) _ _ hP hD hS _ (lv_sub hl [0, 1, 2, 3, 4, 5, 6] rfl)
              exact L68 _ 0 (ini i rb 20) (by omega) (LD_0 hT hi) (Nat.lt_succ_self _) _ _ hP hD hS _ (lv_sub hl [0, 1, 2, 3, 4] rfl)
            · skip
              have h30 := (not_congr (cL (nI_toInt (by omega)) (nI_toInt (by omega)))).mp h30
              refine lv_aload_n hx hb dX0_leads_33 rfl (lv_at hl 1 rfl) ?_
              refine va_get (D := D) (ci := 0) (v := .ref kr) (C := RX0) (T := TX0) (N := 5) hx hb hts inX0 hown hK hP 0 rfl rfl 1 (by decide) f18 (fun _ h9 => h9) rfl dX0_leads_34 ?_
              refine lv_iload hx hb dX0_leads_37 (lv_at hl 0 rfl) ?_
              refine lv_iload hx hb dX0_leads_39 (lv_at hl 0 rfl) ?_
              refine lv_iload_n hx hb dX0_leads_41 rfl (lv_at hl 3 rfl) ?_
              refine lv_icmp_ne (tgt := 49) hx hb dX0_leads_42 (by decide) (fun h42 => ?_) (fun h42 => ?_)
              · skip
                have h42 := (not_congr (cE (nI_toInt (by omega)) (nI_toInt (by omega)))).mp h42
                refine lv_iconst (v := nI (0)) hx hb dX0_leads_49 (by decide) ?_
                refine xr_zast hx hb hK hP hD hS 1 1 rfl rfl (by omega) (Nat.le_of_ble_eq_true rfl) (bF (upB (ini i rb k) k false)) (fun _ _ => bF_up0 _ _ _) dX0_leads_50 (fun H locs hP hD hS => ?_)
                have hP : va_P D vwCl [(k0, .inr (0, [.ref o, .ref kr, .ref kt, .ref kf, .ref kc])), (kr, .inl (ca 1, 20, .inl (bF (upB (ini i rb k) k false)))), (o, .inr (3, [.int (nI z), .ref ot, .ref ow])), (ot, .inl (ca 0, 20, .inl (nF od))), (ow, .inl (ca 0, 20, .inl (zF wt))), (h, .inr (7, [.int (nI T), .int (iZ E), .int (iZ C), .ref a, .ref b, .ref c])), (c, .inl (ca 0, 400, .inl (zG G)))] H := hP
                have hD : va_D A [(k0, .inr (0, [.ref o, .ref kr, .ref kt, .ref kf, .ref kc])), (kr, .inl (ca 1, 20, .inl (bF (upB (ini i rb k) k false)))), (o, .inr (3, [.int (nI z), .ref ot, .ref ow])), (ot, .inl (ca 0, 20, .inl (nF od))), (ow, .inl (ca 0, 20, .inl (zF wt))), (h, .inr (7, [.int (nI T), .int (iZ E), .int (iZ C), .ref a, .ref b, .ref c])), (c, .inl (ca 0, 400, .inl (zG G)))] := hD
                refine lv_iinc (v := nI (k + 1)) (lv' := [(4, .int (nI (k + 1))), (0, .ref k0), (1, .ref h), (2, .int (nI i)), (3, .int (nI j))]) hx hb dX0_leads_51 hl (k := 0) rfl (nI_add _ 1) (by decide) rfl (fun ls hl => ?_)
                refine lv_goto (tgt := 26) hx hb dX0_leads_54 (by decide) ?_
                have hP := hP.arr 1 (bF (ini i rb (k + 1))) rfl (fun j9 _ => by rw [ini_f h42])
                have hD := hD.set (p := 1) (e := .inl (ca 1, 20, .inl (bF (ini i rb (k + 1))))) rfl
                have hP : va_P D vwCl [(k0, .inr (0, [.ref o, .ref kr, .ref kt, .ref kf, .ref kc])), (kr, .inl (ca 1, 20, .inl (bF (ini i rb (k + 1))))), (o, .inr (3, [.int (nI z), .ref ot, .ref ow])), (ot, .inl (ca 0, 20, .inl (nF od))), (ow, .inl (ca 0, 20, .inl (zF wt))), (h, .inr (7, [.int (nI T), .int (iZ E), .int (iZ C), .ref a, .ref b, .ref c])), (c, .inl (ca 0, 400, .inl (zG G)))] H := hP
                have hD : va_D A [(k0, .inr (0, [.ref o, .ref kr, .ref kt, .ref kf, .ref kc])), (kr, .inl (ca 1, 20, .inl (bF (ini i rb (k + 1))))), (o, .inr (3, [.int (nI z), .ref ot, .ref ow])), (ot, .inl (ca 0, 20, .inl (nF od))), (ow, .inl (ca 0, 20, .inl (zF wt))), (h, .inr (7, [.int (nI T), .int (iZ E), .int (iZ C), .ref a, .ref b, .ref c])), (c, .inl (ca 0, 400, .inl (zG G)))] := hD
                exact ih26 (k + 1) (by omega) (by omega) _ _ hP hD hS _ (lv_sub hl [0, 1, 2, 3, 4] rfl)
              · skip
                have h42 := (cE (nI_toInt (by omega)) (nI_toInt (by omega))).mp h42
                refine lv_iconst (v := nI (1)) hx hb dX0_leads_45 (by decide) ?_
                refine lv_goto (tgt := 50) hx hb dX0_leads_46 (by decide) ?_
                refine xr_zast hx hb hK hP hD hS 1 1 rfl rfl (by omega) (Nat.le_of_ble_eq_true rfl) (bF (upB (ini i rb k) k true)) (fun _ _ => bF_up1 _ _ _) dX0_leads_50 (fun H locs hP hD hS => ?_)
                have hP : va_P D vwCl [(k0, .inr (0, [.ref o, .ref kr, .ref kt, .ref kf, .ref kc])), (kr, .inl (ca 1, 20, .inl (bF (upB (ini i rb k) k true)))), (o, .inr (3, [.int (nI z), .ref ot, .ref ow])), (ot, .inl (ca 0, 20, .inl (nF od))), (ow, .inl (ca 0, 20, .inl (zF wt))), (h, .inr (7, [.int (nI T), .int (iZ E), .int (iZ C), .ref a, .ref b, .ref c])), (c, .inl (ca 0, 400, .inl (zG G)))] H := hP
                have hD : va_D A [(k0, .inr (0, [.ref o, .ref kr, .ref kt, .ref kf, .ref kc])), (kr, .inl (ca 1, 20, .inl (bF (upB (ini i rb k) k true)))), (o, .inr (3, [.int (nI z), .ref ot, .ref ow])), (ot, .inl (ca 0, 20, .inl (nF od))), (ow, .inl (ca 0, 20, .inl (zF wt))), (h, .inr (7, [.int (nI T), .int (iZ E), .int (iZ C), .ref a, .ref b, .ref c])), (c, .inl (ca 0, 400, .inl (zG G)))] := hD
                refine lv_iinc (v := nI (k + 1)) (lv' := [(4, .int (nI (k + 1))), (0, .ref k0), (1, .ref h), (2, .int (nI i)), (3, .int (nI j))]) hx hb dX0_leads_51 hl (k := 0) rfl (nI_add _ 1) (by decide) rfl (fun ls hl => ?_)
                refine lv_goto (tgt := 26) hx hb dX0_leads_54 (by decide) ?_
                have hP := hP.arr 1 (bF (ini i rb (k + 1))) rfl (fun j9 _ => by rw [ini_t h42])
                have hD := hD.set (p := 1) (e := .inl (ca 1, 20, .inl (bF (ini i rb (k + 1))))) rfl
                have hP : va_P D vwCl [(k0, .inr (0, [.ref o, .ref kr, .ref kt, .ref kf, .ref kc])), (kr, .inl (ca 1, 20, .inl (bF (ini i rb (k + 1))))), (o, .inr (3, [.int (nI z), .ref ot, .ref ow])), (ot, .inl (ca 0, 20, .inl (nF od))), (ow, .inl (ca 0, 20, .inl (zF wt))), (h, .inr (7, [.int (nI T), .int (iZ E), .int (iZ C), .ref a, .ref b, .ref c])), (c, .inl (ca 0, 400, .inl (zG G)))] H := hP
                have hD : va_D A [(k0, .inr (0, [.ref o, .ref kr, .ref kt, .ref kf, .ref kc])), (kr, .inl (ca 1, 20, .inl (bF (ini i rb (k + 1))))), (o, .inr (3, [.int (nI z), .ref ot, .ref ow])), (ot, .inl (ca 0, 20, .inl (nF od))), (ow, .inl (ca 0, 20, .inl (zF wt))), (h, .inr (7, [.int (nI T), .int (iZ E), .int (iZ C), .ref a, .ref b, .ref c])), (c, .inl (ca 0, 400, .inl (zG G)))] := hD
                exact ih26 (k + 1) (by omega) (by omega) _ _ hP hD hS _ (lv_sub hl [0, 1, 2, 3, 4] rfl)
        have hP := hP.arr 1 (bF (ini i rb 0)) rfl (fun j9 _ => by unfold bF ini; rw [if_neg (Nat.not_lt_zero j9)])
        have hD := hD.set (p := 1) (e := .inl (ca 1, 20, .inl (bF (ini i rb 0)))) rfl
        have hP : va_P D vwCl [(k0, .inr (0, [.ref o, .ref kr, .ref kt, .ref kf, .ref kc])), (kr, .inl (ca 1, 20, .inl (bF (ini i rb 0)))), (o, .inr (3, [.int (nI z), .ref ot, .ref ow])), (ot, .inl (ca 0, 20, .inl (nF od))), (ow, .inl (ca 0, 20, .inl (zF wt))), (h, .inr (7, [.int (nI T), .int (iZ E), .int (iZ C), .ref a, .ref b, .ref c])), (c, .inl (ca 0, 400, .inl (zG G)))] H := hP
        have hD : va_D A [(k0, .inr (0, [.ref o, .ref kr, .ref kt, .ref kf, .ref kc])), (kr, .inl (ca 1, 20, .inl (bF (ini i rb 0)))), (o, .inr (3, [.int (nI z), .ref ot, .ref ow])), (ot, .inl (ca 0, 20, .inl (nF od))), (ow, .inl (ca 0, 20, .inl (zF wt))), (h, .inr (7, [.int (nI T), .int (iZ E), .int (iZ C), .ref a, .ref b, .ref c])), (c, .inl (ca 0, 400, .inl (zG G)))] := hD
        exact L26 _ 0 (by omega) (Nat.lt_succ_self _) _ _ hP hD hS _ (lv_sub hl [0, 1, 2, 3, 4] rfl)
      · skip
        have h18 := (cE (nI_toInt (by omega)) (nI_toInt (by omega))).mp h18
        refine lv_iconst (v := nI (0)) hx hb dX0_leads_21 (by decide) ?_
        rw [← hE]
        exact xe_z (z, od, wt, rb) hx hb hr hlocks hK hP hD hS rfl (by have e9 : i = j := (by omega); subst e9; rw [ahB_self]; rfl) dX0_leads_22
def rX0_longestBefore : Room := { frames := 2, cells := 0, slots := 0, locals := 43 }
set_option maxHeartbeats 4000000 in
set_option maxRecDepth 100000 in
theorem mX0_longestBefore (l : Launch) (D : va_G) (ca : Nat → ClassId) (sz : Nat) (k0 : Nat) (kr : Nat) (kt : Nat) (kf : Nat) (kc : Nat) (o : Nat) (lt : Nat → Int) (h : Nat) (a : Nat) (b : Nat) (c : Nat) (T : Nat) (E : Int) (C : Int) (G : Nat → Nat → Int) (j : Nat) (hT : T ≤ 20) (hG : GOK G) (hj : j < T) (hw : ∀ i, i < T → G i j ≠ -1 → 0 ≤ lt i ∧ lt i ≤ 8400) : MM l yX0_longestBefore wsX0_longestBefore rX0_longestBefore D ca [.ref k0, .ref h, .int (nI j)] sz [(k0, .inr (0, [.ref o, .ref kr, .ref kt, .ref kf, .ref kc])), (kt, .inl (ca 0, 20, .inl (zF lt))), (h, .inr (7, [.int (nI T), .int (iZ E), .int (iZ C), .ref a, .ref b, .ref c])), (c, .inl (ca 0, 400, .inl (zG G)))] (QI D ca (fun (r : Int32) (u : Unit) => r = iZ (mxB G lt j T)) (fun _ => [(k0, .inr (0, [.ref o, .ref kr, .ref kt, .ref kf, .ref kc])), (kt, .inl (ca 0, 20, .inl (zF lt))), (h, .inr (7, [.int (nI T), .int (iZ E), .int (iZ C), .ref a, .ref b, .ref c])), (c, .inl (ca 0, 400, .inl (zG G)))])) := by
  refine MM_of (cc := cX0_longestBefore) (maxL := 6) (ret := (some .int)) (lv0 := [(0, .ref k0), (1, .ref h), (2, .int (nI j))]) RX0 (by decide) rfl rfl (Nat.le_of_ble_eq_true rfl) rfl ?_
  intro pG eV s mI args below meth cO hx hb hr hml hts hown hlocks hnm A hA H locs hsz hP hK hD hS Q hE ls hl
  have f50 := hts (.fieldLink RX0 50 "SlackPlan$State" "tasks" "I") (List.mem_of_getElem? (i := 1) rfl)
  have inX7 : ∀ w ∈ u_ws RX7 TX7 6, w ∈ wsX0_longestBefore := in_r _ [18, 19, 20, 21, 22, 23] rfl
  have f22 := hts (.fieldLink RX0 22 "SlackPlan$Chains" "longestTo" "[I") (List.mem_of_getElem? (i := 2) rfl)
  have inX0 : ∀ w ∈ u_ws RX0 TX0 5, w ∈ wsX0_longestBefore := in_r _ [24, 25, 26, 27, 28] rfl
  have ml66 := hts (.methodLink RX0 66 Lib.Math.max.name) (List.mem_of_getElem? (i := 3) rfl)
  have stmax := hts (.static Lib.Math.max.name) (List.mem_of_getElem? (i := 4) rfl)
  have iniM := hts (.initialized "java/lang/Math") (List.mem_of_getElem? (i := 5) rfl)
  have cdmax := hts (.code Lib.Math.max.name Lib.Math.max.code 2 (some .int)) (List.mem_of_getElem? (i := 6) rfl)
  refine lv_iconst (v := nI (0)) hx hb dX0_longestBefore_0 (by decide) ?_
  refine lv_istore_n (lv' := [(3, .int (nI 0)), (0, .ref k0), (1, .ref h), (2, .int (nI j))]) hx hb dX0_longestBefore_1 rfl hl (by decide) rfl (fun ls hl => ?_)
  refine lv_iconst (v := nI (0)) hx hb dX0_longestBefore_2 (by decide) ?_
  refine lv_istore (lv' := [(4, .int (nI 0)), (3, .int (nI 0)), (0, .ref k0), (1, .ref h), (2, .int (nI j))]) hx hb dX0_longestBefore_3 hl (by decide) rfl (fun ls hl => ?_)
  have L5 : ∀ (fu : Nat) (k : Nat) (q : Int), (k ≤ T) → (q = mxB G lt j k) → (T - k) < fu → ∀ (H : Heap) (locs : List Loc), va_P D vwCl [(k0, .inr (0, [.ref o, .ref kr, .ref kt, .ref kf, .ref kc])), (kt, .inl (ca 0, 20, .inl (zF lt))), (h, .inr (7, [.int (nI T), .int (iZ E), .int (iZ C), .ref a, .ref b, .ref c])), (c, .inl (ca 0, 400, .inl (zG G)))] H → va_D A [(k0, .inr (0, [.ref o, .ref kr, .ref kt, .ref kf, .ref kc])), (kt, .inl (ca 0, 20, .inl (zF lt))), (h, .inr (7, [.int (nI T), .int (iZ E), .int (iZ C), .ref a, .ref b, .ref c])), (c, .inl (ca 0, 400, .inl (zG G)))] → va_S A s.heap H locs → ∀ ls : Array Slot, lv_has ls 6 [(4, .int (nI k)), (3, .int (iZ q)), (0, .ref k0), (1, .ref h), (2, .int (nI j))] → W pG l eV rX0_longestBefore s mI args below meth cO H locs 0 0 Q (F0 mI 5 ls []) := by
    clear hP hD hS hl
    intro fu; induction fu with
    | zero => intro k q hk hq hmu; exact absurd hmu (Nat.not_lt_zero _)
    | succ n5 ih5 =>
      intro k q hk hq hmu5 H locs hP hD hS ls hl
      refine lv_iload hx hb dX0_longestBefore_5 (lv_at hl 0 rfl) ?_
      refine lv_aload_n hx hb dX0_longestBefore_7 rfl (lv_at hl 3 rfl) ?_
      refine va_get (D := D) (ci := 7) (v := .int (nI T)) (C := RX7) (T := TX7) (N := 6) hx hb hts inX7 hown hK hP 2 rfl rfl 0 (by decide) f50 (fun _ h9 => h9) rfl dX0_longestBefore_8 ?_
      refine lv_icmp_ge (tgt := 50) hx hb dX0_longestBefore_11 (by decide) (fun h11 => ?_) (fun h11 => ?_)
      · skip
        have h11 := (cL (nI_toInt (by omega)) (nI_toInt (by omega))).mp h11
        refine lv_iload_n hx hb dX0_longestBefore_50 rfl (lv_at hl 1 rfl) ?_
        rw [← hE]
        exact xe_i () hx hb hr hlocks hK hP hD hS (by rw [hq, show k = T by omega]) dX0_longestBefore_51
      · skip
        have h11 := (not_congr (cL (nI_toInt (by omega)) (nI_toInt (by omega)))).mp h11
        refine lv_aload_n hx hb dX0_longestBefore_14 rfl (lv_at hl 3 rfl) ?_
        refine lv_iload hx hb dX0_longestBefore_15 (lv_at hl 0 rfl) ?_
        refine lv_iload_n hx hb dX0_longestBefore_17 rfl (lv_at hl 4 rfl) ?_
        refine xk_pi (xk_V (As := [.int (nI k), .int (nI j)]) (rest := []) ⟨hx, hb, hml, hown, hts⟩ (mX7_lag l D ca H.size h a b c T E C G k j (by omega) (by omega) (by omega)) (cwV 2 hts gX0_longestBefore_X7_lag rfl rfl rfl (by decide +kernel) ⟨Nat.le_of_ble_eq_true rfl, Nat.le_of_ble_eq_true rfl⟩) hK hP hD (va_recv (q := (RX7, TX7, 6)) hK hP (ci := 7) (q0 := 2) rfl rfl) [2, 3] rfl rfl rfl hl.1 rfl (Nat.le_of_ble_eq_true rfl) dX0_longestBefore_18 ⟨Nat.le_of_ble_eq_true rfl, Nat.le_of_ble_eq_true rfl⟩) hP hD hS hA [2, 3] rfl ⟨rfl, rfl⟩ (fun r18 H locs hw18 hP hS => ?_)
        have hw18 : r18 = iZ (G k j) := hw18
        subst hw18
        refine lv_istore (lv' := [(5, .int (iZ (G k j))), (4, .int (nI k)), (3, .int (iZ q)), (0, .ref k0), (1, .ref h), (2, .int (nI j))]) hx hb dX0_longestBefore_21 hl (by decide) rfl (fun ls hl => ?_)
        have hb1 := hG k j (by omega) (by omega)
        refine lv_iload hx hb dX0_longestBefore_23 (lv_at hl 0 rfl) ?_
        refine lv_iconst (v := iZ (-1)) hx hb dX0_longestBefore_25 (by decide) ?_
        refine lv_icmp_eq (tgt := 44) hx hb dX0_longestBefore_26 (by decide) (fun h26 => ?_) (fun h26 => ?_)
        · skip
          have h26 := (cE (iZ_toInt (by omega) (by omega)) (iZ_toInt (by omega) (by omega))).mp h26
          refine lv_iinc (v := nI (k + 1)) (lv' := [(4, .int (nI (k + 1))), (5, .int (iZ (G k j))), (3, .int (iZ q)), (0, .ref k0), (1, .ref h), (2, .int (nI j))]) hx hb dX0_longestBefore_44 hl (k := 1) rfl (nI_add _ 1) (by decide) rfl (fun ls hl => ?_)
          refine lv_goto (tgt := 5) hx hb dX0_longestBefore_47 (by decide) ?_
          exact ih5 (k + 1) q (by omega) (by rw [mxB, if_pos (show G k j = -1 from h26), hq]) (by omega) _ _ hP hD hS _ (lv_sub hl [0, 2, 3, 4, 5] rfl)
        · skip
          have h26 := (not_congr (cE (iZ_toInt (by omega) (by omega)) (iZ_toInt (by omega) (by omega)))).mp h26
          have b1 := mxB_rng (w := lt) (show k ≤ 20 by omega) (show j < 20 by omega) hG (fun i9 h9 hg => (hw i9 (by omega) hg).2)
          have b2 := hw k (by omega) h26
          refine lv_iload_n hx hb dX0_longestBefore_29 rfl (lv_at hl 2 rfl) ?_
          refine lv_aload_n hx hb dX0_longestBefore_30 rfl (lv_at hl 3 rfl) ?_
          refine va_get (D := D) (ci := 0) (v := .ref kt) (C := RX0) (T := TX0) (N := 5) hx hb hts inX0 hown hK hP 0 rfl rfl 2 (by decide) f22 (fun _ h9 => h9) rfl dX0_longestBefore_31 ?_
          refine lv_iload hx hb dX0_longestBefore_34 (lv_at hl 1 rfl) ?_
          refine xr_iald hx hb hK hP 1 0 rfl rfl (by omega) (Nat.le_of_ble_eq_true rfl) (v := iZ (lt k)) rfl dX0_longestBefore_36 ?_
          refine lv_iload hx hb dX0_longestBefore_37 (lv_at hl 0 rfl) ?_
          refine xr_iadd_zz hx hb dX0_longestBefore_39 ?_
          refine va_mmax hx hb (by rw [hml]; exact hl.1.symm) hown ml66 stmax iniM cdmax (Nat.le_of_ble_eq_true rfl) (Nat.le_of_ble_eq_true rfl) (Nat.zero_le _) (Nat.zero_le _) dX0_longestBefore_40 ?_
          refine xr_top (y := iZ (max q ((lt k) + (G k j)))) (imax (iZ_toInt (by omega) (by omega)) (iZ_toInt (by omega) (by omega))) ?_
          refine lv_istore_n (lv' := [(3, .int (iZ (max q ((lt k) + (G k j))))), (5, .int (iZ (G k j))), (4, .int (nI k)), (0, .ref k0), (1, .ref h), (2, .int (nI j))]) hx hb dX0_longestBefore_43 rfl hl (by decide) rfl (fun ls hl => ?_)
          refine lv_iinc (v := nI (k + 1)) (lv' := [(4, .int (nI (k + 1))), (3, .int (iZ (max q ((lt k) + (G k j))))), (5, .int (iZ (G k j))), (0, .ref k0), (1, .ref h), (2, .int (nI j))]) hx hb dX0_longestBefore_44 hl (k := 2) rfl (nI_add _ 1) (by decide) rfl (fun ls hl => ?_)
          refine lv_goto (tgt := 5) hx hb dX0_longestBefore_47 (by decide) ?_
          exact ih5 (k + 1) (max q ((lt k) + (G k j))) (by omega) (by rw [mxB, if_neg (show ¬ G k j = -1 from h26), hq]) (by omega) _ _ hP hD hS _ (lv_sub hl [0, 1, 3, 4, 5] rfl)
  exact L5 _ 0 ((0 : Nat) : Int) (by omega) rfl (Nat.lt_succ_self _) _ _ hP hD hS _ (lv_sub hl [0, 1, 2, 3, 4] rfl)
def rX0_longestBehind : Room := { frames := 2, cells := 0, slots := 0, locals := 43 }
set_option maxHeartbeats 4000000 in
set_option maxRecDepth 100000 in
theorem mX0_longestBehind (l : Launch) (D : va_G) (ca : Nat → ClassId) (sz : Nat) (k0 : Nat) (kr : Nat) (kt : Nat) (kf : Nat) (kc : Nat) (o : Nat) (lf : Nat → Int) (h : Nat) (a : Nat) (b : Nat) (c : Nat) (T : Nat) (E : Int) (C : Int) (G : Nat → Nat → Int) (j : Nat) (hT : T ≤ 20) (hG : GOK G) (hj : j < T) (hw : ∀ i, i < T → trG G i j ≠ -1 → 0 ≤ lf i ∧ lf i ≤ 8400) : MM l yX0_longestBehind wsX0_longestBehind rX0_longestBehind D ca [.ref k0, .ref h, .int (nI j)] sz [(k0, .inr (0, [.ref o, .ref kr, .ref kt, .ref kf, .ref kc])), (kf, .inl (ca 0, 20, .inl (zF lf))), (h, .inr (7, [.int (nI T), .int (iZ E), .int (iZ C), .ref a, .ref b, .ref c])), (c, .inl (ca 0, 400, .inl (zG G)))] (QI D ca (fun (r : Int32) (u : Unit) => r = iZ (mxB (trG G) lf j T)) (fun _ => [(k0, .inr (0, [.ref o, .ref kr, .ref kt, .ref kf, .ref kc])), (kf, .inl (ca 0, 20, .inl (zF lf))), (h, .inr (7, [.int (nI T), .int (iZ E), .int (iZ C), .ref a, .ref b, .ref c])), (c, .inl (ca 0, 400, .inl (zG G)))])) := by
  refine MM_of (cc := cX0_longestBehind) (maxL := 6) (ret := (some .int)) (lv0 := [(0, .ref k0), (1, .ref h), (2, .int (nI j))]) RX0 (by decide) rfl rfl (Nat.le_of_ble_eq_true rfl) rfl ?_
  intro pG eV s mI args below meth cO hx hb hr hml hts hown hlocks hnm A hA H locs hsz hP hK hD hS Q hE ls hl
  have f50 := hts (.fieldLink RX0 50 "SlackPlan$State" "tasks" "I") (List.mem_of_getElem? (i := 1) rfl)
  have inX7 : ∀ w ∈ u_ws RX7 TX7 6, w ∈ wsX0_longestBehind := in_r _ [18, 19, 20, 21, 22, 23] rfl
  have f26 := hts (.fieldLink RX0 26 "SlackPlan$Chains" "longestFrom" "[I") (List.mem_of_getElem? (i := 2) rfl)
  have inX0 : ∀ w ∈ u_ws RX0 TX0 5, w ∈ wsX0_longestBehind := in_r _ [24, 25, 26, 27, 28] rfl
  have ml66 := hts (.methodLink RX0 66 Lib.Math.max.name) (List.mem_of_getElem? (i := 3) rfl)
  have stmax := hts (.static Lib.Math.max.name) (List.mem_of_getElem? (i := 4) rfl)
  have iniM := hts (.initialized "java/lang/Math") (List.mem_of_getElem? (i := 5) rfl)
  have cdmax := hts (.code Lib.Math.max.name Lib.Math.max.code 2 (some .int)) (List.mem_of_getElem? (i := 6) rfl)
  refine lv_iconst (v := nI (0)) hx hb dX0_longestBehind_0 (by decide) ?_
  refine lv_istore_n (lv' := [(3, .int (nI 0)), (0, .ref k0), (1, .ref h), (2, .int (nI j))]) hx hb dX0_longestBehind_1 rfl hl (by decide) rfl (fun ls hl => ?_)
  refine lv_iconst (v := nI (0)) hx hb dX0_longestBehind_2 (by decide) ?_
  refine lv_istore (lv' := [(4, .int (nI 0)), (3, .int (nI 0)), (0, .ref k0), (1, .ref h), (2, .int (nI j))]) hx hb dX0_longestBehind_3 hl (by decide) rfl (fun ls hl => ?_)
  have L5 : ∀ (fu : Nat) (k : Nat) (q : Int), (k ≤ T) → (q = mxB (trG G) lf j k) → (T - k) < fu → ∀ (H : Heap) (locs : List Loc), va_P D vwCl [(k0, .inr (0, [.ref o, .ref kr, .ref kt, .ref kf, .ref kc])), (kf, .inl (ca 0, 20, .inl (zF lf))), (h, .inr (7, [.int (nI T), .int (iZ E), .int (iZ C), .ref a, .ref b, .ref c])), (c, .inl (ca 0, 400, .inl (zG G)))] H → va_D A [(k0, .inr (0, [.ref o, .ref kr, .ref kt, .ref kf, .ref kc])), (kf, .inl (ca 0, 20, .inl (zF lf))), (h, .inr (7, [.int (nI T), .int (iZ E), .int (iZ C), .ref a, .ref b, .ref c])), (c, .inl (ca 0, 400, .inl (zG G)))] → va_S A s.heap H locs → ∀ ls : Array Slot, lv_has ls 6 [(4, .int (nI k)), (3, .int (iZ q)), (0, .ref k0), (1, .ref h), (2, .int (nI j))] → W pG l eV rX0_longestBehind s mI args below meth cO H locs 0 0 Q (F0 mI 5 ls []) := by
    clear hP hD hS hl
    intro fu; induction fu with
    | zero => intro k q hk hq hmu; exact absurd hmu (Nat.not_lt_zero _)
    | succ n5 ih5 =>
      intro k q hk hq hmu5 H locs hP hD hS ls hl
      refine lv_iload hx hb dX0_longestBehind_5 (lv_at hl 0 rfl) ?_
      refine lv_aload_n hx hb dX0_longestBehind_7 rfl (lv_at hl 3 rfl) ?_
      refine va_get (D := D) (ci := 7) (v := .int (nI T)) (C := RX7) (T := TX7) (N := 6) hx hb hts inX7 hown hK hP 2 rfl rfl 0 (by decide) f50 (fun _ h9 => h9) rfl dX0_longestBehind_8 ?_
      refine lv_icmp_ge (tgt := 50) hx hb dX0_longestBehind_11 (by decide) (fun h11 => ?_) (fun h11 => ?_)
      · skip
        have h11 := (cL (nI_toInt (by omega)) (nI_toInt (by omega))).mp h11
        refine lv_iload_n hx hb dX0_longestBehind_50 rfl (lv_at hl 1 rfl) ?_
        rw [← hE]
        exact xe_i () hx hb hr hlocks hK hP hD hS (by rw [hq, show k = T by omega]) dX0_longestBehind_51
      · skip
        have h11 := (not_congr (cL (nI_toInt (by omega)) (nI_toInt (by omega)))).mp h11
        refine lv_aload_n hx hb dX0_longestBehind_14 rfl (lv_at hl 3 rfl) ?_
        refine lv_iload_n hx hb dX0_longestBehind_15 rfl (lv_at hl 4 rfl) ?_
        refine lv_iload hx hb dX0_longestBehind_16 (lv_at hl 0 rfl) ?_
        refine xk_pi (xk_V (As := [.int (nI j), .int (nI k)]) (rest := []) ⟨hx, hb, hml, hown, hts⟩ (mX7_lag l D ca H.size h a b c T E C G j k (by omega) (by omega) (by omega)) (cwV 2 hts gX0_longestBehind_X7_lag rfl rfl rfl (by decide +kernel) ⟨Nat.le_of_ble_eq_true rfl, Nat.le_of_ble_eq_true rfl⟩) hK hP hD (va_recv (q := (RX7, TX7, 6)) hK hP (ci := 7) (q0 := 2) rfl rfl) [2, 3] rfl rfl rfl hl.1 rfl (Nat.le_of_ble_eq_true rfl) dX0_longestBehind_18 ⟨Nat.le_of_ble_eq_true rfl, Nat.le_of_ble_eq_true rfl⟩) hP hD hS hA [2, 3] rfl ⟨rfl, rfl⟩ (fun r18 H locs hw18 hP hS => ?_)
        have hw18 : r18 = iZ (G j k) := hw18
        subst hw18
        refine lv_istore (lv' := [(5, .int (iZ (G j k))), (4, .int (nI k)), (3, .int (iZ q)), (0, .ref k0), (1, .ref h), (2, .int (nI j))]) hx hb dX0_longestBehind_21 hl (by decide) rfl (fun ls hl => ?_)
        have hb1 := hG j k (by omega) (by omega)
        have hb2 : trG G k j = G j k := rfl
        refine lv_iload hx hb dX0_longestBehind_23 (lv_at hl 0 rfl) ?_
        refine lv_iconst (v := iZ (-1)) hx hb dX0_longestBehind_25 (by decide) ?_
        refine lv_icmp_eq (tgt := 44) hx hb dX0_longestBehind_26 (by decide) (fun h26 => ?_) (fun h26 => ?_)
        · skip
          have h26 := (cE (iZ_toInt (by omega) (by omega)) (iZ_toInt (by omega) (by omega))).mp h26
          refine lv_iinc (v := nI (k + 1)) (lv' := [(4, .int (nI (k + 1))), (5, .int (iZ (G j k))), (3, .int (iZ q)), (0, .ref k0), (1, .ref h), (2, .int (nI j))]) hx hb dX0_longestBehind_44 hl (k := 1) rfl (nI_add _ 1) (by decide) rfl (fun ls hl => ?_)
          refine lv_goto (tgt := 5) hx hb dX0_longestBehind_47 (by decide) ?_
          exact ih5 (k + 1) q (by omega) (by rw [mxB, if_pos (show (trG G) k j = -1 from h26), hq]) (by omega) _ _ hP hD hS _ (lv_sub hl [0, 2, 3, 4, 5] rfl)
        · skip
          have h26 := (not_congr (cE (iZ_toInt (by omega) (by omega)) (iZ_toInt (by omega) (by omega)))).mp h26
          have b1 := mxB_rng (w := lf) (show k ≤ 20 by omega) (show j < 20 by omega) (trG_ok hG) (fun i9 h9 hg => (hw i9 (by omega) hg).2)
          have b2 := hw k (by omega) h26
          refine lv_iload_n hx hb dX0_longestBehind_29 rfl (lv_at hl 2 rfl) ?_
          refine lv_iload hx hb dX0_longestBehind_30 (lv_at hl 0 rfl) ?_
          refine lv_aload_n hx hb dX0_longestBehind_32 rfl (lv_at hl 3 rfl) ?_
          refine va_get (D := D) (ci := 0) (v := .ref kf) (C := RX0) (T := TX0) (N := 5) hx hb hts inX0 hown hK hP 0 rfl rfl 3 (by decide) f26 (fun _ h9 => h9) rfl dX0_longestBehind_33 ?_
          refine lv_iload hx hb dX0_longestBehind_36 (lv_at hl 1 rfl) ?_
          refine xr_iald hx hb hK hP 1 0 rfl rfl (by omega) (Nat.le_of_ble_eq_true rfl) (v := iZ (lf k)) rfl dX0_longestBehind_38 ?_
          refine xr_iadd_zz hx hb dX0_longestBehind_39 ?_
          refine xr_top (y := iZ (lf k + trG G k j)) (by rw [Int.add_comm]; rfl) ?_
          refine va_mmax hx hb (by rw [hml]; exact hl.1.symm) hown ml66 stmax iniM cdmax (Nat.le_of_ble_eq_true rfl) (Nat.le_of_ble_eq_true rfl) (Nat.zero_le _) (Nat.zero_le _) dX0_longestBehind_40 ?_
          refine xr_top (y := iZ (max q (lf k + trG G k j))) (imax (iZ_toInt (by omega) (by omega)) (iZ_toInt (by omega) (by omega))) ?_
          refine lv_istore_n (lv' := [(3, .int (iZ (max q (lf k + trG G k j)))), (5, .int (iZ (G j k))), (4, .int (nI k)), (0, .ref k0), (1, .ref h), (2, .int (nI j))]) hx hb dX0_longestBehind_43 rfl hl (by decide) rfl (fun ls hl => ?_)
          refine lv_iinc (v := nI (k + 1)) (lv' := [(4, .int (nI (k + 1))), (3, .int (iZ (max q (lf k + trG G k j)))), (5, .int (iZ (G j k))), (0, .ref k0), (1, .ref h), (2, .int (nI j))]) hx hb dX0_longestBehind_44 hl (k := 2) rfl (nI_add _ 1) (by decide) rfl (fun ls hl => ?_)
          refine lv_goto (tgt := 5) hx hb dX0_longestBehind_47 (by decide) ?_
          exact ih5 (k + 1) (max q (lf k + trG G k j)) (by omega) (by rw [mxB, if_neg (show ¬ (trG G) k j = -1 from h26), hq]) (by omega) _ _ hP hD hS _ (lv_sub hl [0, 1, 3, 4, 5] rfl)
  exact L5 _ 0 ((0 : Nat) : Int) (by omega) rfl (Nat.lt_succ_self _) _ _ hP hD hS _ (lv_sub hl [0, 1, 2, 3, 4] rfl)
def rX0_longestWith : Room := { frames := 4, cells := 0, slots := 0, locals := 89 }
set_option maxHeartbeats 4000000 in
set_option maxRecDepth 100000 in
/-- longestWith(plan, task) -/
theorem mX0_longestWith (l : Launch) (D : va_G) (ca : Nat → ClassId) (sz : Nat) (k0 : Nat) (kr : Nat) (kt : Nat) (kf : Nat) (kc : Nat) (o : Nat) (ot : Nat) (ow : Nat) (z : Nat) (od : Nat → Nat) (wt : Nat → Int) (lt : Nat → Int) (lf : Nat → Int) (h : Nat) (a : Nat) (b : Nat) (c : Nat) (T : Nat) (E : Int) (C : Int) (L : Nat → Int) (G : Nat → Nat → Int) (i : Nat) (hT : T ≤ 20) (hG : GOK G) (hac : ACY G T) (hL : LOK T L) (hi : i < T) : MM l yX0_longestWith wsX0_longestWith rX0_longestWith D ca [.ref k0, .ref h, .int (nI i)] sz [(k0, .inr (0, [.ref o, .ref kr, .ref kt, .ref kf, .ref kc])), (kt, .inl (ca 0, 20, .inl (zF lt))), (kf, .inl (ca 0, 20, .inl (zF lf))), (o, .inr (3, [.int (nI z), .ref ot, .ref ow])), (ot, .inl (ca 0, 20, .inl (nF od))), (ow, .inl (ca 0, 20, .inl (zF wt))), (h, .inr (7, [.int (nI T), .int (iZ E), .int (iZ C), .ref a, .ref b, .ref c])), (a, .inl (ca 0, 20, .inl (zF L))), (c, .inl (ca 0, 400, .inl (zG G)))] (QI D ca (fun (r : Int32) (u : Nat × (Nat → Nat) × (Nat → Int) × (Nat → Int) × (Nat → Int)) => r = iZ (es G T L i + L i + es (trG G) T L i)) (fun u => [(k0, .inr (0, [.ref o, .ref kr, .ref kt, .ref kf, .ref kc])), (kt, .inl (ca 0, 20, .inl (zF u.2.2.2.1))), (kf, .inl (ca 0, 20, .inl (zF u.2.2.2.2))), (o, .inr (3, [.int (nI u.1), .ref ot, .ref ow])), (ot, .inl (ca 0, 20, .inl (nF u.2.1))), (ow, .inl (ca 0, 20, .inl (zF u.2.2.1))), (h, .inr (7, [.int (nI T), .int (iZ E), .int (iZ C), .ref a, .ref b, .ref c])), (a, .inl (ca 0, 20, .inl (zF L))), (c, .inl (ca 0, 400, .inl (zG G)))])) := by
  refine MM_of (cc := cX0_longestWith) (maxL := 5) (ret := (some .int)) (lv0 := [(0, .ref k0), (1, .ref h), (2, .int (nI i))]) RX0 (by decide) rfl rfl (Nat.le_of_ble_eq_true rfl) rfl ?_
  intro pG eV s mI args below meth cO hx hb hr hml hts hown hlocks hnm A hA H locs hsz hP hK hD hS Q hE ls hl
  have f12 := hts (.fieldLink RX0 12 "SlackPlan$Chains" "order" "LSlackPlan$Order;") (List.mem_of_getElem? (i := 1) rfl)
  have inX0 : ∀ w ∈ u_ws RX0 TX0 5, w ∈ wsX0_longestWith := in_r _ [52, 53, 54, 55, 56] rfl
  have f43 := hts (.fieldLink RX0 43 "SlackPlan$Order" "size" "I") (List.mem_of_getElem? (i := 2) rfl)
  have inX3 : ∀ w ∈ u_ws RX3 TX3 3, w ∈ wsX0_longestWith := in_r _ [57, 58, 59] rfl
  have f22 := hts (.fieldLink RX0 22 "SlackPlan$Chains" "longestTo" "[I") (List.mem_of_getElem? (i := 4) rfl)
  have f26 := hts (.fieldLink RX0 26 "SlackPlan$Chains" "longestFrom" "[I") (List.mem_of_getElem? (i := 6) rfl)
  have f56 := hts (.fieldLink RX0 56 "SlackPlan$State" "lengths" "[I") (List.mem_of_getElem? (i := 5) rfl)
  have inX7 : ∀ w ∈ u_ws RX7 TX7 6, w ∈ wsX0_longestWith := in_r _ [60, 61, 62, 63, 64, 65] rfl
  have f47 := hts (.fieldLink RX0 47 "SlackPlan$Order" "tasks" "[I") (List.mem_of_getElem? (i := 3) rfl)
  refine lv_aload_n hx hb dX0_longestWith_0 rfl (lv_at hl 1 rfl) ?_
  refine lv_iload_n hx hb dX0_longestWith_1 rfl (lv_at hl 2 rfl) ?_
  refine xk_pi (xk_V (As := [.int (nI i)]) (rest := []) ⟨hx, hb, hml, hown, hts⟩ (mX7_has l D ca H.size h a b c T E C (nI (i)) (by omega)) (cwV 1 hts gX0_longestWith_X7_has rfl rfl rfl (by decide +kernel) ⟨Nat.le_of_ble_eq_true rfl, Nat.le_of_ble_eq_true rfl⟩) hK hP hD (va_recv (q := (RX7, TX7, 6)) hK hP (ci := 7) (q0 := 6) rfl rfl) [6] rfl rfl rfl hl.1 rfl (Nat.le_of_ble_eq_true rfl) dX0_longestWith_2 ⟨Nat.le_of_ble_eq_true rfl, Nat.le_of_ble_eq_true rfl⟩) hP hD hS hA [6] rfl ⟨rfl, rfl⟩ (fun r2 H locs hw2 hP hS => ?_)
  have hw2 : r2 = bI (hasB T (nI (i))) := hw2
  subst hw2
  refine lv_if_ne (tgt := 10) hx hb dX0_longestWith_5 (by decide) (fun h5 => ?_) (fun h5 => ?_)
  · skip
    have h5 := bI_n0.mp h5
    refine lv_aload_n hx hb dX0_longestWith_10 rfl (lv_at hl 0 rfl) ?_
    refine va_get (D := D) (ci := 0) (v := .ref o) (C := RX0) (T := TX0) (N := 5) hx hb hts inX0 hown hK hP 0 rfl rfl 0 (by decide) f12 (fun _ h9 => h9) rfl dX0_longestWith_11 ?_
    refine lv_aload_n hx hb dX0_longestWith_14 rfl (lv_at hl 1 rfl) ?_
    refine xk_v [(k0, .inr (0, [.ref o, .ref kr, .ref kt, .ref kf, .ref kc])), (kt, .inl (ca 0, 20, .inl (zF lt))), (kf, .inl (ca 0, 20, .inl (zF lf))), (a, .inl (ca 0, 20, .inl (zF L)))] (fun u => [(k0, .inr (0, [.ref o, .ref kr, .ref kt, .ref kf, .ref kc])), (kt, .inl (ca 0, 20, .inl (zF lt))), (kf, .inl (ca 0, 20, .inl (zF lf))), (o, .inr (3, [.int (nI T), .ref ot, .ref ow])), (ot, .inl (ca 0, 20, .inl (nF u.1))), (ow, .inl (ca 0, 20, .inl (zF u.2))), (h, .inr (7, [.int (nI T), .int (iZ E), .int (iZ C), .ref a, .ref b, .ref c])), (a, .inl (ca 0, 20, .inl (zF L))), (c, .inl (ca 0, 400, .inl (zG G)))]) (xk_V (As := [.ref h]) (rest := []) ⟨hx, hb, hml, hown, hts⟩ (mX3_sort l D ca H.size o ot ow z od wt h a b c T E C G (by omega) hG hac) (cwV 1 hts gX0_longestWith_X3_sort rfl rfl rfl (by decide +kernel) ⟨Nat.le_of_ble_eq_true rfl, Nat.le_of_ble_eq_true rfl⟩) hK hP hD (va_recv (q := (RX3, TX3, 3)) hK hP (ci := 3) (q0 := 3) rfl rfl) [3, 4, 5, 6, 8] rfl rfl rfl hl.1 rfl (Nat.le_of_ble_eq_true rfl) dX0_longestWith_15 ⟨Nat.le_of_ble_eq_true rfl, Nat.le_of_ble_eq_true rfl⟩) hP hD hS hA [3, 4, 5, 6, 8] [0, 1, 2, 7] [0, 1, 2, 4, 5, 6, 7, 3, 8] rfl rfl rfl rfl (fun _ => rfl) rfl (fun u15 H locs hw15 hP hD hS => ?_)
    obtain ⟨od115, wt115⟩ := u15
    have hw15 : TOPO G T od115 := hw15
    have hP : va_P D vwCl [(k0, .inr (0, [.ref o, .ref kr, .ref kt, .ref kf, .ref kc])), (kt, .inl (ca 0, 20, .inl (zF lt))), (kf, .inl (ca 0, 20, .inl (zF lf))), (o, .inr (3, [.int (nI T), .ref ot, .ref ow])), (ot, .inl (ca 0, 20, .inl (nF od115))), (ow, .inl (ca 0, 20, .inl (zF wt115))), (h, .inr (7, [.int (nI T), .int (iZ E), .int (iZ C), .ref a, .ref b, .ref c])), (a, .inl (ca 0, 20, .inl (zF L))), (c, .inl (ca 0, 400, .inl (zG G)))] H := hP
    have hD : va_D A [(k0, .inr (0, [.ref o, .ref kr, .ref kt, .ref kf, .ref kc])), (kt, .inl (ca 0, 20, .inl (zF lt))), (kf, .inl (ca 0, 20, .inl (zF lf))), (o, .inr (3, [.int (nI T), .ref ot, .ref ow])), (ot, .inl (ca 0, 20, .inl (nF od115))), (ow, .inl (ca 0, 20, .inl (zF wt115))), (h, .inr (7, [.int (nI T), .int (iZ E), .int (iZ C), .ref a, .ref b, .ref c])), (a, .inl (ca 0, 20, .inl (zF L))), (c, .inl (ca 0, 400, .inl (zG G)))] := hD
    refine lv_iconst (v := nI (0)) hx hb dX0_longestWith_18 (by decide) ?_
    refine lv_istore_n (lv' := [(3, .int (nI 0)), (0, .ref k0), (1, .ref h), (2, .int (nI i))]) hx hb dX0_longestWith_19 rfl hl (by decide) rfl (fun ls hl => ?_)
    have L20 : ∀ (fu : Nat) (pl : Nat) (lt2 : Nat → Int), (pl ≤ T) → (LT1 G T L od115 pl lt2) → (T - pl) < fu → ∀ (H : Heap) (locs : List Loc), va_P D vwCl [(k0, .inr (0, [.ref o, .ref kr, .ref kt, .ref kf, .ref kc])), (kt, .inl (ca 0, 20, .inl (zF lt2))), (kf, .inl (ca 0, 20, .inl (zF lf))), (o, .inr (3, [.int (nI T), .ref ot, .ref ow])), (ot, .inl (ca 0, 20, .inl (nF od115))), (ow, .inl (ca 0, 20, .inl (zF wt115))), (h, .inr (7, [.int (nI T), .int (iZ E), .int (iZ C), .ref a, .ref b, .ref c])), (a, .inl (ca 0, 20, .inl (zF L))), (c, .inl (ca 0, 400, .inl (zG G)))] H → va_D A [(k0, .inr (0, [.ref o, .ref kr, .ref kt, .ref kf, .ref kc])), (kt, .inl (ca 0, 20, .inl (zF lt2))), (kf, .inl (ca 0, 20, .inl (zF lf))), (o, .inr (3, [.int (nI T), .ref ot, .ref ow])), (ot, .inl (ca 0, 20, .inl (nF od115))), (ow, .inl (ca 0, 20, .inl (zF wt115))), (h, .inr (7, [.int (nI T), .int (iZ E), .int (iZ C), .ref a, .ref b, .ref c])), (a, .inl (ca 0, 20, .inl (zF L))), (c, .inl (ca 0, 400, .inl (zG G)))] → va_S A s.heap H locs → ∀ ls : Array Slot, lv_has ls 5 [(3, .int (nI pl)), (0, .ref k0), (1, .ref h), (2, .int (nI i))] → W pG l eV rX0_longestWith s mI args below meth cO H locs 0 0 Q (F0 mI 20 ls []) := by
      clear hP hD hS hl
      intro fu; induction fu with
      | zero => intro pl lt2 hpl hA1 hmu; exact absurd hmu (Nat.not_lt_zero _)
      | succ n20 ih20 =>
        intro pl lt2 hpl hA1 hmu20 H locs hP hD hS ls hl
        refine lv_iload_n hx hb dX0_longestWith_20 rfl (lv_at hl 0 rfl) ?_
        refine lv_aload_n hx hb dX0_longestWith_21 rfl (lv_at hl 1 rfl) ?_
        refine va_get (D := D) (ci := 0) (v := .ref o) (C := RX0) (T := TX0) (N := 5) hx hb hts inX0 hown hK hP 0 rfl rfl 0 (by decide) f12 (fun _ h9 => h9) rfl dX0_longestWith_22 ?_
        refine va_get (D := D) (ci := 3) (v := .int (nI T)) (C := RX3) (T := TX3) (N := 3) hx hb hts inX3 hown hK hP 3 rfl rfl 0 (by decide) f43 (fun _ h9 => h9) rfl dX0_longestWith_25 ?_
        refine lv_icmp_ge (tgt := 70) hx hb dX0_longestWith_28 (by decide) (fun h28 => ?_) (fun h28 => ?_)
        · skip
          have h28 := (cL (nI_toInt (by omega)) (nI_toInt (by omega))).mp h28
          refine lv_aload_n hx hb dX0_longestWith_70 rfl (lv_at hl 1 rfl) ?_
          refine va_get (D := D) (ci := 0) (v := .ref o) (C := RX0) (T := TX0) (N := 5) hx hb hts inX0 hown hK hP 0 rfl rfl 0 (by decide) f12 (fun _ h9 => h9) rfl dX0_longestWith_71 ?_
          refine va_get (D := D) (ci := 3) (v := .int (nI T)) (C := RX3) (T := TX3) (N := 3) hx hb hts inX3 hown hK hP 3 rfl rfl 0 (by decide) f43 (fun _ h9 => h9) rfl dX0_longestWith_74 ?_
          refine lv_iconst (v := nI (1)) hx hb dX0_longestWith_77 (by decide) ?_
          refine xr_isub_nn hx hb dX0_longestWith_78 ?_
          refine lv_istore_n (lv' := [(3, .int (iZ (((T : Nat) : Int) - 1))), (0, .ref k0), (1, .ref h), (2, .int (nI i))]) hx hb dX0_longestWith_79 rfl hl (by decide) rfl (fun ls hl => ?_)
          have L80 : ∀ (fu : Nat) (q : Nat) (lf2 : Nat → Int), (q ≤ T) → (LT2 G T L od115 q lf2) → q < fu → ∀ (H : Heap) (locs : List Loc), va_P D vwCl [(k0, .inr (0, [.ref o, .ref kr, .ref kt, .ref kf, .ref kc])), (kt, .inl (ca 0, 20, .inl (zF lt2))), (kf, .inl (ca 0, 20, .inl (zF lf2))), (o, .inr (3, [.int (nI T), .ref ot, .ref ow])), (ot, .inl (ca 0, 20, .inl (nF od115))), (ow, .inl (ca 0, 20, .inl (zF wt115))), (h, .inr (7, [.int (nI T), .int (iZ E), .int (iZ C), .ref a, .ref b, .ref c])), (a, .inl (ca 0, 20, .inl (zF L))), (c, .inl (ca 0, 400, .inl (zG G)))] H → va_D A [(k0, .inr (0, [.ref o, .ref kr, .ref kt, .ref kf, .ref kc])), (kt, .inl (ca 0, 20, .inl (zF lt2))), (kf, .inl (ca 0, 20, .inl (zF lf2))), (o, .inr (3, [.int (nI T), .ref ot, .ref ow])), (ot, .inl (ca 0, 20, .inl (nF od115))), (ow, .inl (ca 0, 20, .inl (zF wt115))), (h, .inr (7, [.int (nI T), .int (iZ E), .int (iZ C), .ref a, .ref b, .ref c])), (a, .inl (ca 0, 20, .inl (zF L))), (c, .inl (ca 0, 400, .inl (zG G)))] → va_S A s.heap H locs → ∀ ls : Array Slot, lv_has ls 5 [(3, .int (iZ (((q : Nat) : Int) - 1))), (0, .ref k0), (1, .ref h), (2, .int (nI i))] → W pG l eV rX0_longestWith s mI args below meth cO H locs 0 0 Q (F0 mI 80 ls []) := by
            clear hP hD hS hl
            intro fu; induction fu with
            | zero => intro q lf2 hq hB hmu; exact absurd hmu (Nat.not_lt_zero _)
            | succ n80 ih80 =>
              intro q lf2 hq hB hmu80 H locs hP hD hS ls hl
              refine lv_iload_n hx hb dX0_longestWith_80 rfl (lv_at hl 0 rfl) ?_
              refine lv_if_lt (tgt := 123) hx hb dX0_longestWith_81 (by decide) (fun h81 => ?_) (fun h81 => ?_)
              · skip
                have h81 := (cT (iZ_toInt (by omega) (by omega)) z0_toInt).mp h81
                have hq0 : q = 0 := by omega
                rw [hq0] at hB
                refine lv_aload_n hx hb dX0_longestWith_123 rfl (lv_at hl 1 rfl) ?_
                refine va_get (D := D) (ci := 0) (v := .ref kt) (C := RX0) (T := TX0) (N := 5) hx hb hts inX0 hown hK hP 0 rfl rfl 2 (by decide) f22 (fun _ h9 => h9) rfl dX0_longestWith_124 ?_
                refine lv_iload_n hx hb dX0_longestWith_127 rfl (lv_at hl 3 rfl) ?_
                refine xr_iald hx hb hK hP 1 0 rfl rfl (by omega) (Nat.le_of_ble_eq_true rfl) (v := iZ (lt2 i)) rfl dX0_longestWith_128 ?_
                refine lv_aload_n hx hb dX0_longestWith_129 rfl (lv_at hl 1 rfl) ?_
                refine va_get (D := D) (ci := 0) (v := .ref kf) (C := RX0) (T := TX0) (N := 5) hx hb hts inX0 hown hK hP 0 rfl rfl 3 (by decide) f26 (fun _ h9 => h9) rfl dX0_longestWith_130 ?_
                refine lv_iload_n hx hb dX0_longestWith_133 rfl (lv_at hl 3 rfl) ?_
                refine xr_iald hx hb hK hP 2 0 rfl rfl (by omega) (Nat.le_of_ble_eq_true rfl) (v := iZ (lf2 i)) rfl dX0_longestWith_134 ?_
                refine xr_iadd_zz hx hb dX0_longestWith_135 ?_
                refine lv_aload_n hx hb dX0_longestWith_136 rfl (lv_at hl 2 rfl) ?_
                refine va_get (D := D) (ci := 7) (v := .ref a) (C := RX7) (T := TX7) (N := 6) hx hb hts inX7 hown hK hP 6 rfl rfl 3 (by decide) f56 (fun _ h9 => h9) rfl dX0_longestWith_137 ?_
                refine lv_iload_n hx hb dX0_longestWith_140 rfl (lv_at hl 3 rfl) ?_
                refine xr_iald hx hb hK hP 7 0 rfl rfl (by omega) (Nat.le_of_ble_eq_true rfl) (v := iZ (L i)) rfl dX0_longestWith_141 ?_
                refine xr_isub_zz hx hb dX0_longestWith_142 ?_
                rw [← hE]
                exact xe_i (T, od115, wt115, lt2, lf2) hx hb hr hlocks hK hP hD hS (congrArg iZ (by rw [LT1_T hA1 hw15 (by omega) hi, LT2_T hB hw15 hi]; omega)) dX0_longestWith_143
              · skip
                have h81 := (not_congr (cT (iZ_toInt (by omega) (by omega)) z0_toInt)).mp h81
                obtain ⟨k, hk⟩ : ∃ k, q = k + 1 := ⟨q - 1, by omega⟩
                rw [hk] at hB
                have e9 : iZ (((q : Nat) : Int) - 1) = nI (k) := (by rw [iZ_n]; exact congrArg iZ (by omega))
                have hl : lv_has ls 5 [(3, .int (nI k)), (0, .ref k0), (1, .ref h), (2, .int (nI i))] := by rw [← e9]; exact hl
                refine lv_aload_n hx hb dX0_longestWith_84 rfl (lv_at hl 1 rfl) ?_
                refine va_get (D := D) (ci := 0) (v := .ref o) (C := RX0) (T := TX0) (N := 5) hx hb hts inX0 hown hK hP 0 rfl rfl 0 (by decide) f12 (fun _ h9 => h9) rfl dX0_longestWith_85 ?_
                refine va_get (D := D) (ci := 3) (v := .ref ot) (C := RX3) (T := TX3) (N := 3) hx hb hts inX3 hown hK hP 3 rfl rfl 1 (by decide) f47 (fun _ h9 => h9) rfl dX0_longestWith_88 ?_
                refine lv_iload_n hx hb dX0_longestWith_91 rfl (lv_at hl 0 rfl) ?_
                refine xr_iald hx hb hK hP 4 0 rfl rfl (by omega) (Nat.le_of_ble_eq_true rfl) (v := nI (od115 k)) rfl dX0_longestWith_92 ?_
                refine lv_istore (lv' := [(4, .int (nI (od115 k))), (3, .int (nI k)), (0, .ref k0), (1, .ref h), (2, .int (nI i))]) hx hb dX0_longestWith_93 hl (by decide) rfl (fun ls hl => ?_)
                have ho := hw15.1 k (by omega)
                refine lv_aload_n hx hb dX0_longestWith_95 rfl (lv_at hl 2 rfl) ?_
                refine va_get (D := D) (ci := 0) (v := .ref kf) (C := RX0) (T := TX0) (N := 5) hx hb hts inX0 hown hK hP 0 rfl rfl 3 (by decide) f26 (fun _ h9 => h9) rfl dX0_longestWith_96 ?_
                refine lv_iload hx hb dX0_longestWith_99 (lv_at hl 0 rfl) ?_
                refine lv_aload_n hx hb dX0_longestWith_101 rfl (lv_at hl 3 rfl) ?_
                refine va_get (D := D) (ci := 7) (v := .ref a) (C := RX7) (T := TX7) (N := 6) hx hb hts inX7 hown hK hP 6 rfl rfl 3 (by decide) f56 (fun _ h9 => h9) rfl dX0_longestWith_102 ?_
                refine lv_iload hx hb dX0_longestWith_105 (lv_at hl 0 rfl) ?_
                refine xr_iald hx hb hK hP 7 0 rfl rfl (by omega) (Nat.le_of_ble_eq_true rfl) (v := iZ (L (od115 k))) rfl dX0_longestWith_107 ?_
                refine lv_aload_n hx hb dX0_longestWith_108 rfl (lv_at hl 2 rfl) ?_
                refine lv_aload_n hx hb dX0_longestWith_109 rfl (lv_at hl 3 rfl) ?_
                refine lv_iload hx hb dX0_longestWith_110 (lv_at hl 0 rfl) ?_
                refine xk_pi (xk_V (As := [.ref h, .int (nI (od115 k))]) (rest := [.int (iZ (L (od115 k))), .int (nI (od115 k)), .ref kf]) ⟨hx, hb, hml, hown, hts⟩ (mX0_longestBehind l D ca H.size k0 kr kt kf kc o lf2 h a b c T E C G (od115 k) (by omega) hG ho (fun i9 h9 hg => by have c1 := LT2_pre hB hw15 (by omega) i9 h9 hg; have c2 := es_le hT (trG_ok hG) hL h9; have c3 := es_0 (G := trG G) (T := T) (L := L) i9; have c4 := hL i9 h9; omega)) (cwV 2 hts gX0_longestWith_X0_longestBehind rfl rfl rfl (by decide +kernel) ⟨Nat.le_of_ble_eq_true rfl, Nat.le_of_ble_eq_true rfl⟩) hK hP hD (va_recv (q := (RX0, TX0, 5)) hK hP (ci := 0) (q0 := 0) rfl rfl) [0, 2, 6, 8] rfl rfl rfl hl.1 rfl (Nat.le_of_ble_eq_true rfl) dX0_longestWith_112 ⟨Nat.le_of_ble_eq_true rfl, Nat.le_of_ble_eq_true rfl⟩) hP hD hS hA [0, 2, 6, 8] rfl ⟨rfl, rfl⟩ (fun r112 H locs hw112 hP hS => ?_)
                have hw112 : r112 = iZ (mxB (trG G) lf2 (od115 k) T) := hw112
                subst hw112
                refine xr_iadd_zz hx hb dX0_longestWith_115 ?_
                refine xr_iast hx hb hK hP hD hS 2 0 rfl rfl (by omega) (Nat.le_of_ble_eq_true rfl) (zF (upZ lf2 (od115 k) ((L (od115 k)) + (mxB (trG G) lf2 (od115 k) T)))) (fun _ _ => zF_up _ _ _ _) dX0_longestWith_116 (fun H locs hP hD hS => ?_)
                have hP : va_P D vwCl [(k0, .inr (0, [.ref o, .ref kr, .ref kt, .ref kf, .ref kc])), (kt, .inl (ca 0, 20, .inl (zF lt2))), (kf, .inl (ca 0, 20, .inl (zF (upZ lf2 (od115 k) ((L (od115 k)) + (mxB (trG G) lf2 (od115 k) T)))))), (o, .inr (3, [.int (nI T), .ref ot, .ref ow])), (ot, .inl (ca 0, 20, .inl (nF od115))), (ow, .inl (ca 0, 20, .inl (zF wt115))), (h, .inr (7, [.int (nI T), .int (iZ E), .int (iZ C), .ref a, .ref b, .ref c])), (a, .inl (ca 0, 20, .inl (zF L))), (c, .inl (ca 0, 400, .inl (zG G)))] H := hP
                have hD : va_D A [(k0, .inr (0, [.ref o, .ref kr, .ref kt, .ref kf, .ref kc])), (kt, .inl (ca 0, 20, .inl (zF lt2))), (kf, .inl (ca 0, 20, .inl (zF (upZ lf2 (od115 k) ((L (od115 k)) + (mxB (trG G) lf2 (od115 k) T)))))), (o, .inr (3, [.int (nI T), .ref ot, .ref ow])), (ot, .inl (ca 0, 20, .inl (nF od115))), (ow, .inl (ca 0, 20, .inl (zF wt115))), (h, .inr (7, [.int (nI T), .int (iZ E), .int (iZ C), .ref a, .ref b, .ref c])), (a, .inl (ca 0, 20, .inl (zF L))), (c, .inl (ca 0, 400, .inl (zG G)))] := hD
                refine lv_iinc (v := iZ (((k : Nat) : Int) - 1)) (lv' := [(3, .int (iZ (((k : Nat) : Int) - 1))), (4, .int (nI (od115 k))), (0, .ref k0), (1, .ref h), (2, .int (nI i))]) hx hb dX0_longestWith_117 hl (k := 1) rfl (nI_dec _) (by decide) rfl (fun ls hl => ?_)
                refine lv_goto (tgt := 80) hx hb dX0_longestWith_120 (by decide) ?_
                exact ih80 k (upZ lf2 (od115 k) ((L (od115 k)) + (mxB (trG G) lf2 (od115 k) T))) (by omega) (LT2_s hB hw15 (by omega) (by rw [LT2_val hac hB hw15 (by omega)]; omega)) (by omega) _ _ hP hD hS _ (lv_sub hl [0, 2, 3, 4] rfl)
          exact L80 _ T lf (by omega) LT2_0 (Nat.lt_succ_self _) _ _ hP hD hS _ (lv_sub hl [0, 1, 2, 3] rfl)
        · skip
          have h28 := (not_congr (cL (nI_toInt (by omega)) (nI_toInt (by omega)))).mp h28
          refine lv_aload_n hx hb dX0_longestWith_31 rfl (lv_at hl 1 rfl) ?_
          refine va_get (D := D) (ci := 0) (v := .ref o) (C := RX0) (T := TX0) (N := 5) hx hb hts inX0 hown hK hP 0 rfl rfl 0 (by decide) f12 (fun _ h9 => h9) rfl dX0_longestWith_32 ?_
          refine va_get (D := D) (ci := 3) (v := .ref ot) (C := RX3) (T := TX3) (N := 3) hx hb hts inX3 hown hK hP 3 rfl rfl 1 (by decide) f47 (fun _ h9 => h9) rfl dX0_longestWith_35 ?_
          refine lv_iload_n hx hb dX0_longestWith_38 rfl (lv_at hl 0 rfl) ?_
          refine xr_iald hx hb hK hP 4 0 rfl rfl (by omega) (Nat.le_of_ble_eq_true rfl) (v := nI (od115 pl)) rfl dX0_longestWith_39 ?_
          refine lv_istore (lv' := [(4, .int (nI (od115 pl))), (3, .int (nI pl)), (0, .ref k0), (1, .ref h), (2, .int (nI i))]) hx hb dX0_longestWith_40 hl (by decide) rfl (fun ls hl => ?_)
          have ho := hw15.1 pl (by omega)
          refine lv_aload_n hx hb dX0_longestWith_42 rfl (lv_at hl 2 rfl) ?_
          refine va_get (D := D) (ci := 0) (v := .ref kt) (C := RX0) (T := TX0) (N := 5) hx hb hts inX0 hown hK hP 0 rfl rfl 2 (by decide) f22 (fun _ h9 => h9) rfl dX0_longestWith_43 ?_
          refine lv_iload hx hb dX0_longestWith_46 (lv_at hl 0 rfl) ?_
          refine lv_aload_n hx hb dX0_longestWith_48 rfl (lv_at hl 3 rfl) ?_
          refine va_get (D := D) (ci := 7) (v := .ref a) (C := RX7) (T := TX7) (N := 6) hx hb hts inX7 hown hK hP 6 rfl rfl 3 (by decide) f56 (fun _ h9 => h9) rfl dX0_longestWith_49 ?_
          refine lv_iload hx hb dX0_longestWith_52 (lv_at hl 0 rfl) ?_
          refine xr_iald hx hb hK hP 7 0 rfl rfl (by omega) (Nat.le_of_ble_eq_true rfl) (v := iZ (L (od115 pl))) rfl dX0_longestWith_54 ?_
          refine lv_aload_n hx hb dX0_longestWith_55 rfl (lv_at hl 2 rfl) ?_
          refine lv_aload_n hx hb dX0_longestWith_56 rfl (lv_at hl 3 rfl) ?_
          refine lv_iload hx hb dX0_longestWith_57 (lv_at hl 0 rfl) ?_
          refine xk_pi (xk_V (As := [.ref h, .int (nI (od115 pl))]) (rest := [.int (iZ (L (od115 pl))), .int (nI (od115 pl)), .ref kt]) ⟨hx, hb, hml, hown, hts⟩ (mX0_longestBefore l D ca H.size k0 kr kt kf kc o lt2 h a b c T E C G (od115 pl) (by omega) hG ho (fun i9 h9 hg => by have c1 := LT1_pre hA1 hw15 (by omega) i9 h9 hg; have c2 := es_le hT hG hL h9; have c3 := es_0 (G := G) (T := T) (L := L) i9; have c4 := hL i9 h9; omega)) (cwV 2 hts gX0_longestWith_X0_longestBefore rfl rfl rfl (by decide +kernel) ⟨Nat.le_of_ble_eq_true rfl, Nat.le_of_ble_eq_true rfl⟩) hK hP hD (va_recv (q := (RX0, TX0, 5)) hK hP (ci := 0) (q0 := 0) rfl rfl) [0, 1, 6, 8] rfl rfl rfl hl.1 rfl (Nat.le_of_ble_eq_true rfl) dX0_longestWith_59 ⟨Nat.le_of_ble_eq_true rfl, Nat.le_of_ble_eq_true rfl⟩) hP hD hS hA [0, 1, 6, 8] rfl ⟨rfl, rfl⟩ (fun r59 H locs hw59 hP hS => ?_)
          have hw59 : r59 = iZ (mxB G lt2 (od115 pl) T) := hw59
          subst hw59
          refine xr_iadd_zz hx hb dX0_longestWith_62 ?_
          refine xr_iast hx hb hK hP hD hS 1 0 rfl rfl (by omega) (Nat.le_of_ble_eq_true rfl) (zF (upZ lt2 (od115 pl) ((L (od115 pl)) + (mxB G lt2 (od115 pl) T)))) (fun _ _ => zF_up _ _ _ _) dX0_longestWith_63 (fun H locs hP hD hS => ?_)
          have hP : va_P D vwCl [(k0, .inr (0, [.ref o, .ref kr, .ref kt, .ref kf, .ref kc])), (kt, .inl (ca 0, 20, .inl (zF (upZ lt2 (od115 pl) ((L (od115 pl)) + (mxB G lt2 (od115 pl) T)))))), (kf, .inl (ca 0, 20, .inl (zF lf))), (o, .inr (3, [.int (nI T), .ref ot, .ref ow])), (ot, .inl (ca 0, 20, .inl (nF od115))), (ow, .inl (ca 0, 20, .inl (zF wt115))), (h, .inr (7, [.int (nI T), .int (iZ E), .int (iZ C), .ref a, .ref b, .ref c])), (a, .inl (ca 0, 20, .inl (zF L))), (c, .inl (ca 0, 400, .inl (zG G)))] H := hP
          have hD : va_D A [(k0, .inr (0, [.ref o, .ref kr, .ref kt, .ref kf, .ref kc])), (kt, .inl (ca 0, 20, .inl (zF (upZ lt2 (od115 pl) ((L (od115 pl)) + (mxB G lt2 (od115 pl) T)))))), (kf, .inl (ca 0, 20, .inl (zF lf))), (o, .inr (3, [.int (nI T), .ref ot, .ref ow])), (ot, .inl (ca 0, 20, .inl (nF od115))), (ow, .inl (ca 0, 20, .inl (zF wt115))), (h, .inr (7, [.int (nI T), .int (iZ E), .int (iZ C), .ref a, .ref b, .ref c])), (a, .inl (ca 0, 20, .inl (zF L))), (c, .inl (ca 0, 400, .inl (zG G)))] := hD
          refine lv_iinc (v := nI (pl + 1)) (lv' := [(3, .int (nI (pl + 1))), (4, .int (nI (od115 pl))), (0, .ref k0), (1, .ref h), (2, .int (nI i))]) hx hb dX0_longestWith_64 hl (k := 1) rfl (nI_add _ 1) (by decide) rfl (fun ls hl => ?_)
          refine lv_goto (tgt := 20) hx hb dX0_longestWith_67 (by decide) ?_
          exact ih20 (pl + 1) (upZ lt2 (od115 pl) ((L (od115 pl)) + (mxB G lt2 (od115 pl) T))) (by omega) (LT1_s hA1 hw15 (by omega) (by rw [LT1_val hac hA1 hw15 (by omega)]; omega)) (by omega) _ _ hP hD hS _ (lv_sub hl [0, 2, 3, 4] rfl)
    exact L20 _ 0 lt (by omega) LT1_0 (Nat.lt_succ_self _) _ _ hP hD hS _ (lv_sub hl [0, 1, 2, 3] rfl)
  · skip
    have h5 := bI_0.mp h5
    exact absurd (h5.symm.trans (hasB_t hi hT)) (by decide)
def rX0_countLongest : Room := { frames := 4, cells := 0, slots := 0, locals := 89 }
set_option maxHeartbeats 4000000 in
set_option maxRecDepth 100000 in
/-- countLongest(plan, days) -/
theorem mX0_countLongest (l : Launch) (D : va_G) (ca : Nat → ClassId) (sz : Nat) (k0 : Nat) (kr : Nat) (kt : Nat) (kf : Nat) (kc : Nat) (o : Nat) (ot : Nat) (ow : Nat) (z : Nat) (od : Nat → Nat) (wt : Nat → Int) (ct : Nat → Int64) (h : Nat) (a : Nat) (b : Nat) (c : Nat) (T : Nat) (E : Int) (C : Int) (L : Nat → Int) (G : Nat → Nat → Int) (d : Nat) (de : Nat) (dl : Nat) (dn : Nat) (o2 : Nat) (e : Nat → Int) (sp : Int) (hT : T ≤ 20) (hG : GOK G) (hac : ACY G T) (hL : LOK T L) (he : ∀ j, j < T → -10000 ≤ e j ∧ e j ≤ 10000) (hsp : -10000 ≤ sp ∧ sp ≤ 10000) : MM l yX0_countLongest wsX0_countLongest rX0_countLongest D ca [.ref k0, .ref h, .ref d] sz [(k0, .inr (0, [.ref o, .ref kr, .ref kt, .ref kf, .ref kc])), (kc, .inl (ca 3, 20, .inr (.inl ct))), (o, .inr (3, [.int (nI z), .ref ot, .ref ow])), (ot, .inl (ca 0, 20, .inl (nF od))), (ow, .inl (ca 0, 20, .inl (zF wt))), (h, .inr (7, [.int (nI T), .int (iZ E), .int (iZ C), .ref a, .ref b, .ref c])), (a, .inl (ca 0, 20, .inl (zF L))), (c, .inl (ca 0, 400, .inl (zG G))), (d, .inr (1, [.ref de, .ref dl, .int (iZ sp), .ref dn, .ref o2])), (de, .inl (ca 0, 20, .inl (zF e)))] (QL D ca (fun (r : Int64) (u : Nat × (Nat → Nat) × (Nat → Int) × (Nat → Int64)) => r = chains G T L e sp) (fun u => [(k0, .inr (0, [.ref o, .ref kr, .ref kt, .ref kf, .ref kc])), (kc, .inl (ca 3, 20, .inr (.inl u.2.2.2))), (o, .inr (3, [.int (nI u.1), .ref ot, .ref ow])), (ot, .inl (ca 0, 20, .inl (nF u.2.1))), (ow, .inl (ca 0, 20, .inl (zF u.2.2.1))), (h, .inr (7, [.int (nI T), .int (iZ E), .int (iZ C), .ref a, .ref b, .ref c])), (a, .inl (ca 0, 20, .inl (zF L))), (c, .inl (ca 0, 400, .inl (zG G))), (d, .inr (1, [.ref de, .ref dl, .int (iZ sp), .ref dn, .ref o2])), (de, .inl (ca 0, 20, .inl (zF e)))])) := by
  refine MM_of (cc := cX0_countLongest) (maxL := 11) (ret := (some .long)) (lv0 := [(0, .ref k0), (1, .ref h), (2, .ref d)]) RX0 (by decide) rfl rfl (Nat.le_of_ble_eq_true rfl) rfl ?_
  intro pG eV s mI args below meth cO hx hb hr hml hts hown hlocks hnm A hA H locs hsz hP hK hD hS Q hE ls hl
  have f50 := hts (.fieldLink RX0 50 "SlackPlan$State" "tasks" "I") (List.mem_of_getElem? (i := 1) rfl)
  have inX7 : ∀ w ∈ u_ws RX7 TX7 6, w ∈ wsX0_countLongest := in_r _ [40, 41, 42, 43, 44, 45] rfl
  have f12 := hts (.fieldLink RX0 12 "SlackPlan$Chains" "order" "LSlackPlan$Order;") (List.mem_of_getElem? (i := 3) rfl)
  have inX0 : ∀ w ∈ u_ws RX0 TX0 5, w ∈ wsX0_countLongest := in_r _ [46, 47, 48, 49, 50] rfl
  have f43 := hts (.fieldLink RX0 43 "SlackPlan$Order" "size" "I") (List.mem_of_getElem? (i := 4) rfl)
  have inX3 : ∀ w ∈ u_ws RX3 TX3 3, w ∈ wsX0_countLongest := in_r _ [51, 52, 53] rfl
  have f47 := hts (.fieldLink RX0 47 "SlackPlan$Order" "tasks" "[I") (List.mem_of_getElem? (i := 5) rfl)
  have f75 := hts (.fieldLink RX0 75 "SlackPlan$Days" "earliest" "[I") (List.mem_of_getElem? (i := 6) rfl)
  have inX1 : ∀ w ∈ u_ws RX1 TX1 5, w ∈ wsX0_countLongest := in_r _ [54, 55, 56, 57, 58] rfl
  have f56 := hts (.fieldLink RX0 56 "SlackPlan$State" "lengths" "[I") (List.mem_of_getElem? (i := 7) rfl)
  have f80 := hts (.fieldLink RX0 80 "SlackPlan$Days" "span" "I") (List.mem_of_getElem? (i := 8) rfl)
  have f29 := hts (.fieldLink RX0 29 "SlackPlan$Chains" "counts" "[J") (List.mem_of_getElem? (i := 2) rfl)
  refine lv_iconst (v := nI (0)) hx hb dX0_countLongest_0 (by decide) ?_
  refine lv_istore_n (lv' := [(3, .int (nI 0)), (0, .ref k0), (1, .ref h), (2, .ref d)]) hx hb dX0_countLongest_1 rfl hl (by decide) rfl (fun ls hl => ?_)
  have L2 : ∀ (fu : Nat) (k : Nat), (k ≤ T) → (T - k) < fu → ∀ (H : Heap) (locs : List Loc), va_P D vwCl [(k0, .inr (0, [.ref o, .ref kr, .ref kt, .ref kf, .ref kc])), (kc, .inl (ca 3, 20, .inr (.inl (srcF G T k ct)))), (o, .inr (3, [.int (nI z), .ref ot, .ref ow])), (ot, .inl (ca 0, 20, .inl (nF od))), (ow, .inl (ca 0, 20, .inl (zF wt))), (h, .inr (7, [.int (nI T), .int (iZ E), .int (iZ C), .ref a, .ref b, .ref c])), (a, .inl (ca 0, 20, .inl (zF L))), (c, .inl (ca 0, 400, .inl (zG G))), (d, .inr (1, [.ref de, .ref dl, .int (iZ sp), .ref dn, .ref o2])), (de, .inl (ca 0, 20, .inl (zF e)))] H → va_D A [(k0, .inr (0, [.ref o, .ref kr, .ref kt, .ref kf, .ref kc])), (kc, .inl (ca 3, 20, .inr (.inl (srcF G T k ct)))), (o, .inr (3, [.int (nI z), .ref ot, .ref ow])), (ot, .inl (ca 0, 20, .inl (nF od))), (ow, .inl (ca 0, 20, .inl (zF wt))), (h, .inr (7, [.int (nI T), .int (iZ E), .int (iZ C), .ref a, .ref b, .ref c])), (a, .inl (ca 0, 20, .inl (zF L))), (c, .inl (ca 0, 400, .inl (zG G))), (d, .inr (1, [.ref de, .ref dl, .int (iZ sp), .ref dn, .ref o2])), (de, .inl (ca 0, 20, .inl (zF e)))] → va_S A s.heap H locs → ∀ ls : Array Slot, lv_has ls 11 [(3, .int (nI k)), (0, .ref k0), (1, .ref h), (2, .ref d)] → W pG l eV rX0_countLongest s mI args below meth cO H locs 0 0 Q (F0 mI 2 ls []) := by
    clear hP hD hS hl
    intro fu; induction fu with
    | zero => intro k hk hmu; exact absurd hmu (Nat.not_lt_zero _)
    | succ n2 ih2 =>
      intro k hk hmu2 H locs hP hD hS ls hl
      refine lv_iload_n hx hb dX0_countLongest_2 rfl (lv_at hl 0 rfl) ?_
      refine lv_aload_n hx hb dX0_countLongest_3 rfl (lv_at hl 2 rfl) ?_
      refine va_get (D := D) (ci := 7) (v := .int (nI T)) (C := RX7) (T := TX7) (N := 6) hx hb hts inX7 hown hK hP 5 rfl rfl 0 (by decide) f50 (fun _ h9 => h9) rfl dX0_countLongest_4 ?_
      refine lv_icmp_ge (tgt := 35) hx hb dX0_countLongest_7 (by decide) (fun h7 => ?_) (fun h7 => ?_)
      · skip
        have h7 := (cL (nI_toInt (by omega)) (nI_toInt (by omega))).mp h7
        refine lv_aload_n hx hb dX0_countLongest_35 rfl (lv_at hl 1 rfl) ?_
        refine va_get (D := D) (ci := 0) (v := .ref o) (C := RX0) (T := TX0) (N := 5) hx hb hts inX0 hown hK hP 0 rfl rfl 0 (by decide) f12 (fun _ h9 => h9) rfl dX0_countLongest_36 ?_
        refine lv_aload_n hx hb dX0_countLongest_39 rfl (lv_at hl 2 rfl) ?_
        refine xk_v [(k0, .inr (0, [.ref o, .ref kr, .ref kt, .ref kf, .ref kc])), (kc, .inl (ca 3, 20, .inr (.inl (srcF G T k ct)))), (a, .inl (ca 0, 20, .inl (zF L))), (d, .inr (1, [.ref de, .ref dl, .int (iZ sp), .ref dn, .ref o2])), (de, .inl (ca 0, 20, .inl (zF e)))] (fun u => [(k0, .inr (0, [.ref o, .ref kr, .ref kt, .ref kf, .ref kc])), (kc, .inl (ca 3, 20, .inr (.inl (srcF G T k ct)))), (o, .inr (3, [.int (nI T), .ref ot, .ref ow])), (ot, .inl (ca 0, 20, .inl (nF u.1))), (ow, .inl (ca 0, 20, .inl (zF u.2))), (h, .inr (7, [.int (nI T), .int (iZ E), .int (iZ C), .ref a, .ref b, .ref c])), (a, .inl (ca 0, 20, .inl (zF L))), (c, .inl (ca 0, 400, .inl (zG G))), (d, .inr (1, [.ref de, .ref dl, .int (iZ sp), .ref dn, .ref o2])), (de, .inl (ca 0, 20, .inl (zF e)))]) (xk_V (As := [.ref h]) (rest := []) ⟨hx, hb, hml, hown, hts⟩ (mX3_sort l D ca H.size o ot ow z od wt h a b c T E C G (by omega) hG hac) (cwV 1 hts gX0_countLongest_X3_sort rfl rfl rfl (by decide +kernel) ⟨Nat.le_of_ble_eq_true rfl, Nat.le_of_ble_eq_true rfl⟩) hK hP hD (va_recv (q := (RX3, TX3, 3)) hK hP (ci := 3) (q0 := 2) rfl rfl) [2, 3, 4, 5, 7] rfl rfl rfl hl.1 rfl (Nat.le_of_ble_eq_true rfl) dX0_countLongest_40 ⟨Nat.le_of_ble_eq_true rfl, Nat.le_of_ble_eq_true rfl⟩) hP hD hS hA [2, 3, 4, 5, 7] [0, 1, 6, 8, 9] [0, 1, 5, 6, 7, 8, 2, 9, 3, 4] rfl rfl rfl rfl (fun _ => rfl) rfl (fun u40 H locs hw40 hP hD hS => ?_)
        obtain ⟨od140, wt140⟩ := u40
        have hw40 : TOPO G T od140 := hw40
        have hP : va_P D vwCl [(k0, .inr (0, [.ref o, .ref kr, .ref kt, .ref kf, .ref kc])), (kc, .inl (ca 3, 20, .inr (.inl (srcF G T k ct)))), (o, .inr (3, [.int (nI T), .ref ot, .ref ow])), (ot, .inl (ca 0, 20, .inl (nF od140))), (ow, .inl (ca 0, 20, .inl (zF wt140))), (h, .inr (7, [.int (nI T), .int (iZ E), .int (iZ C), .ref a, .ref b, .ref c])), (a, .inl (ca 0, 20, .inl (zF L))), (c, .inl (ca 0, 400, .inl (zG G))), (d, .inr (1, [.ref de, .ref dl, .int (iZ sp), .ref dn, .ref o2])), (de, .inl (ca 0, 20, .inl (zF e)))] H := hP
        have hD : va_D A [(k0, .inr (0, [.ref o, .ref kr, .ref kt, .ref kf, .ref kc])), (kc, .inl (ca 3, 20, .inr (.inl (srcF G T k ct)))), (o, .inr (3, [.int (nI T), .ref ot, .ref ow])), (ot, .inl (ca 0, 20, .inl (nF od140))), (ow, .inl (ca 0, 20, .inl (zF wt140))), (h, .inr (7, [.int (nI T), .int (iZ E), .int (iZ C), .ref a, .ref b, .ref c])), (a, .inl (ca 0, 20, .inl (zF L))), (c, .inl (ca 0, 400, .inl (zG G))), (d, .inr (1, [.ref de, .ref dl, .int (iZ sp), .ref dn, .ref o2])), (de, .inl (ca 0, 20, .inl (zF e)))] := hD
        refine lv_lconst (v := 0) hx hb dX0_countLongest_43 rfl ?_
        refine lv_lstore_n (lv' := [(3, .long (0)), (0, .ref k0), (1, .ref h), (2, .ref d)]) hx hb dX0_countLongest_44 rfl hl (by decide) rfl (fun ls hl => ?_)
        refine lv_iconst (v := nI (0)) hx hb dX0_countLongest_45 (by decide) ?_
        refine lv_istore (lv' := [(5, .int (nI 0)), (3, .long (0)), (0, .ref k0), (1, .ref h), (2, .ref d)]) hx hb dX0_countLongest_46 hl (by decide) rfl (fun ls hl => ?_)
        have L48 : ∀ (fu : Nat) (pl : Nat) (ct2 : Nat → Int64) (q : Int64), (pl ≤ T) → (PC G T L e od140 pl 0 ct2) → (q = finP G T L e sp od140 pl) → (T - pl) < fu → ∀ (H : Heap) (locs : List Loc), va_P D vwCl [(k0, .inr (0, [.ref o, .ref kr, .ref kt, .ref kf, .ref kc])), (kc, .inl (ca 3, 20, .inr (.inl ct2))), (o, .inr (3, [.int (nI T), .ref ot, .ref ow])), (ot, .inl (ca 0, 20, .inl (nF od140))), (ow, .inl (ca 0, 20, .inl (zF wt140))), (h, .inr (7, [.int (nI T), .int (iZ E), .int (iZ C), .ref a, .ref b, .ref c])), (a, .inl (ca 0, 20, .inl (zF L))), (c, .inl (ca 0, 400, .inl (zG G))), (d, .inr (1, [.ref de, .ref dl, .int (iZ sp), .ref dn, .ref o2])), (de, .inl (ca 0, 20, .inl (zF e)))] H → va_D A [(k0, .inr (0, [.ref o, .ref kr, .ref kt, .ref kf, .ref kc])), (kc, .inl (ca 3, 20, .inr (.inl ct2))), (o, .inr (3, [.int (nI T), .ref ot, .ref ow])), (ot, .inl (ca 0, 20, .inl (nF od140))), (ow, .inl (ca 0, 20, .inl (zF wt140))), (h, .inr (7, [.int (nI T), .int (iZ E), .int (iZ C), .ref a, .ref b, .ref c])), (a, .inl (ca 0, 20, .inl (zF L))), (c, .inl (ca 0, 400, .inl (zG G))), (d, .inr (1, [.ref de, .ref dl, .int (iZ sp), .ref dn, .ref o2])), (de, .inl (ca 0, 20, .inl (zF e)))] → va_S A s.heap H locs → ∀ ls : Array Slot, lv_has ls 11 [(5, .int (nI pl)), (3, .long (q)), (0, .ref k0), (1, .ref h), (2, .ref d)] → W pG l eV rX0_countLongest s mI args below meth cO H locs 0 0 Q (F0 mI 48 ls []) := by
          clear hP hD hS hl
          intro fu; induction fu with
          | zero => intro pl ct2 q hpl hC hq hmu; exact absurd hmu (Nat.not_lt_zero _)
          | succ n48 ih48 =>
            intro pl ct2 q hpl hC hq hmu48 H locs hP hD hS ls hl
            refine lv_iload hx hb dX0_countLongest_48 (lv_at hl 0 rfl) ?_
            refine lv_aload_n hx hb dX0_countLongest_50 rfl (lv_at hl 2 rfl) ?_
            refine va_get (D := D) (ci := 0) (v := .ref o) (C := RX0) (T := TX0) (N := 5) hx hb hts inX0 hown hK hP 0 rfl rfl 0 (by decide) f12 (fun _ h9 => h9) rfl dX0_countLongest_51 ?_
            refine va_get (D := D) (ci := 3) (v := .int (nI T)) (C := RX3) (T := TX3) (N := 3) hx hb hts inX3 hown hK hP 2 rfl rfl 0 (by decide) f43 (fun _ h9 => h9) rfl dX0_countLongest_54 ?_
            refine lv_icmp_ge (tgt := 199) hx hb dX0_countLongest_57 (by decide) (fun h57 => ?_) (fun h57 => ?_)
            · skip
              have h57 := (cL (nI_toInt (by omega)) (nI_toInt (by omega))).mp h57
              refine lv_lload_n hx hb dX0_countLongest_199 rfl (lv_at hl 1 rfl) ?_
              rw [← hE]
              exact xe_l (T, od140, wt140, ct2) hx hb hr hlocks hK hP hD hS (by rw [hq]; exact finP_T hw40 hpl (by omega)) dX0_countLongest_200
            · skip
              have h57 := (not_congr (cL (nI_toInt (by omega)) (nI_toInt (by omega)))).mp h57
              refine lv_aload_n hx hb dX0_countLongest_60 rfl (lv_at hl 2 rfl) ?_
              refine va_get (D := D) (ci := 0) (v := .ref o) (C := RX0) (T := TX0) (N := 5) hx hb hts inX0 hown hK hP 0 rfl rfl 0 (by decide) f12 (fun _ h9 => h9) rfl dX0_countLongest_61 ?_
              refine va_get (D := D) (ci := 3) (v := .ref ot) (C := RX3) (T := TX3) (N := 3) hx hb hts inX3 hown hK hP 2 rfl rfl 1 (by decide) f47 (fun _ h9 => h9) rfl dX0_countLongest_64 ?_
              refine lv_iload hx hb dX0_countLongest_67 (lv_at hl 0 rfl) ?_
              refine xr_iald hx hb hK hP 3 0 rfl rfl (by omega) (Nat.le_of_ble_eq_true rfl) (v := nI (od140 pl)) rfl dX0_countLongest_69 ?_
              refine lv_istore (lv' := [(6, .int (nI (od140 pl))), (5, .int (nI pl)), (3, .long (q)), (0, .ref k0), (1, .ref h), (2, .ref d)]) hx hb dX0_countLongest_70 hl (by decide) rfl (fun ls hl => ?_)
              have ho := hw40.1 pl (by omega)
              have b1 := he _ ho
              have b2 := hL _ ho
              refine lv_aload_n hx hb dX0_countLongest_72 rfl (lv_at hl 5 rfl) ?_
              refine va_get (D := D) (ci := 1) (v := .ref de) (C := RX1) (T := TX1) (N := 5) hx hb hts inX1 hown hK hP 8 rfl rfl 0 (by decide) f75 (fun _ h9 => h9) rfl dX0_countLongest_73 ?_
              refine lv_iload hx hb dX0_countLongest_76 (lv_at hl 0 rfl) ?_
              refine xr_iald hx hb hK hP 9 0 rfl rfl (by omega) (Nat.le_of_ble_eq_true rfl) (v := iZ (e (od140 pl))) rfl dX0_countLongest_78 ?_
              refine lv_aload_n hx hb dX0_countLongest_79 rfl (lv_at hl 4 rfl) ?_
              refine va_get (D := D) (ci := 7) (v := .ref a) (C := RX7) (T := TX7) (N := 6) hx hb hts inX7 hown hK hP 5 rfl rfl 3 (by decide) f56 (fun _ h9 => h9) rfl dX0_countLongest_80 ?_
              refine lv_iload hx hb dX0_countLongest_83 (lv_at hl 0 rfl) ?_
              refine xr_iald hx hb hK hP 6 0 rfl rfl (by omega) (Nat.le_of_ble_eq_true rfl) (v := iZ (L (od140 pl))) rfl dX0_countLongest_85 ?_
              refine xr_iadd_zz hx hb dX0_countLongest_86 ?_
              refine lv_istore (lv' := [(7, .int (iZ ((e (od140 pl)) + (L (od140 pl))))), (6, .int (nI (od140 pl))), (5, .int (nI pl)), (3, .long (q)), (0, .ref k0), (1, .ref h), (2, .ref d)]) hx hb dX0_countLongest_87 hl (by decide) rfl (fun ls hl => ?_)
              refine lv_iconst (v := nI (1)) hx hb dX0_countLongest_89 (by decide) ?_
              refine lv_istore (lv' := [(8, .int (nI 1)), (7, .int (iZ ((e (od140 pl)) + (L (od140 pl))))), (6, .int (nI (od140 pl))), (5, .int (nI pl)), (3, .long (q)), (0, .ref k0), (1, .ref h), (2, .ref d)]) hx hb dX0_countLongest_90 hl (by decide) rfl (fun ls hl => ?_)
              refine lv_iconst (v := nI (0)) hx hb dX0_countLongest_92 (by decide) ?_
              refine lv_istore (lv' := [(9, .int (nI 0)), (8, .int (nI 1)), (7, .int (iZ ((e (od140 pl)) + (L (od140 pl))))), (6, .int (nI (od140 pl))), (5, .int (nI pl)), (3, .long (q)), (0, .ref k0), (1, .ref h), (2, .ref d)]) hx hb dX0_countLongest_93 hl (by decide) rfl (fun ls hl => ?_)
              have L95 : ∀ (fu : Nat) (t : Nat) (ct3 : Nat → Int64) (il : Bool), (t ≤ T) → (PC G T L e od140 pl t ct3) → (il = decide (cntB (trG G) (od140 pl) t = 0)) → (T - t) < fu → ∀ (H : Heap) (locs : List Loc), va_P D vwCl [(k0, .inr (0, [.ref o, .ref kr, .ref kt, .ref kf, .ref kc])), (kc, .inl (ca 3, 20, .inr (.inl ct3))), (o, .inr (3, [.int (nI T), .ref ot, .ref ow])), (ot, .inl (ca 0, 20, .inl (nF od140))), (ow, .inl (ca 0, 20, .inl (zF wt140))), (h, .inr (7, [.int (nI T), .int (iZ E), .int (iZ C), .ref a, .ref b, .ref c])), (a, .inl (ca 0, 20, .inl (zF L))), (c, .inl (ca 0, 400, .inl (zG G))), (d, .inr (1, [.ref de, .ref dl, .int (iZ sp), .ref dn, .ref o2])), (de, .inl (ca 0, 20, .inl (zF e)))] H → va_D A [(k0, .inr (0, [.ref o, .ref kr, .ref kt, .ref kf, .ref kc])), (kc, .inl (ca 3, 20, .inr (.inl ct3))), (o, .inr (3, [.int (nI T), .ref ot, .ref ow])), (ot, .inl (ca 0, 20, .inl (nF od140))), (ow, .inl (ca 0, 20, .inl (zF wt140))), (h, .inr (7, [.int (nI T), .int (iZ E), .int (iZ C), .ref a, .ref b, .ref c])), (a, .inl (ca 0, 20, .inl (zF L))), (c, .inl (ca 0, 400, .inl (zG G))), (d, .inr (1, [.ref de, .ref dl, .int (iZ sp), .ref dn, .ref o2])), (de, .inl (ca 0, 20, .inl (zF e)))] → va_S A s.heap H locs → ∀ ls : Array Slot, lv_has ls 11 [(9, .int (nI t)), (8, .int (bI (il))), (7, .int (iZ ((e (od140 pl)) + (L (od140 pl))))), (6, .int (nI (od140 pl))), (5, .int (nI pl)), (3, .long (q)), (0, .ref k0), (1, .ref h), (2, .ref d)] → W pG l eV rX0_countLongest s mI args below meth cO H locs 0 0 Q (F0 mI 95 ls []) := by
                clear hP hD hS hl
                intro fu; induction fu with
                | zero => intro t ct3 il ht hC hil hmu; exact absurd hmu (Nat.not_lt_zero _)
                | succ n95 ih95 =>
                  intro t ct3 il ht hC hil hmu95 H locs hP hD hS ls hl
                  refine lv_iload hx hb dX0_countLongest_95 (lv_at hl 0 rfl) ?_
                  refine lv_aload_n hx hb dX0_countLongest_97 rfl (lv_at hl 7 rfl) ?_
                  refine va_get (D := D) (ci := 7) (v := .int (nI T)) (C := RX7) (T := TX7) (N := 6) hx hb hts inX7 hown hK hP 5 rfl rfl 0 (by decide) f50 (fun _ h9 => h9) rfl dX0_countLongest_98 ?_
                  refine lv_icmp_ge (tgt := 165) hx hb dX0_countLongest_101 (by decide) (fun h101 => ?_) (fun h101 => ?_)
                  · skip
                    have h101 := (cL (nI_toInt (by omega)) (nI_toInt (by omega))).mp h101
                    refine lv_lload_n hx hb dX0_countLongest_165 rfl (lv_at hl 5 rfl) ?_
                    refine lv_iload hx hb dX0_countLongest_166 (lv_at hl 1 rfl) ?_
                    refine lv_if_eq (tgt := 190) hx hb dX0_countLongest_168 (by decide) (fun h168 => ?_) (fun h168 => ?_)
                    · skip
                      have h168 := bI_0.mp h168
                      refine lv_lconst (v := 0) hx hb dX0_countLongest_190 rfl ?_
                      refine lv_ladd hx hb dX0_countLongest_191 ?_
                      refine lv_lstore_n (lv' := [(3, .long ((q) + (0))), (9, .int (nI t)), (8, .int (bI (il))), (7, .int (iZ ((e (od140 pl)) + (L (od140 pl))))), (6, .int (nI (od140 pl))), (5, .int (nI pl)), (0, .ref k0), (1, .ref h), (2, .ref d)]) hx hb dX0_countLongest_192 rfl hl (by decide) rfl (fun ls hl => ?_)
                      refine lv_iinc (v := nI (pl + 1)) (lv' := [(5, .int (nI (pl + 1))), (3, .long ((q) + (0))), (9, .int (nI t)), (8, .int (bI (il))), (7, .int (iZ ((e (od140 pl)) + (L (od140 pl))))), (6, .int (nI (od140 pl))), (0, .ref k0), (1, .ref h), (2, .ref d)]) hx hb dX0_countLongest_193 hl (k := 5) rfl (nI_add _ 1) (by decide) rfl (fun ls hl => ?_)
                      refine lv_goto (tgt := 48) hx hb dX0_countLongest_196 (by decide) ?_
                      exact ih48 (pl + 1) ct3 ((q) + (0)) (by omega) (PC_nx hC (by omega)) (finP_s hq (by unfold fin; rw [if_neg (by intro h9; have e8 := hil.symm.trans h168; rw [show t = T by omega] at e8; simp [h9.1] at e8)])) (by omega) _ _ hP hD hS _ (lv_sub hl [0, 1, 6, 7, 8] rfl)
                    · skip
                      have h168 := bI_n0.mp h168
                      refine lv_iload hx hb dX0_countLongest_171 (lv_at hl 2 rfl) ?_
                      refine lv_aload_n hx hb dX0_countLongest_173 rfl (lv_at hl 8 rfl) ?_
                      refine va_get (D := D) (ci := 1) (v := .int (iZ sp)) (C := RX1) (T := TX1) (N := 5) hx hb hts inX1 hown hK hP 8 rfl rfl 2 (by decide) f80 (fun _ h9 => h9) rfl dX0_countLongest_174 ?_
                      refine lv_icmp_ne (tgt := 190) hx hb dX0_countLongest_177 (by decide) (fun h177 => ?_) (fun h177 => ?_)
                      · skip
                        have h177 := (not_congr (cE (iZ_toInt (by omega) (by omega)) (iZ_toInt (by omega) (by omega)))).mp h177
                        refine lv_lconst (v := 0) hx hb dX0_countLongest_190 rfl ?_
                        refine lv_ladd hx hb dX0_countLongest_191 ?_
                        refine lv_lstore_n (lv' := [(3, .long ((q) + (0))), (9, .int (nI t)), (8, .int (bI (il))), (7, .int (iZ ((e (od140 pl)) + (L (od140 pl))))), (6, .int (nI (od140 pl))), (5, .int (nI pl)), (0, .ref k0), (1, .ref h), (2, .ref d)]) hx hb dX0_countLongest_192 rfl hl (by decide) rfl (fun ls hl => ?_)
                        refine lv_iinc (v := nI (pl + 1)) (lv' := [(5, .int (nI (pl + 1))), (3, .long ((q) + (0))), (9, .int (nI t)), (8, .int (bI (il))), (7, .int (iZ ((e (od140 pl)) + (L (od140 pl))))), (6, .int (nI (od140 pl))), (0, .ref k0), (1, .ref h), (2, .ref d)]) hx hb dX0_countLongest_193 hl (k := 5) rfl (nI_add _ 1) (by decide) rfl (fun ls hl => ?_)
                        refine lv_goto (tgt := 48) hx hb dX0_countLongest_196 (by decide) ?_
                        exact ih48 (pl + 1) ct3 ((q) + (0)) (by omega) (PC_nx hC (by omega)) (finP_s hq (by unfold fin; rw [if_neg (by intro h9; exact h177 h9.2)])) (by omega) _ _ hP hD hS _ (lv_sub hl [0, 1, 6, 7, 8] rfl)
                      · skip
                        have h177 := (cE (iZ_toInt (by omega) (by omega)) (iZ_toInt (by omega) (by omega))).mp h177
                        refine lv_aload_n hx hb dX0_countLongest_180 rfl (lv_at hl 6 rfl) ?_
                        refine va_get (D := D) (ci := 0) (v := .ref kc) (C := RX0) (T := TX0) (N := 5) hx hb hts inX0 hown hK hP 0 rfl rfl 4 (by decide) f29 (fun _ h9 => h9) rfl dX0_countLongest_181 ?_
                        refine lv_iload hx hb dX0_countLongest_184 (lv_at hl 3 rfl) ?_
                        refine xr_lald hx hb hK hP 1 3 rfl rfl (by omega) (Nat.le_of_ble_eq_true rfl) (v := (ct3 (od140 pl))) rfl dX0_countLongest_186 ?_
                        refine lv_goto (tgt := 191) hx hb dX0_countLongest_187 (by decide) ?_
                        refine lv_ladd hx hb dX0_countLongest_191 ?_
                        refine lv_lstore_n (lv' := [(3, .long ((q) + (ct3 (od140 pl)))), (9, .int (nI t)), (8, .int (bI (il))), (7, .int (iZ ((e (od140 pl)) + (L (od140 pl))))), (6, .int (nI (od140 pl))), (5, .int (nI pl)), (0, .ref k0), (1, .ref h), (2, .ref d)]) hx hb dX0_countLongest_192 rfl hl (by decide) rfl (fun ls hl => ?_)
                        refine lv_iinc (v := nI (pl + 1)) (lv' := [(5, .int (nI (pl + 1))), (3, .long ((q) + (ct3 (od140 pl)))), (9, .int (nI t)), (8, .int (bI (il))), (7, .int (iZ ((e (od140 pl)) + (L (od140 pl))))), (6, .int (nI (od140 pl))), (0, .ref k0), (1, .ref h), (2, .ref d)]) hx hb dX0_countLongest_193 hl (k := 5) rfl (nI_add _ 1) (by decide) rfl (fun ls hl => ?_)
                        refine lv_goto (tgt := 48) hx hb dX0_countLongest_196 (by decide) ?_
                        exact ih48 (pl + 1) ct3 ((q) + (ct3 (od140 pl))) (by omega) (PC_nx hC (by omega)) (finP_s hq (by unfold fin; rw [if_pos ⟨by have e8 := hil.symm.trans h168; rw [show t = T by omega] at e8; simpa using e8, h177⟩]; exact PC_od hac hw40 (by omega) hC)) (by omega) _ _ hP hD hS _ (lv_sub hl [0, 1, 6, 7, 8] rfl)
                  · skip
                    have h101 := (not_congr (cL (nI_toInt (by omega)) (nI_toInt (by omega)))).mp h101
                    refine lv_aload_n hx hb dX0_countLongest_104 rfl (lv_at hl 7 rfl) ?_
                    refine lv_iload hx hb dX0_countLongest_105 (lv_at hl 3 rfl) ?_
                    refine lv_iload hx hb dX0_countLongest_107 (lv_at hl 0 rfl) ?_
                    refine xk_pi (xk_V (As := [.int (nI (od140 pl)), .int (nI t)]) (rest := []) ⟨hx, hb, hml, hown, hts⟩ (mX7_lag l D ca H.size h a b c T E C G (od140 pl) t (by omega) ho (by omega)) (cwV 2 hts gX0_countLongest_X7_lag rfl rfl rfl (by decide +kernel) ⟨Nat.le_of_ble_eq_true rfl, Nat.le_of_ble_eq_true rfl⟩) hK hP hD (va_recv (q := (RX7, TX7, 6)) hK hP (ci := 7) (q0 := 5) rfl rfl) [5, 7] rfl rfl rfl hl.1 rfl (Nat.le_of_ble_eq_true rfl) dX0_countLongest_109 ⟨Nat.le_of_ble_eq_true rfl, Nat.le_of_ble_eq_true rfl⟩) hP hD hS hA [5, 7] rfl ⟨rfl, rfl⟩ (fun r109 H locs hw109 hP hS => ?_)
                    have hw109 : r109 = iZ (G (od140 pl) t) := hw109
                    subst hw109
                    refine lv_istore (lv' := [(10, .int (iZ (G (od140 pl) t))), (9, .int (nI t)), (8, .int (bI (il))), (7, .int (iZ ((e (od140 pl)) + (L (od140 pl))))), (6, .int (nI (od140 pl))), (5, .int (nI pl)), (3, .long (q)), (0, .ref k0), (1, .ref h), (2, .ref d)]) hx hb dX0_countLongest_112 hl (by decide) rfl (fun ls hl => ?_)
                    have hb1 := hG (od140 pl) t (by omega) (by omega)
                    have b3 := he t (by omega)
                    refine lv_iload hx hb dX0_countLongest_114 (lv_at hl 0 rfl) ?_
                    refine lv_iconst (v := iZ (-1)) hx hb dX0_countLongest_116 (by decide) ?_
                    refine lv_icmp_eq (tgt := 159) hx hb dX0_countLongest_117 (by decide) (fun h117 => ?_) (fun h117 => ?_)
                    · skip
                      have h117 := (cE (iZ_toInt (by omega) (by omega)) (iZ_toInt (by omega) (by omega))).mp h117
                      refine lv_iinc (v := nI (t + 1)) (lv' := [(9, .int (nI (t + 1))), (10, .int (iZ (G (od140 pl) t))), (8, .int (bI (il))), (7, .int (iZ ((e (od140 pl)) + (L (od140 pl))))), (6, .int (nI (od140 pl))), (5, .int (nI pl)), (3, .long (q)), (0, .ref k0), (1, .ref h), (2, .ref d)]) hx hb dX0_countLongest_159 hl (k := 1) rfl (nI_add _ 1) (by decide) rfl (fun ls hl => ?_)
                      refine lv_goto (tgt := 95) hx hb dX0_countLongest_162 (by decide) ?_
                      exact ih95 (t + 1) ct3 il (by omega) (PC_skip hC h117) (by rw [hil, cntB, if_pos (show trG G t (od140 pl) = -1 from h117), Nat.add_zero]) (by omega) _ _ hP hD hS _ (lv_sub hl [0, 2, 3, 4, 5, 6, 7, 8, 9] rfl)
                    · skip
                      have h117 := (not_congr (cE (iZ_toInt (by omega) (by omega)) (iZ_toInt (by omega) (by omega)))).mp h117
                      refine lv_iconst (v := nI (0)) hx hb dX0_countLongest_120 (by decide) ?_
                      refine lv_istore (lv' := [(8, .int (nI 0)), (10, .int (iZ (G (od140 pl) t))), (9, .int (nI t)), (7, .int (iZ ((e (od140 pl)) + (L (od140 pl))))), (6, .int (nI (od140 pl))), (5, .int (nI pl)), (3, .long (q)), (0, .ref k0), (1, .ref h), (2, .ref d)]) hx hb dX0_countLongest_121 hl (by decide) rfl (fun ls hl => ?_)
                      refine lv_aload_n hx hb dX0_countLongest_123 rfl (lv_at hl 7 rfl) ?_
                      refine va_get (D := D) (ci := 0) (v := .ref kc) (C := RX0) (T := TX0) (N := 5) hx hb hts inX0 hown hK hP 0 rfl rfl 4 (by decide) f29 (fun _ h9 => h9) rfl dX0_countLongest_124 ?_
                      refine lv_iload hx hb dX0_countLongest_127 (lv_at hl 2 rfl) ?_
                      refine lv_dup2_11 hx hb dX0_countLongest_129 rfl rfl ?_
                      refine xr_lald hx hb hK hP 1 3 rfl rfl (by omega) (Nat.le_of_ble_eq_true rfl) (v := (ct3 t)) rfl dX0_countLongest_130 ?_
                      refine lv_aload_n hx hb dX0_countLongest_131 rfl (lv_at hl 9 rfl) ?_
                      refine va_get (D := D) (ci := 1) (v := .ref de) (C := RX1) (T := TX1) (N := 5) hx hb hts inX1 hown hK hP 8 rfl rfl 0 (by decide) f75 (fun _ h9 => h9) rfl dX0_countLongest_132 ?_
                      refine lv_iload hx hb dX0_countLongest_135 (lv_at hl 2 rfl) ?_
                      refine xr_iald hx hb hK hP 9 0 rfl rfl (by omega) (Nat.le_of_ble_eq_true rfl) (v := iZ (e t)) rfl dX0_countLongest_137 ?_
                      refine lv_iload hx hb dX0_countLongest_138 (lv_at hl 3 rfl) ?_
                      refine lv_iload hx hb dX0_countLongest_140 (lv_at hl 1 rfl) ?_
                      refine xr_iadd_zz hx hb dX0_countLongest_142 ?_
                      refine lv_icmp_ne (tgt := 156) hx hb dX0_countLongest_143 (by decide) (fun h143 => ?_) (fun h143 => ?_)
                      · skip
                        have h143 := (not_congr (cE (iZ_toInt (by omega) (by omega)) (iZ_toInt (by omega) (by omega)))).mp h143
                        refine lv_lconst (v := 0) hx hb dX0_countLongest_156 rfl ?_
                        refine lv_ladd hx hb dX0_countLongest_157 ?_
                        refine xr_last hx hb hK hP hD hS 1 3 rfl rfl (by omega) (Nat.le_of_ble_eq_true rfl) (vp_updL ct3 t ((ct3 t) + (0))) (fun _ _ => rfl) dX0_countLongest_158 (fun H locs hP hD hS => ?_)
                        have hP : va_P D vwCl [(k0, .inr (0, [.ref o, .ref kr, .ref kt, .ref kf, .ref kc])), (kc, .inl (ca 3, 20, .inr (.inl (vp_updL ct3 t ((ct3 t) + (0)))))), (o, .inr (3, [.int (nI T), .ref ot, .ref ow])), (ot, .inl (ca 0, 20, .inl (nF od140))), (ow, .inl (ca 0, 20, .inl (zF wt140))), (h, .inr (7, [.int (nI T), .int (iZ E), .int (iZ C), .ref a, .ref b, .ref c])), (a, .inl (ca 0, 20, .inl (zF L))), (c, .inl (ca 0, 400, .inl (zG G))), (d, .inr (1, [.ref de, .ref dl, .int (iZ sp), .ref dn, .ref o2])), (de, .inl (ca 0, 20, .inl (zF e)))] H := hP
                        have hD : va_D A [(k0, .inr (0, [.ref o, .ref kr, .ref kt, .ref kf, .ref kc])), (kc, .inl (ca 3, 20, .inr (.inl (vp_updL ct3 t ((ct3 t) + (0)))))), (o, .inr (3, [.int (nI T), .ref ot, .ref ow])), (ot, .inl (ca 0, 20, .inl (nF od140))), (ow, .inl (ca 0, 20, .inl (zF wt140))), (h, .inr (7, [.int (nI T), .int (iZ E), .int (iZ C), .ref a, .ref b, .ref c])), (a, .inl (ca 0, 20, .inl (zF L))), (c, .inl (ca 0, 400, .inl (zG G))), (d, .inr (1, [.ref de, .ref dl, .int (iZ sp), .ref dn, .ref o2])), (de, .inl (ca 0, 20, .inl (zF e)))] := hD
                        refine lv_iinc (v := nI (t + 1)) (lv' := [(9, .int (nI (t + 1))), (8, .int (nI 0)), (10, .int (iZ (G (od140 pl) t))), (7, .int (iZ ((e (od140 pl)) + (L (od140 pl))))), (6, .int (nI (od140 pl))), (5, .int (nI pl)), (3, .long (q)), (0, .ref k0), (1, .ref h), (2, .ref d)]) hx hb dX0_countLongest_159 hl (k := 2) rfl (nI_add _ 1) (by decide) rfl (fun ls hl => ?_)
                        refine lv_goto (tgt := 95) hx hb dX0_countLongest_162 (by decide) ?_
                        exact ih95 (t + 1) (vp_updL ct3 t ((ct3 t) + (0))) false (by omega) (PC_step hC (by omega) h117 (by rw [if_neg (by omega)])) (by rw [cntB, if_neg (show ¬ trG G t (od140 pl) = -1 from h117)]; simp) (by omega) _ _ hP hD hS _ (lv_sub hl [0, 1, 3, 4, 5, 6, 7, 8, 9] rfl)
                      · skip
                        have h143 := (cE (iZ_toInt (by omega) (by omega)) (iZ_toInt (by omega) (by omega))).mp h143
                        refine lv_aload_n hx hb dX0_countLongest_146 rfl (lv_at hl 7 rfl) ?_
                        refine va_get (D := D) (ci := 0) (v := .ref kc) (C := RX0) (T := TX0) (N := 5) hx hb hts inX0 hown hK hP 0 rfl rfl 4 (by decide) f29 (fun _ h9 => h9) rfl dX0_countLongest_147 ?_
                        refine lv_iload hx hb dX0_countLongest_150 (lv_at hl 4 rfl) ?_
                        refine xr_lald hx hb hK hP 1 3 rfl rfl (by omega) (Nat.le_of_ble_eq_true rfl) (v := (ct3 (od140 pl))) rfl dX0_countLongest_152 ?_
                        refine lv_goto (tgt := 157) hx hb dX0_countLongest_153 (by decide) ?_
                        refine lv_ladd hx hb dX0_countLongest_157 ?_
                        refine xr_last hx hb hK hP hD hS 1 3 rfl rfl (by omega) (Nat.le_of_ble_eq_true rfl) (vp_updL ct3 t ((ct3 t) + (ct3 (od140 pl)))) (fun _ _ => rfl) dX0_countLongest_158 (fun H locs hP hD hS => ?_)
                        have hP : va_P D vwCl [(k0, .inr (0, [.ref o, .ref kr, .ref kt, .ref kf, .ref kc])), (kc, .inl (ca 3, 20, .inr (.inl (vp_updL ct3 t ((ct3 t) + (ct3 (od140 pl))))))), (o, .inr (3, [.int (nI T), .ref ot, .ref ow])), (ot, .inl (ca 0, 20, .inl (nF od140))), (ow, .inl (ca 0, 20, .inl (zF wt140))), (h, .inr (7, [.int (nI T), .int (iZ E), .int (iZ C), .ref a, .ref b, .ref c])), (a, .inl (ca 0, 20, .inl (zF L))), (c, .inl (ca 0, 400, .inl (zG G))), (d, .inr (1, [.ref de, .ref dl, .int (iZ sp), .ref dn, .ref o2])), (de, .inl (ca 0, 20, .inl (zF e)))] H := hP
                        have hD : va_D A [(k0, .inr (0, [.ref o, .ref kr, .ref kt, .ref kf, .ref kc])), (kc, .inl (ca 3, 20, .inr (.inl (vp_updL ct3 t ((ct3 t) + (ct3 (od140 pl))))))), (o, .inr (3, [.int (nI T), .ref ot, .ref ow])), (ot, .inl (ca 0, 20, .inl (nF od140))), (ow, .inl (ca 0, 20, .inl (zF wt140))), (h, .inr (7, [.int (nI T), .int (iZ E), .int (iZ C), .ref a, .ref b, .ref c])), (a, .inl (ca 0, 20, .inl (zF L))), (c, .inl (ca 0, 400, .inl (zG G))), (d, .inr (1, [.ref de, .ref dl, .int (iZ sp), .ref dn, .ref o2])), (de, .inl (ca 0, 20, .inl (zF e)))] := hD
                        refine lv_iinc (v := nI (t + 1)) (lv' := [(9, .int (nI (t + 1))), (8, .int (nI 0)), (10, .int (iZ (G (od140 pl) t))), (7, .int (iZ ((e (od140 pl)) + (L (od140 pl))))), (6, .int (nI (od140 pl))), (5, .int (nI pl)), (3, .long (q)), (0, .ref k0), (1, .ref h), (2, .ref d)]) hx hb dX0_countLongest_159 hl (k := 2) rfl (nI_add _ 1) (by decide) rfl (fun ls hl => ?_)
                        refine lv_goto (tgt := 95) hx hb dX0_countLongest_162 (by decide) ?_
                        exact ih95 (t + 1) (vp_updL ct3 t ((ct3 t) + (ct3 (od140 pl)))) false (by omega) (PC_step hC (by omega) h117 (by rw [if_pos (by omega)]; exact PC_od hac hw40 (by omega) hC)) (by rw [cntB, if_neg (show ¬ trG G t (od140 pl) = -1 from h117)]; simp) (by omega) _ _ hP hD hS _ (lv_sub hl [0, 1, 3, 4, 5, 6, 7, 8, 9] rfl)
              exact L95 _ 0 ct2 true (by omega) hC rfl (Nat.lt_succ_self _) _ _ hP hD hS _ (lv_sub hl [0, 1, 2, 3, 4, 5, 6, 7, 8] rfl)
        exact L48 _ 0 (srcF G T k ct) 0 (by omega) (PC_0 (by omega)) rfl (Nat.lt_succ_self _) _ _ hP hD hS _ (lv_sub hl [0, 1, 2, 3, 4] rfl)
      · skip
        have h7 := (not_congr (cL (nI_toInt (by omega)) (nI_toInt (by omega)))).mp h7
        refine lv_aload_n hx hb dX0_countLongest_10 rfl (lv_at hl 1 rfl) ?_
        refine va_get (D := D) (ci := 0) (v := .ref kc) (C := RX0) (T := TX0) (N := 5) hx hb hts inX0 hown hK hP 0 rfl rfl 4 (by decide) f29 (fun _ h9 => h9) rfl dX0_countLongest_11 ?_
        refine lv_iload_n hx hb dX0_countLongest_14 rfl (lv_at hl 0 rfl) ?_
        refine lv_aload_n hx hb dX0_countLongest_15 rfl (lv_at hl 2 rfl) ?_
        refine lv_iload_n hx hb dX0_countLongest_16 rfl (lv_at hl 0 rfl) ?_
        refine xk_pi (xk_V (As := [.int (nI k)]) (rest := [.int (nI k), .ref kc]) ⟨hx, hb, hml, hown, hts⟩ (mX7_countBefore l D ca H.size h a b c T E C G k (by omega) (by omega) hG) (cwV 1 hts gX0_countLongest_X7_countBefore rfl rfl rfl (by decide +kernel) ⟨Nat.le_of_ble_eq_true rfl, Nat.le_of_ble_eq_true rfl⟩) hK hP hD (va_recv (q := (RX7, TX7, 6)) hK hP (ci := 7) (q0 := 5) rfl rfl) [5, 7] rfl rfl rfl hl.1 rfl (Nat.le_of_ble_eq_true rfl) dX0_countLongest_17 ⟨Nat.le_of_ble_eq_true rfl, Nat.le_of_ble_eq_true rfl⟩) hP hD hS hA [5, 7] rfl ⟨rfl, rfl⟩ (fun r17 H locs hw17 hP hS => ?_)
        have hw17 : r17 = nI (cntB G k T) := hw17
        subst hw17
        have hc1 := cntB_le G k T
        refine lv_if_ne (tgt := 27) hx hb dX0_countLongest_20 (by decide) (fun h20 => ?_) (fun h20 => ?_)
        · skip
          have h20 := (not_congr (cE (nI_toInt (by omega)) z0_toInt)).mp h20
          have hc1 := cntB_le G k T
          refine lv_lconst (v := 0) hx hb dX0_countLongest_27 rfl ?_
          refine xr_last hx hb hK hP hD hS 1 3 rfl rfl (by omega) (Nat.le_of_ble_eq_true rfl) (vp_updL (srcF G T k ct) k (0)) (fun _ _ => rfl) dX0_countLongest_28 (fun H locs hP hD hS => ?_)
          have hP : va_P D vwCl [(k0, .inr (0, [.ref o, .ref kr, .ref kt, .ref kf, .ref kc])), (kc, .inl (ca 3, 20, .inr (.inl (vp_updL (srcF G T k ct) k (0))))), (o, .inr (3, [.int (nI z), .ref ot, .ref ow])), (ot, .inl (ca 0, 20, .inl (nF od))), (ow, .inl (ca 0, 20, .inl (zF wt))), (h, .inr (7, [.int (nI T), .int (iZ E), .int (iZ C), .ref a, .ref b, .ref c])), (a, .inl (ca 0, 20, .inl (zF L))), (c, .inl (ca 0, 400, .inl (zG G))), (d, .inr (1, [.ref de, .ref dl, .int (iZ sp), .ref dn, .ref o2])), (de, .inl (ca 0, 20, .inl (zF e)))] H := hP
          have hD : va_D A [(k0, .inr (0, [.ref o, .ref kr, .ref kt, .ref kf, .ref kc])), (kc, .inl (ca 3, 20, .inr (.inl (vp_updL (srcF G T k ct) k (0))))), (o, .inr (3, [.int (nI z), .ref ot, .ref ow])), (ot, .inl (ca 0, 20, .inl (nF od))), (ow, .inl (ca 0, 20, .inl (zF wt))), (h, .inr (7, [.int (nI T), .int (iZ E), .int (iZ C), .ref a, .ref b, .ref c])), (a, .inl (ca 0, 20, .inl (zF L))), (c, .inl (ca 0, 400, .inl (zG G))), (d, .inr (1, [.ref de, .ref dl, .int (iZ sp), .ref dn, .ref o2])), (de, .inl (ca 0, 20, .inl (zF e)))] := hD
          refine lv_iinc (v := nI (k + 1)) (lv' := [(3, .int (nI (k + 1))), (0, .ref k0), (1, .ref h), (2, .ref d)]) hx hb dX0_countLongest_29 hl (k := 0) rfl (nI_add _ 1) (by decide) rfl (fun ls hl => ?_)
          refine lv_goto (tgt := 2) hx hb dX0_countLongest_32 (by decide) ?_
          have hP := hP.arrL 1 ((srcF G T (k + 1) ct)) rfl (fun j9 _ => by rw [srcF_s (by unfold src; rw [if_neg (by omega)])])
          have hD := hD.set (p := 1) (e := .inl (ca 3, 20, .inr (.inl ((srcF G T (k + 1) ct))))) rfl
          have hP : va_P D vwCl [(k0, .inr (0, [.ref o, .ref kr, .ref kt, .ref kf, .ref kc])), (kc, .inl (ca 3, 20, .inr (.inl (srcF G T (k + 1) ct)))), (o, .inr (3, [.int (nI z), .ref ot, .ref ow])), (ot, .inl (ca 0, 20, .inl (nF od))), (ow, .inl (ca 0, 20, .inl (zF wt))), (h, .inr (7, [.int (nI T), .int (iZ E), .int (iZ C), .ref a, .ref b, .ref c])), (a, .inl (ca 0, 20, .inl (zF L))), (c, .inl (ca 0, 400, .inl (zG G))), (d, .inr (1, [.ref de, .ref dl, .int (iZ sp), .ref dn, .ref o2])), (de, .inl (ca 0, 20, .inl (zF e)))] H := hP
          have hD : va_D A [(k0, .inr (0, [.ref o, .ref kr, .ref kt, .ref kf, .ref kc])), (kc, .inl (ca 3, 20, .inr (.inl (srcF G T (k + 1) ct)))), (o, .inr (3, [.int (nI z), .ref ot, .ref ow])), (ot, .inl (ca 0, 20, .inl (nF od))), (ow, .inl (ca 0, 20, .inl (zF wt))), (h, .inr (7, [.int (nI T), .int (iZ E), .int (iZ C), .ref a, .ref b, .ref c])), (a, .inl (ca 0, 20, .inl (zF L))), (c, .inl (ca 0, 400, .inl (zG G))), (d, .inr (1, [.ref de, .ref dl, .int (iZ sp), .ref dn, .ref o2])), (de, .inl (ca 0, 20, .inl (zF e)))] := hD
          exact ih2 (k + 1) (by omega) (by omega) _ _ hP hD hS _ (lv_sub hl [0, 1, 2, 3] rfl)
        · skip
          have h20 := (cE (nI_toInt (by omega)) z0_toInt).mp h20
          refine lv_lconst (v := 1) hx hb dX0_countLongest_23 rfl ?_
          refine lv_goto (tgt := 28) hx hb dX0_countLongest_24 (by decide) ?_
          refine xr_last hx hb hK hP hD hS 1 3 rfl rfl (by omega) (Nat.le_of_ble_eq_true rfl) (vp_updL (srcF G T k ct) k (1)) (fun _ _ => rfl) dX0_countLongest_28 (fun H locs hP hD hS => ?_)
          have hP : va_P D vwCl [(k0, .inr (0, [.ref o, .ref kr, .ref kt, .ref kf, .ref kc])), (kc, .inl (ca 3, 20, .inr (.inl (vp_updL (srcF G T k ct) k (1))))), (o, .inr (3, [.int (nI z), .ref ot, .ref ow])), (ot, .inl (ca 0, 20, .inl (nF od))), (ow, .inl (ca 0, 20, .inl (zF wt))), (h, .inr (7, [.int (nI T), .int (iZ E), .int (iZ C), .ref a, .ref b, .ref c])), (a, .inl (ca 0, 20, .inl (zF L))), (c, .inl (ca 0, 400, .inl (zG G))), (d, .inr (1, [.ref de, .ref dl, .int (iZ sp), .ref dn, .ref o2])), (de, .inl (ca 0, 20, .inl (zF e)))] H := hP
          have hD : va_D A [(k0, .inr (0, [.ref o, .ref kr, .ref kt, .ref kf, .ref kc])), (kc, .inl (ca 3, 20, .inr (.inl (vp_updL (srcF G T k ct) k (1))))), (o, .inr (3, [.int (nI z), .ref ot, .ref ow])), (ot, .inl (ca 0, 20, .inl (nF od))), (ow, .inl (ca 0, 20, .inl (zF wt))), (h, .inr (7, [.int (nI T), .int (iZ E), .int (iZ C), .ref a, .ref b, .ref c])), (a, .inl (ca 0, 20, .inl (zF L))), (c, .inl (ca 0, 400, .inl (zG G))), (d, .inr (1, [.ref de, .ref dl, .int (iZ sp), .ref dn, .ref o2])), (de, .inl (ca 0, 20, .inl (zF e)))] := hD
          refine lv_iinc (v := nI (k + 1)) (lv' := [(3, .int (nI (k + 1))), (0, .ref k0), (1, .ref h), (2, .ref d)]) hx hb dX0_countLongest_29 hl (k := 0) rfl (nI_add _ 1) (by decide) rfl (fun ls hl => ?_)
          refine lv_goto (tgt := 2) hx hb dX0_countLongest_32 (by decide) ?_
          have hP := hP.arrL 1 ((srcF G T (k + 1) ct)) rfl (fun j9 _ => by rw [srcF_s (by unfold src; rw [if_pos (by omega)])])
          have hD := hD.set (p := 1) (e := .inl (ca 3, 20, .inr (.inl ((srcF G T (k + 1) ct))))) rfl
          have hP : va_P D vwCl [(k0, .inr (0, [.ref o, .ref kr, .ref kt, .ref kf, .ref kc])), (kc, .inl (ca 3, 20, .inr (.inl (srcF G T (k + 1) ct)))), (o, .inr (3, [.int (nI z), .ref ot, .ref ow])), (ot, .inl (ca 0, 20, .inl (nF od))), (ow, .inl (ca 0, 20, .inl (zF wt))), (h, .inr (7, [.int (nI T), .int (iZ E), .int (iZ C), .ref a, .ref b, .ref c])), (a, .inl (ca 0, 20, .inl (zF L))), (c, .inl (ca 0, 400, .inl (zG G))), (d, .inr (1, [.ref de, .ref dl, .int (iZ sp), .ref dn, .ref o2])), (de, .inl (ca 0, 20, .inl (zF e)))] H := hP
          have hD : va_D A [(k0, .inr (0, [.ref o, .ref kr, .ref kt, .ref kf, .ref kc])), (kc, .inl (ca 3, 20, .inr (.inl (srcF G T (k + 1) ct)))), (o, .inr (3, [.int (nI z), .ref ot, .ref ow])), (ot, .inl (ca 0, 20, .inl (nF od))), (ow, .inl (ca 0, 20, .inl (zF wt))), (h, .inr (7, [.int (nI T), .int (iZ E), .int (iZ C), .ref a, .ref b, .ref c])), (a, .inl (ca 0, 20, .inl (zF L))), (c, .inl (ca 0, 400, .inl (zG G))), (d, .inr (1, [.ref de, .ref dl, .int (iZ sp), .ref dn, .ref o2])), (de, .inl (ca 0, 20, .inl (zF e)))] := hD
          exact ih2 (k + 1) (by omega) (by omega) _ _ hP hD hS _ (lv_sub hl [0, 1, 2, 3] rfl)
  have hP := hP.arrL 1 ((srcF G T 0 ct)) rfl (fun j9 _ => congrFun srcF_0 j9)
  have hD := hD.set (p := 1) (e := .inl (ca 3, 20, .inr (.inl ((srcF G T 0 ct))))) rfl
  have hP : va_P D vwCl [(k0, .inr (0, [.ref o, .ref kr, .ref kt, .ref kf, .ref kc])), (kc, .inl (ca 3, 20, .inr (.inl (srcF G T 0 ct)))), (o, .inr (3, [.int (nI z), .ref ot, .ref ow])), (ot, .inl (ca 0, 20, .inl (nF od))), (ow, .inl (ca 0, 20, .inl (zF wt))), (h, .inr (7, [.int (nI T), .int (iZ E), .int (iZ C), .ref a, .ref b, .ref c])), (a, .inl (ca 0, 20, .inl (zF L))), (c, .inl (ca 0, 400, .inl (zG G))), (d, .inr (1, [.ref de, .ref dl, .int (iZ sp), .ref dn, .ref o2])), (de, .inl (ca 0, 20, .inl (zF e)))] H := hP
  have hD : va_D A [(k0, .inr (0, [.ref o, .ref kr, .ref kt, .ref kf, .ref kc])), (kc, .inl (ca 3, 20, .inr (.inl (srcF G T 0 ct)))), (o, .inr (3, [.int (nI z), .ref ot, .ref ow])), (ot, .inl (ca 0, 20, .inl (nF od))), (ow, .inl (ca 0, 20, .inl (zF wt))), (h, .inr (7, [.int (nI T), .int (iZ E), .int (iZ C), .ref a, .ref b, .ref c])), (a, .inl (ca 0, 20, .inl (zF L))), (c, .inl (ca 0, 400, .inl (zG G))), (d, .inr (1, [.ref de, .ref dl, .int (iZ sp), .ref dn, .ref o2])), (de, .inl (ca 0, 20, .inl (zF e)))] := hD
  exact L2 _ 0 (by omega) (Nat.lt_succ_self _) _ _ hP hD hS _ (lv_sub hl [0, 1, 2, 3] rfl)

