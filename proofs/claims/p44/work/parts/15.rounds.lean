def rX5_moveAll : Room := { frames := 2, cells := 0, slots := 0, locals := 43 }
set_option maxHeartbeats 4000000 in
set_option maxRecDepth 100000 in
/-- moveAll(plan) -/
theorem mX5_moveAll (l : Launch) (D : va_G) (ca : Nat → ClassId) (sz : Nat) (ro : Nat) (rs : Nat) (s0 : Nat → Int) (h : Nat) (a : Nat) (b : Nat) (c : Nat) (T : Nat) (E : Int) (C : Int) (L : Nat → Int) (G : Nat → Nat → Int) (hT : T ≤ 20) (hG : GOK G) (hac : ACY G T) (hL : LOK T L) (hs0 : S0 G T L s0) : MM l yX5_moveAll wsX5_moveAll rX5_moveAll D ca [.ref ro, .ref h] sz [(ro, .inr (5, [.ref rs])), (rs, .inl (ca 0, 20, .inl (zF s0))), (h, .inr (7, [.int (nI T), .int (iZ E), .int (iZ C), .ref a, .ref b, .ref c])), (a, .inl (ca 0, 20, .inl (zF L))), (c, .inl (ca 0, 400, .inl (zG G)))] (QI D ca (fun (r : Int32) (u : (Nat → Int) × Bool) => r = bI u.2 ∧ MV G T L s0 T 0 u.1 u.2) (fun u => [(ro, .inr (5, [.ref rs])), (rs, .inl (ca 0, 20, .inl (zF u.1))), (h, .inr (7, [.int (nI T), .int (iZ E), .int (iZ C), .ref a, .ref b, .ref c])), (a, .inl (ca 0, 20, .inl (zF L))), (c, .inl (ca 0, 400, .inl (zG G)))])) := by
  refine MM_of (cc := cX5_moveAll) (maxL := 7) (ret := (some .boolean)) (lv0 := [(0, .ref ro), (1, .ref h)]) RX5 (by decide) rfl rfl (Nat.le_of_ble_eq_true rfl) rfl ?_
  intro pG eV s mI args below meth cO hx hb hr hml hts hown hlocks hnm A hA H locs hsz hP hK hD hS Q hE ls hl
  have f21 := hts (.fieldLink RX5 21 "SlackPlan$State" "tasks" "I") (List.mem_of_getElem? (i := 1) rfl)
  have inX7 : ∀ w ∈ u_ws RX7 TX7 6, w ∈ wsX5_moveAll := in_r _ [15, 16, 17, 18, 19, 20] rfl
  have f9 := hts (.fieldLink RX5 9 "SlackPlan$Rounds" "starts" "[I") (List.mem_of_getElem? (i := 2) rfl)
  have inX5 : ∀ w ∈ u_ws RX5 TX5 1, w ∈ wsX5_moveAll := in_r _ [21] rfl
  have f31 := hts (.fieldLink RX5 31 "SlackPlan$State" "lengths" "[I") (List.mem_of_getElem? (i := 3) rfl)
  refine lv_iconst (v := nI (0)) hx hb dX5_moveAll_0 (by decide) ?_
  refine lv_istore_n (lv' := [(2, .int (nI 0)), (0, .ref ro), (1, .ref h)]) hx hb dX5_moveAll_1 rfl hl (by decide) rfl (fun ls hl => ?_)
  refine lv_iconst (v := nI (0)) hx hb dX5_moveAll_2 (by decide) ?_
  refine lv_istore_n (lv' := [(3, .int (nI 0)), (2, .int (nI 0)), (0, .ref ro), (1, .ref h)]) hx hb dX5_moveAll_3 rfl hl (by decide) rfl (fun ls hl => ?_)
  have L4 : ∀ (fu : Nat) (i : Nat) (s2 : Nat → Int) (m2 : Bool), (i ≤ T) → (MV G T L s0 i 0 s2 m2) → (T - i) < fu → ∀ (H : Heap) (locs : List Loc), va_P D vwCl [(ro, .inr (5, [.ref rs])), (rs, .inl (ca 0, 20, .inl (zF s2))), (h, .inr (7, [.int (nI T), .int (iZ E), .int (iZ C), .ref a, .ref b, .ref c])), (a, .inl (ca 0, 20, .inl (zF L))), (c, .inl (ca 0, 400, .inl (zG G)))] H → va_D A [(ro, .inr (5, [.ref rs])), (rs, .inl (ca 0, 20, .inl (zF s2))), (h, .inr (7, [.int (nI T), .int (iZ E), .int (iZ C), .ref a, .ref b, .ref c])), (a, .inl (ca 0, 20, .inl (zF L))), (c, .inl (ca 0, 400, .inl (zG G)))] → va_S A s.heap H locs → ∀ ls : Array Slot, lv_has ls 7 [(3, .int (nI i)), (2, .int (bI (m2))), (0, .ref ro), (1, .ref h)] → W pG l eV rX5_moveAll s mI args below meth cO H locs 0 0 Q (F0 mI 4 ls []) := by
    clear hP hD hS hl
    intro fu; induction fu with
    | zero => intro i s2 m2 hi hM hmu; exact absurd hmu (Nat.not_lt_zero _)
    | succ n4 ih4 =>
      intro i s2 m2 hi hM hmu4 H locs hP hD hS ls hl
      refine lv_iload_n hx hb dX5_moveAll_4 rfl (lv_at hl 0 rfl) ?_
      refine lv_aload_n hx hb dX5_moveAll_5 rfl (lv_at hl 3 rfl) ?_
      refine va_get (D := D) (ci := 7) (v := .int (nI T)) (C := RX7) (T := TX7) (N := 6) hx hb hts inX7 hown hK hP 2 rfl rfl 0 (by decide) f21 (fun _ h9 => h9) rfl dX5_moveAll_6 ?_
      refine lv_icmp_ge (tgt := 95) hx hb dX5_moveAll_9 (by decide) (fun h9 => ?_) (fun h9 => ?_)
      · skip
        have h9 := (cL (nI_toInt (by omega)) (nI_toInt (by omega))).mp h9
        refine lv_iload_n hx hb dX5_moveAll_95 rfl (lv_at hl 1 rfl) ?_
        rw [← hE]
        exact xe_z (s2, m2) hx hb hr hlocks hK hP hD hS (bI_nar _) (⟨rfl, by have e9 : i = T := (by omega); rw [e9] at hM; exact hM⟩) dX5_moveAll_96
      · skip
        have h9 := (not_congr (cL (nI_toInt (by omega)) (nI_toInt (by omega)))).mp h9
        refine lv_aload_n hx hb dX5_moveAll_12 rfl (lv_at hl 2 rfl) ?_
        refine va_get (D := D) (ci := 5) (v := .ref rs) (C := RX5) (T := TX5) (N := 1) hx hb hts inX5 hown hK hP 0 rfl rfl 0 (by decide) f9 (fun _ h9 => h9) rfl dX5_moveAll_13 ?_
        refine lv_iload_n hx hb dX5_moveAll_16 rfl (lv_at hl 0 rfl) ?_
        refine xr_iald hx hb hK hP 1 0 rfl rfl (by omega) (Nat.le_of_ble_eq_true rfl) (v := iZ (s2 i)) rfl dX5_moveAll_17 ?_
        refine lv_aload_n hx hb dX5_moveAll_18 rfl (lv_at hl 3 rfl) ?_
        refine va_get (D := D) (ci := 7) (v := .ref a) (C := RX7) (T := TX7) (N := 6) hx hb hts inX7 hown hK hP 2 rfl rfl 3 (by decide) f31 (fun _ h9 => h9) rfl dX5_moveAll_19 ?_
        refine lv_iload_n hx hb dX5_moveAll_22 rfl (lv_at hl 0 rfl) ?_
        refine xr_iald hx hb hK hP 3 0 rfl rfl (by omega) (Nat.le_of_ble_eq_true rfl) (v := iZ (L i)) rfl dX5_moveAll_23 ?_
        refine xr_iadd_zz hx hb dX5_moveAll_24 ?_
        refine lv_istore (lv' := [(4, .int (iZ ((s2 i) + (L i)))), (3, .int (nI i)), (2, .int (bI (m2))), (0, .ref ro), (1, .ref h)]) hx hb dX5_moveAll_25 hl (by decide) rfl (fun ls hl => ?_)
        have hen : s0 i + L i ≤ s2 i + L i ∧ s2 i + L i ≤ es G T L i + L i := by have := hM.1 i (by omega); omega
        refine lv_iconst (v := nI (0)) hx hb dX5_moveAll_27 (by decide) ?_
        refine lv_istore (lv' := [(5, .int (nI 0)), (4, .int (iZ ((s2 i) + (L i)))), (3, .int (nI i)), (2, .int (bI (m2))), (0, .ref ro), (1, .ref h)]) hx hb dX5_moveAll_28 hl (by decide) rfl (fun ls hl => ?_)
        have L30 : ∀ (fu : Nat) (t : Nat) (s3 : Nat → Int) (m3 : Bool), (t ≤ T) → (MV G T L s0 i t s3 m3) → (T - t) < fu → ∀ (H : Heap) (locs : List Loc), va_P D vwCl [(ro, .inr (5, [.ref rs])), (rs, .inl (ca 0, 20, .inl (zF s3))), (h, .inr (7, [.int (nI T), .int (iZ E), .int (iZ C), .ref a, .ref b, .ref c])), (a, .inl (ca 0, 20, .inl (zF L))), (c, .inl (ca 0, 400, .inl (zG G)))] H → va_D A [(ro, .inr (5, [.ref rs])), (rs, .inl (ca 0, 20, .inl (zF s3))), (h, .inr (7, [.int (nI T), .int (iZ E), .int (iZ C), .ref a, .ref b, .ref c])), (a, .inl (ca 0, 20, .inl (zF L))), (c, .inl (ca 0, 400, .inl (zG G)))] → va_S A s.heap H locs → ∀ ls : Array Slot, lv_has ls 7 [(5, .int (nI t)), (4, .int (iZ ((s2 i) + (L i)))), (3, .int (nI i)), (2, .int (bI (m3))), (0, .ref ro), (1, .ref h)] → W pG l eV rX5_moveAll s mI args below meth cO H locs 0 0 Q (F0 mI 30 ls []) := by
          clear hP hD hS hl
          intro fu; induction fu with
          | zero => intro t s3 m3 ht hM hmu; exact absurd hmu (Nat.not_lt_zero _)
          | succ n30 ih30 =>
            intro t s3 m3 ht hM hmu30 H locs hP hD hS ls hl
            refine lv_iload hx hb dX5_moveAll_30 (lv_at hl 0 rfl) ?_
            refine lv_aload_n hx hb dX5_moveAll_32 rfl (lv_at hl 5 rfl) ?_
            refine va_get (D := D) (ci := 7) (v := .int (nI T)) (C := RX7) (T := TX7) (N := 6) hx hb hts inX7 hown hK hP 2 rfl rfl 0 (by decide) f21 (fun _ h9 => h9) rfl dX5_moveAll_33 ?_
            refine lv_icmp_ge (tgt := 89) hx hb dX5_moveAll_36 (by decide) (fun h36 => ?_) (fun h36 => ?_)
            · skip
              have h36 := (cL (nI_toInt (by omega)) (nI_toInt (by omega))).mp h36
              refine lv_iinc (v := nI (i + 1)) (lv' := [(3, .int (nI (i + 1))), (5, .int (nI t)), (4, .int (iZ ((s2 i) + (L i)))), (2, .int (bI (m3))), (0, .ref ro), (1, .ref h)]) hx hb dX5_moveAll_89 hl (k := 2) rfl (nI_add _ 1) (by decide) rfl (fun ls hl => ?_)
              refine lv_goto (tgt := 4) hx hb dX5_moveAll_92 (by decide) ?_
              exact ih4 (i + 1) s3 m3 (by omega) (MV_nx hM (by omega)) (by omega) _ _ hP hD hS _ (lv_sub hl [0, 3, 4, 5] rfl)
            · skip
              have h36 := (not_congr (cL (nI_toInt (by omega)) (nI_toInt (by omega)))).mp h36
              refine lv_aload_n hx hb dX5_moveAll_39 rfl (lv_at hl 5 rfl) ?_
              refine lv_iload_n hx hb dX5_moveAll_40 rfl (lv_at hl 2 rfl) ?_
              refine lv_iload hx hb dX5_moveAll_41 (lv_at hl 0 rfl) ?_
              refine xk_pi (xk_V (As := [.int (nI i), .int (nI t)]) (rest := []) ⟨hx, hb, hml, hown, hts⟩ (mX7_lag l D ca H.size h a b c T E C G i t (by omega) (by omega) (by omega)) (cwV 2 hts gX5_moveAll_X7_lag rfl rfl rfl (by decide +kernel) ⟨Nat.le_of_ble_eq_true rfl, Nat.le_of_ble_eq_true rfl⟩) hK hP hD (va_recv (q := (RX7, TX7, 6)) hK hP (ci := 7) (q0 := 2) rfl rfl) [2, 4] rfl rfl rfl hl.1 rfl (Nat.le_of_ble_eq_true rfl) dX5_moveAll_43 ⟨Nat.le_of_ble_eq_true rfl, Nat.le_of_ble_eq_true rfl⟩) hP hD hS hA [2, 4] rfl ⟨rfl, rfl⟩ (fun r43 H locs hw43 hP hS => ?_)
              have hw43 : r43 = iZ (G i t) := hw43
              subst hw43
              refine lv_istore (lv' := [(6, .int (iZ (G i t))), (5, .int (nI t)), (4, .int (iZ ((s2 i) + (L i)))), (3, .int (nI i)), (2, .int (bI (m3))), (0, .ref ro), (1, .ref h)]) hx hb dX5_moveAll_46 hl (by decide) rfl (fun ls hl => ?_)
              have hb1 := hG i t (by omega) (by omega)
              refine lv_iload hx hb dX5_moveAll_48 (lv_at hl 0 rfl) ?_
              refine lv_iconst (v := iZ (-1)) hx hb dX5_moveAll_50 (by decide) ?_
              refine lv_icmp_eq (tgt := 83) hx hb dX5_moveAll_51 (by decide) (fun h51 => ?_) (fun h51 => ?_)
              · skip
                have h51 := (cE (iZ_toInt (by omega) (by omega)) (iZ_toInt (by omega) (by omega))).mp h51
                refine lv_iinc (v := nI (t + 1)) (lv' := [(5, .int (nI (t + 1))), (6, .int (iZ (G i t))), (4, .int (iZ ((s2 i) + (L i)))), (3, .int (nI i)), (2, .int (bI (m3))), (0, .ref ro), (1, .ref h)]) hx hb dX5_moveAll_83 hl (k := 1) rfl (nI_add _ 1) (by decide) rfl (fun ls hl => ?_)
                refine lv_goto (tgt := 30) hx hb dX5_moveAll_86 (by decide) ?_
                exact ih30 (t + 1) s3 m3 (by omega) (MV_skip hM h51) (by omega) _ _ hP hD hS _ (lv_sub hl [0, 2, 3, 4, 5, 6] rfl)
              · skip
                have h51 := (not_congr (cE (iZ_toInt (by omega) (by omega)) (iZ_toInt (by omega) (by omega)))).mp h51
                have b1 := hM.1 t (by omega)
                have b2 := es_le hT hG hL (show t < T by omega)
                have b3 := es_le hT hG hL (show i < T by omega)
                have b4 := hL i (by omega)
                have b5 := hs0 i (by omega)
                refine lv_aload_n hx hb dX5_moveAll_54 rfl (lv_at hl 5 rfl) ?_
                refine va_get (D := D) (ci := 5) (v := .ref rs) (C := RX5) (T := TX5) (N := 1) hx hb hts inX5 hown hK hP 0 rfl rfl 0 (by decide) f9 (fun _ h9 => h9) rfl dX5_moveAll_55 ?_
                refine lv_iload hx hb dX5_moveAll_58 (lv_at hl 1 rfl) ?_
                refine xr_iald hx hb hK hP 1 0 rfl rfl (by omega) (Nat.le_of_ble_eq_true rfl) (v := iZ (s3 t)) rfl dX5_moveAll_60 ?_
                refine lv_iload hx hb dX5_moveAll_61 (lv_at hl 2 rfl) ?_
                refine lv_iload hx hb dX5_moveAll_63 (lv_at hl 0 rfl) ?_
                refine xr_iadd_zz hx hb dX5_moveAll_65 ?_
                refine lv_icmp_ge (tgt := 83) hx hb dX5_moveAll_66 (by decide) (fun h66 => ?_) (fun h66 => ?_)
                · skip
                  have h66 := (cL (iZ_toInt (by omega) (by omega)) (iZ_toInt (by omega) (by omega))).mp h66
                  refine lv_iinc (v := nI (t + 1)) (lv' := [(5, .int (nI (t + 1))), (6, .int (iZ (G i t))), (4, .int (iZ ((s2 i) + (L i)))), (3, .int (nI i)), (2, .int (bI (m3))), (0, .ref ro), (1, .ref h)]) hx hb dX5_moveAll_83 hl (k := 1) rfl (nI_add _ 1) (by decide) rfl (fun ls hl => ?_)
                  refine lv_goto (tgt := 30) hx hb dX5_moveAll_86 (by decide) ?_
                  exact ih30 (t + 1) s3 m3 (by omega) (MV_ok hM hen.1 (by omega)) (by omega) _ _ hP hD hS _ (lv_sub hl [0, 2, 3, 4, 5, 6] rfl)
                · skip
                  have h66 := (not_congr (cL (iZ_toInt (by omega) (by omega)) (iZ_toInt (by omega) (by omega)))).mp h66
                  refine lv_aload_n hx hb dX5_moveAll_69 rfl (lv_at hl 5 rfl) ?_
                  refine va_get (D := D) (ci := 5) (v := .ref rs) (C := RX5) (T := TX5) (N := 1) hx hb hts inX5 hown hK hP 0 rfl rfl 0 (by decide) f9 (fun _ h9 => h9) rfl dX5_moveAll_70 ?_
                  refine lv_iload hx hb dX5_moveAll_73 (lv_at hl 1 rfl) ?_
                  refine lv_iload hx hb dX5_moveAll_75 (lv_at hl 2 rfl) ?_
                  refine lv_iload hx hb dX5_moveAll_77 (lv_at hl 0 rfl) ?_
                  refine xr_iadd_zz hx hb dX5_moveAll_79 ?_
                  refine xr_iast hx hb hK hP hD hS 1 0 rfl rfl (by omega) (Nat.le_of_ble_eq_true rfl) (zF (upZ s3 t (((s2 i) + (L i)) + (G i t)))) (fun _ _ => zF_up _ _ _ _) dX5_moveAll_80 (fun H locs hP hD hS => ?_)
                  have hP : va_P D vwCl [(ro, .inr (5, [.ref rs])), (rs, .inl (ca 0, 20, .inl (zF (upZ s3 t (((s2 i) + (L i)) + (G i t)))))), (h, .inr (7, [.int (nI T), .int (iZ E), .int (iZ C), .ref a, .ref b, .ref c])), (a, .inl (ca 0, 20, .inl (zF L))), (c, .inl (ca 0, 400, .inl (zG G)))] H := hP
                  have hD : va_D A [(ro, .inr (5, [.ref rs])), (rs, .inl (ca 0, 20, .inl (zF (upZ s3 t (((s2 i) + (L i)) + (G i t)))))), (h, .inr (7, [.int (nI T), .int (iZ E), .int (iZ C), .ref a, .ref b, .ref c])), (a, .inl (ca 0, 20, .inl (zF L))), (c, .inl (ca 0, 400, .inl (zG G)))] := hD
                  refine lv_iconst (v := nI (1)) hx hb dX5_moveAll_81 (by decide) ?_
                  refine lv_istore_n (lv' := [(2, .int (nI 1)), (6, .int (iZ (G i t))), (5, .int (nI t)), (4, .int (iZ ((s2 i) + (L i)))), (3, .int (nI i)), (0, .ref ro), (1, .ref h)]) hx hb dX5_moveAll_82 rfl hl (by decide) rfl (fun ls hl => ?_)
                  refine lv_iinc (v := nI (t + 1)) (lv' := [(5, .int (nI (t + 1))), (2, .int (nI 1)), (6, .int (iZ (G i t))), (4, .int (iZ ((s2 i) + (L i)))), (3, .int (nI i)), (0, .ref ro), (1, .ref h)]) hx hb dX5_moveAll_83 hl (k := 2) rfl (nI_add _ 1) (by decide) rfl (fun ls hl => ?_)
                  refine lv_goto (tgt := 30) hx hb dX5_moveAll_86 (by decide) ?_
                  exact ih30 (t + 1) (upZ s3 t (((s2 i) + (L i)) + (G i t))) true (by omega) (MV_up hac hM (by omega) (by omega) h51 hen.1 hen.2 (by omega)) (by omega) _ _ hP hD hS _ (lv_sub hl [0, 3, 4, 1, 5, 6] rfl)
        exact L30 _ 0 s2 m2 (by omega) hM (Nat.lt_succ_self _) _ _ hP hD hS _ (lv_sub hl [0, 1, 2, 3, 4, 5] rfl)
  exact L4 _ 0 s0 false (by omega) (MV_0 hs0) (Nat.lt_succ_self _) _ _ hP hD hS _ (lv_sub hl [0, 1, 2, 3] rfl)
def rX5_find : Room := { frames := 3, cells := 0, slots := 0, locals := 69 }
set_option maxHeartbeats 4000000 in
set_option maxRecDepth 100000 in
/-- find(plan): the length of the plan, found in rounds -/
theorem mX5_find (l : Launch) (D : va_G) (ca : Nat → ClassId) (sz : Nat) (ro : Nat) (rs : Nat) (sv : Nat → Int) (h : Nat) (a : Nat) (b : Nat) (c : Nat) (T : Nat) (E : Int) (C : Int) (L : Nat → Int) (G : Nat → Nat → Int) (hT : T ≤ 20) (hG : GOK G) (hac : ACY G T) (hL : LOK T L) : MM l yX5_find wsX5_find rX5_find D ca [.ref ro, .ref h] sz [(ro, .inr (5, [.ref rs])), (rs, .inl (ca 0, 20, .inl (zF sv))), (h, .inr (7, [.int (nI T), .int (iZ E), .int (iZ C), .ref a, .ref b, .ref c])), (a, .inl (ca 0, 20, .inl (zF L))), (c, .inl (ca 0, 400, .inl (zG G)))] (QI D ca (fun (r : Int32) (u : (Nat → Int)) => r = iZ (span G T L)) (fun u => [(ro, .inr (5, [.ref rs])), (rs, .inl (ca 0, 20, .inl (zF u))), (h, .inr (7, [.int (nI T), .int (iZ E), .int (iZ C), .ref a, .ref b, .ref c])), (a, .inl (ca 0, 20, .inl (zF L))), (c, .inl (ca 0, 400, .inl (zG G)))])) := by
  refine MM_of (cc := cX5_find) (maxL := 5) (ret := (some .int)) (lv0 := [(0, .ref ro), (1, .ref h)]) RX5 (by decide) rfl rfl (Nat.le_of_ble_eq_true rfl) rfl ?_
  intro pG eV s mI args below meth cO hx hb hr hml hts hown hlocks hnm A hA H locs hsz hP hK hD hS Q hE ls hl
  have f9 := hts (.fieldLink RX5 9 "SlackPlan$Rounds" "starts" "[I") (List.mem_of_getElem? (i := 1) rfl)
  have inX5 : ∀ w ∈ u_ws RX5 TX5 1, w ∈ wsX5_find := in_r _ [28] rfl
  have f21 := hts (.fieldLink RX5 21 "SlackPlan$State" "tasks" "I") (List.mem_of_getElem? (i := 2) rfl)
  have inX7 : ∀ w ∈ u_ws RX7 TX7 6, w ∈ wsX5_find := in_r _ [29, 30, 31, 32, 33, 34] rfl
  have f31 := hts (.fieldLink RX5 31 "SlackPlan$State" "lengths" "[I") (List.mem_of_getElem? (i := 3) rfl)
  have ml34 := hts (.methodLink RX5 34 Lib.Math.max.name) (List.mem_of_getElem? (i := 4) rfl)
  have stmax := hts (.static Lib.Math.max.name) (List.mem_of_getElem? (i := 5) rfl)
  have iniM := hts (.initialized "java/lang/Math") (List.mem_of_getElem? (i := 6) rfl)
  have cdmax := hts (.code Lib.Math.max.name Lib.Math.max.code 2 (some .int)) (List.mem_of_getElem? (i := 7) rfl)
  refine lv_aload_n hx hb dX5_find_0 rfl (lv_at hl 0 rfl) ?_
  refine va_get (D := D) (ci := 5) (v := .ref rs) (C := RX5) (T := TX5) (N := 1) hx hb hts inX5 hown hK hP 0 rfl rfl 0 (by decide) f9 (fun _ h9 => h9) rfl dX5_find_1 ?_
  refine lv_iconst (v := nI (0)) hx hb dX5_find_4 (by decide) ?_
  refine xk_v [(ro, .inr (5, [.ref rs])), (h, .inr (7, [.int (nI T), .int (iZ E), .int (iZ C), .ref a, .ref b, .ref c])), (a, .inl (ca 0, 20, .inl (zF L))), (c, .inl (ca 0, 400, .inl (zG G)))] (fun u => [(ro, .inr (5, [.ref rs])), (rs, .inl (ca 0, 20, .inl ((fun _ => (nI (0)))))), (h, .inr (7, [.int (nI T), .int (iZ E), .int (iZ C), .ref a, .ref b, .ref c])), (a, .inl (ca 0, 20, .inl (zF L))), (c, .inl (ca 0, 400, .inl (zG G)))]) (xk_S (As := [.ref rs, .int (nI 0)]) (rest := []) ⟨hx, hb, hml, hown, hts⟩ (mJ7_fill_53178 l D ca H.size rs 20 (zF sv) (nI (0)) (by omega)) (va_cwS 2 hts gX5_find_J7_fill_53178 rfl rfl rfl (by decide +kernel) ⟨Nat.le_of_ble_eq_true rfl, Nat.le_of_ble_eq_true rfl⟩) hK hP hD [1] rfl rfl rfl hl.1 rfl (Nat.le_of_ble_eq_true rfl) dX5_find_5 ⟨Nat.le_of_ble_eq_true rfl, Nat.le_of_ble_eq_true rfl⟩) hP hD hS hA [1] [0, 2, 3, 4] [0, 4, 1, 2, 3] rfl rfl rfl rfl (fun _ => rfl) rfl (fun u5 H locs hw5 hP hD hS => ?_)
  have hw5 : True := hw5
  have hP : va_P D vwCl [(ro, .inr (5, [.ref rs])), (rs, .inl (ca 0, 20, .inl ((fun _ => (nI (0)))))), (h, .inr (7, [.int (nI T), .int (iZ E), .int (iZ C), .ref a, .ref b, .ref c])), (a, .inl (ca 0, 20, .inl (zF L))), (c, .inl (ca 0, 400, .inl (zG G)))] H := hP
  have hD : va_D A [(ro, .inr (5, [.ref rs])), (rs, .inl (ca 0, 20, .inl ((fun _ => (nI (0)))))), (h, .inr (7, [.int (nI T), .int (iZ E), .int (iZ C), .ref a, .ref b, .ref c])), (a, .inl (ca 0, 20, .inl (zF L))), (c, .inl (ca 0, 400, .inl (zG G)))] := hD
  have hP := hP.arr 1 (zF (fun _ => 0)) rfl (fun _ _ => rfl)
  have hD := hD.set (p := 1) (e := .inl (ca 0, 20, .inl (zF (fun _ => 0)))) rfl
  have hP : va_P D vwCl [(ro, .inr (5, [.ref rs])), (rs, .inl (ca 0, 20, .inl (zF (fun _ => 0)))), (h, .inr (7, [.int (nI T), .int (iZ E), .int (iZ C), .ref a, .ref b, .ref c])), (a, .inl (ca 0, 20, .inl (zF L))), (c, .inl (ca 0, 400, .inl (zG G)))] H := hP
  have hD : va_D A [(ro, .inr (5, [.ref rs])), (rs, .inl (ca 0, 20, .inl (zF (fun _ => 0)))), (h, .inr (7, [.int (nI T), .int (iZ E), .int (iZ C), .ref a, .ref b, .ref c])), (a, .inl (ca 0, 20, .inl (zF L))), (c, .inl (ca 0, 400, .inl (zG G)))] := hD
  refine lv_iconst (v := nI (1)) hx hb dX5_find_8 (by decide) ?_
  refine lv_istore_n (lv' := [(2, .int (nI 1)), (0, .ref ro), (1, .ref h)]) hx hb dX5_find_9 rfl hl (by decide) rfl (fun ls hl => ?_)
  refine lv_iconst (v := nI (0)) hx hb dX5_find_10 (by decide) ?_
  refine lv_istore_n (lv' := [(3, .int (nI 0)), (2, .int (nI 1)), (0, .ref ro), (1, .ref h)]) hx hb dX5_find_11 rfl hl (by decide) rfl (fun ls hl => ?_)
  have L12 : ∀ (fu : Nat) (k : Nat) (s2 : Nat → Int) (m2 : Bool), (k ≤ T + 1) → (RF G T L k s2 m2) → (T + 1 - k) < fu → ∀ (H : Heap) (locs : List Loc), va_P D vwCl [(ro, .inr (5, [.ref rs])), (rs, .inl (ca 0, 20, .inl (zF s2))), (h, .inr (7, [.int (nI T), .int (iZ E), .int (iZ C), .ref a, .ref b, .ref c])), (a, .inl (ca 0, 20, .inl (zF L))), (c, .inl (ca 0, 400, .inl (zG G)))] H → va_D A [(ro, .inr (5, [.ref rs])), (rs, .inl (ca 0, 20, .inl (zF s2))), (h, .inr (7, [.int (nI T), .int (iZ E), .int (iZ C), .ref a, .ref b, .ref c])), (a, .inl (ca 0, 20, .inl (zF L))), (c, .inl (ca 0, 400, .inl (zG G)))] → va_S A s.heap H locs → ∀ ls : Array Slot, lv_has ls 5 [(3, .int (nI k)), (2, .int (bI (m2))), (0, .ref ro), (1, .ref h)] → W pG l eV rX5_find s mI args below meth cO H locs 0 0 Q (F0 mI 12 ls []) := by
    clear hP hD hS hl
    intro fu; induction fu with
    | zero => intro k s2 m2 hk hR hmu; exact absurd hmu (Nat.not_lt_zero _)
    | succ n12 ih12 =>
      intro k s2 m2 hk hR hmu12 H locs hP hD hS ls hl
      refine lv_iload_n hx hb dX5_find_12 rfl (lv_at hl 1 rfl) ?_
      refine lv_if_eq (tgt := 36) hx hb dX5_find_13 (by decide) (fun h13 => ?_) (fun h13 => ?_)
      · skip
        have h13 := bI_0.mp h13
        have hE9 := hR.2 h13
        refine lv_iconst (v := nI (0)) hx hb dX5_find_36 (by decide) ?_
        refine lv_istore_n (lv' := [(3, .int (nI 0)), (2, .int (bI (m2))), (0, .ref ro), (1, .ref h)]) hx hb dX5_find_37 rfl hl (by decide) rfl (fun ls hl => ?_)
        refine lv_iconst (v := nI (0)) hx hb dX5_find_38 (by decide) ?_
        refine lv_istore (lv' := [(4, .int (nI 0)), (3, .int (nI 0)), (2, .int (bI (m2))), (0, .ref ro), (1, .ref h)]) hx hb dX5_find_39 hl (by decide) rfl (fun ls hl => ?_)
        have L41 : ∀ (fu : Nat) (j : Nat) (q : Int), (j ≤ T) → (q = spE L s2 j) → (T - j) < fu → ∀ (H : Heap) (locs : List Loc), va_P D vwCl [(ro, .inr (5, [.ref rs])), (rs, .inl (ca 0, 20, .inl (zF s2))), (h, .inr (7, [.int (nI T), .int (iZ E), .int (iZ C), .ref a, .ref b, .ref c])), (a, .inl (ca 0, 20, .inl (zF L))), (c, .inl (ca 0, 400, .inl (zG G)))] H → va_D A [(ro, .inr (5, [.ref rs])), (rs, .inl (ca 0, 20, .inl (zF s2))), (h, .inr (7, [.int (nI T), .int (iZ E), .int (iZ C), .ref a, .ref b, .ref c])), (a, .inl (ca 0, 20, .inl (zF L))), (c, .inl (ca 0, 400, .inl (zG G)))] → va_S A s.heap H locs → ∀ ls : Array Slot, lv_has ls 5 [(4, .int (nI j)), (3, .int (iZ q)), (0, .ref ro), (1, .ref h)] → W pG l eV rX5_find s mI args below meth cO H locs 0 0 Q (F0 mI 41 ls []) := by
          clear hP hD hS hl
          intro fu; induction fu with
          | zero => intro j q hj hq hmu; exact absurd hmu (Nat.not_lt_zero _)
          | succ n41 ih41 =>
            intro j q hj hq hmu41 H locs hP hD hS ls hl
            refine lv_iload hx hb dX5_find_41 (lv_at hl 0 rfl) ?_
            refine lv_aload_n hx hb dX5_find_43 rfl (lv_at hl 3 rfl) ?_
            refine va_get (D := D) (ci := 7) (v := .int (nI T)) (C := RX7) (T := TX7) (N := 6) hx hb hts inX7 hown hK hP 2 rfl rfl 0 (by decide) f21 (fun _ h9 => h9) rfl dX5_find_44 ?_
            refine lv_icmp_ge (tgt := 76) hx hb dX5_find_47 (by decide) (fun h47 => ?_) (fun h47 => ?_)
            · skip
              have h47 := (cL (nI_toInt (by omega)) (nI_toInt (by omega))).mp h47
              refine lv_iload_n hx hb dX5_find_76 rfl (lv_at hl 1 rfl) ?_
              rw [← hE]
              exact xe_i (s2) hx hb hr hlocks hK hP hD hS (by rw [hq, show j = T by omega]; exact congrArg iZ (spE_cong (fun i9 h9 => by rw [hE9 i9 h9]))) dX5_find_77
            · skip
              have h47 := (not_congr (cL (nI_toInt (by omega)) (nI_toInt (by omega)))).mp h47
              have b1 := hE9 j (by omega)
              have b2 := es_le hT hG hL (show j < T by omega)
              have b3 := es_0 (G := G) (T := T) (L := L) j
              have b4 := hL j (by omega)
              have b5 : 0 ≤ spE L s2 j := spE_0 j
              have b6 : spE L s2 j ≤ 4200 := by rcases spE_at (L := L) (e := s2) j with h9 | ⟨i9, h9, h8⟩; (omega); (have c1 := hE9 i9 (by omega); have c2 := es_le hT hG hL (show i9 < T by omega); have c3 := hL i9 (by omega); omega)
              refine lv_iload_n hx hb dX5_find_50 rfl (lv_at hl 1 rfl) ?_
              refine lv_aload_n hx hb dX5_find_51 rfl (lv_at hl 2 rfl) ?_
              refine va_get (D := D) (ci := 5) (v := .ref rs) (C := RX5) (T := TX5) (N := 1) hx hb hts inX5 hown hK hP 0 rfl rfl 0 (by decide) f9 (fun _ h9 => h9) rfl dX5_find_52 ?_
              refine lv_iload hx hb dX5_find_55 (lv_at hl 0 rfl) ?_
              refine xr_iald hx hb hK hP 1 0 rfl rfl (by omega) (Nat.le_of_ble_eq_true rfl) (v := iZ (s2 j)) rfl dX5_find_57 ?_
              refine lv_aload_n hx hb dX5_find_58 rfl (lv_at hl 3 rfl) ?_
              refine va_get (D := D) (ci := 7) (v := .ref a) (C := RX7) (T := TX7) (N := 6) hx hb hts inX7 hown hK hP 2 rfl rfl 3 (by decide) f31 (fun _ h9 => h9) rfl dX5_find_59 ?_
              refine lv_iload hx hb dX5_find_62 (lv_at hl 0 rfl) ?_
              refine xr_iald hx hb hK hP 3 0 rfl rfl (by omega) (Nat.le_of_ble_eq_true rfl) (v := iZ (L j)) rfl dX5_find_64 ?_
              refine xr_iadd_zz hx hb dX5_find_65 ?_
              refine va_mmax hx hb (by rw [hml]; exact hl.1.symm) hown ml34 stmax iniM cdmax (Nat.le_of_ble_eq_true rfl) (Nat.le_of_ble_eq_true rfl) (Nat.zero_le _) (Nat.zero_le _) dX5_find_66 ?_
              refine xr_top (y := iZ (max q ((s2 j) + (L j)))) (imax (iZ_toInt (by omega) (by omega)) (iZ_toInt (by omega) (by omega))) ?_
              refine lv_istore_n (lv' := [(3, .int (iZ (max q ((s2 j) + (L j))))), (4, .int (nI j)), (0, .ref ro), (1, .ref h)]) hx hb dX5_find_69 rfl hl (by decide) rfl (fun ls hl => ?_)
              refine lv_iinc (v := nI (j + 1)) (lv' := [(4, .int (nI (j + 1))), (3, .int (iZ (max q ((s2 j) + (L j))))), (0, .ref ro), (1, .ref h)]) hx hb dX5_find_70 hl (k := 1) rfl (nI_add _ 1) (by decide) rfl (fun ls hl => ?_)
              refine lv_goto (tgt := 41) hx hb dX5_find_73 (by decide) ?_
              exact ih41 (j + 1) (max q ((s2 j) + (L j))) (by omega) (by rw [spE, hq]) (by omega) _ _ hP hD hS _ (lv_sub hl [0, 1, 2, 3] rfl)
        exact L41 _ 0 ((0 : Nat) : Int) (by omega) rfl (Nat.lt_succ_self _) _ _ hP hD hS _ (lv_sub hl [0, 1, 3, 4] rfl)
      · skip
        have h13 := bI_n0.mp h13
        refine lv_iload_n hx hb dX5_find_16 rfl (lv_at hl 0 rfl) ?_
        refine lv_aload_n hx hb dX5_find_17 rfl (lv_at hl 3 rfl) ?_
        refine va_get (D := D) (ci := 7) (v := .int (nI T)) (C := RX7) (T := TX7) (N := 6) hx hb hts inX7 hown hK hP 2 rfl rfl 0 (by decide) f21 (fun _ h9 => h9) rfl dX5_find_18 ?_
        refine lv_icmp_gt (tgt := 36) hx hb dX5_find_21 (by decide) (fun h21 => ?_) (fun h21 => ?_)
        · skip
          have h21 := (cT (nI_toInt (by omega)) (nI_toInt (by omega))).mp h21
          have hE9 := RF_end hR (by omega)
          refine lv_iconst (v := nI (0)) hx hb dX5_find_36 (by decide) ?_
          refine lv_istore_n (lv' := [(3, .int (nI 0)), (2, .int (bI (m2))), (0, .ref ro), (1, .ref h)]) hx hb dX5_find_37 rfl hl (by decide) rfl (fun ls hl => ?_)
          refine lv_iconst (v := nI (0)) hx hb dX5_find_38 (by decide) ?_
          refine lv_istore (lv' := [(4, .int (nI 0)), (3, .int (nI 0)), (2, .int (bI (m2))), (0, .ref ro), (1, .ref h)]) hx hb dX5_find_39 hl (by decide) rfl (fun ls hl => ?_)
          have L41 : ∀ (fu : Nat) (j : Nat) (q : Int), (j ≤ T) → (q = spE L s2 j) → (T - j) < fu → ∀ (H : Heap) (locs : List Loc), va_P D vwCl [(ro, .inr (5, [.ref rs])), (rs, .inl (ca 0, 20, .inl (zF s2))), (h, .inr (7, [.int (nI T), .int (iZ E), .int (iZ C), .ref a, .ref b, .ref c])), (a, .inl (ca 0, 20, .inl (zF L))), (c, .inl (ca 0, 400, .inl (zG G)))] H → va_D A [(ro, .inr (5, [.ref rs])), (rs, .inl (ca 0, 20, .inl (zF s2))), (h, .inr (7, [.int (nI T), .int (iZ E), .int (iZ C), .ref a, .ref b, .ref c])), (a, .inl (ca 0, 20, .inl (zF L))), (c, .inl (ca 0, 400, .inl (zG G)))] → va_S A s.heap H locs → ∀ ls : Array Slot, lv_has ls 5 [(4, .int (nI j)), (3, .int (iZ q)), (0, .ref ro), (1, .ref h)] → W pG l eV rX5_find s mI args below meth cO H locs 0 0 Q (F0 mI 41 ls []) := by
            clear hP hD hS hl
            intro fu; induction fu with
            | zero => intro j q hj hq hmu; exact absurd hmu (Nat.not_lt_zero _)
            | succ n41 ih41 =>
              intro j q hj hq hmu41 H locs hP hD hS ls hl
              refine lv_iload hx hb dX5_find_41 (lv_at hl 0 rfl) ?_
              refine lv_aload_n hx hb dX5_find_43 rfl (lv_at hl 3 rfl) ?_
              refine va_get (D := D) (ci := 7) (v := .int (nI T)) (C := RX7) (T := TX7) (N := 6) hx hb hts inX7 hown hK hP 2 rfl rfl 0 (by decide) f21 (fun _ h9 => h9) rfl dX5_find_44 ?_
              refine lv_icmp_ge (tgt := 76) hx hb dX5_find_47 (by decide) (fun h47 => ?_) (fun h47 => ?_)
              · skip
                have h47 := (cL (nI_toInt (by omega)) (nI_toInt (by omega))).mp h47
                refine lv_iload_n hx hb dX5_find_76 rfl (lv_at hl 1 rfl) ?_
                rw [← hE]
                exact xe_i (s2) hx hb hr hlocks hK hP hD hS (by rw [hq, show j = T by omega]; exact congrArg iZ (spE_cong (fun i9 h9 => by rw [hE9 i9 h9]))) dX5_find_77
              · skip
                have h47 := (not_congr (cL (nI_toInt (by omega)) (nI_toInt (by omega)))).mp h47
                have b1 := hE9 j (by omega)
                have b2 := es_le hT hG hL (show j < T by omega)
                have b3 := es_0 (G := G) (T := T) (L := L) j
                have b4 := hL j (by omega)
                have b5 : 0 ≤ spE L s2 j := spE_0 j
                have b6 : spE L s2 j ≤ 4200 := by rcases spE_at (L := L) (e := s2) j with h9 | ⟨i9, h9, h8⟩; (omega); (have c1 := hE9 i9 (by omega); have c2 := es_le hT hG hL (show i9 < T by omega); have c3 := hL i9 (by omega); omega)
                refine lv_iload_n hx hb dX5_find_50 rfl (lv_at hl 1 rfl) ?_
                refine lv_aload_n hx hb dX5_find_51 rfl (lv_at hl 2 rfl) ?_
                refine va_get (D := D) (ci := 5) (v := .ref rs) (C := RX5) (T := TX5) (N := 1) hx hb hts inX5 hown hK hP 0 rfl rfl 0 (by decide) f9 (fun _ h9 => h9) rfl dX5_find_52 ?_
                refine lv_iload hx hb dX5_find_55 (lv_at hl 0 rfl) ?_
                refine xr_iald hx hb hK hP 1 0 rfl rfl (by omega) (Nat.le_of_ble_eq_true rfl) (v := iZ (s2 j)) rfl dX5_find_57 ?_
                refine lv_aload_n hx hb dX5_find_58 rfl (lv_at hl 3 rfl) ?_
                refine va_get (D := D) (ci := 7) (v := .ref a) (C := RX7) (T := TX7) (N := 6) hx hb hts inX7 hown hK hP 2 rfl rfl 3 (by decide) f31 (fun _ h9 => h9) rfl dX5_find_59 ?_
                refine lv_iload hx hb dX5_find_62 (lv_at hl 0 rfl) ?_
                refine xr_iald hx hb hK hP 3 0 rfl rfl (by omega) (Nat.le_of_ble_eq_true rfl) (v := iZ (L j)) rfl dX5_find_64 ?_
                refine xr_iadd_zz hx hb dX5_find_65 ?_
                refine va_mmax hx hb (by rw [hml]; exact hl.1.symm) hown ml34 stmax iniM cdmax (Nat.le_of_ble_eq_true rfl) (Nat.le_of_ble_eq_true rfl) (Nat.zero_le _) (Nat.zero_le _) dX5_find_66 ?_
                refine xr_top (y := iZ (max q ((s2 j) + (L j)))) (imax (iZ_toInt (by omega) (by omega)) (iZ_toInt (by omega) (by omega))) ?_
                refine lv_istore_n (lv' := [(3, .int (iZ (max q ((s2 j) + (L j))))), (4, .int (nI j)), (0, .ref ro), (1, .ref h)]) hx hb dX5_find_69 rfl hl (by decide) rfl (fun ls hl => ?_)
                refine lv_iinc (v := nI (j + 1)) (lv' := [(4, .int (nI (j + 1))), (3, .int (iZ (max q ((s2 j) + (L j))))), (0, .ref ro), (1, .ref h)]) hx hb dX5_find_70 hl (k := 1) rfl (nI_add _ 1) (by decide) rfl (fun ls hl => ?_)
                refine lv_goto (tgt := 41) hx hb dX5_find_73 (by decide) ?_
                exact ih41 (j + 1) (max q ((s2 j) + (L j))) (by omega) (by rw [spE, hq]) (by omega) _ _ hP hD hS _ (lv_sub hl [0, 1, 2, 3] rfl)
          exact L41 _ 0 ((0 : Nat) : Int) (by omega) rfl (Nat.lt_succ_self _) _ _ hP hD hS _ (lv_sub hl [0, 1, 3, 4] rfl)
        · skip
          have h21 := (not_congr (cT (nI_toInt (by omega)) (nI_toInt (by omega)))).mp h21
          refine lv_aload_n hx hb dX5_find_24 rfl (lv_at hl 2 rfl) ?_
          refine lv_aload_n hx hb dX5_find_25 rfl (lv_at hl 3 rfl) ?_
          refine xk_i [] (fun u => [(ro, .inr (5, [.ref rs])), (rs, .inl (ca 0, 20, .inl (zF u.1))), (h, .inr (7, [.int (nI T), .int (iZ E), .int (iZ C), .ref a, .ref b, .ref c])), (a, .inl (ca 0, 20, .inl (zF L))), (c, .inl (ca 0, 400, .inl (zG G)))]) (xk_V (As := [.ref h]) (rest := []) ⟨hx, hb, hml, hown, hts⟩ (mX5_moveAll l D ca H.size ro rs s2 h a b c T E C L G (by omega) hG hac hL (RF_S0 hR)) (cwV 1 hts gX5_find_X5_moveAll rfl rfl rfl (by decide +kernel) ⟨Nat.le_of_ble_eq_true rfl, Nat.le_of_ble_eq_true rfl⟩) hK hP hD (va_recv (q := (RX5, TX5, 1)) hK hP (ci := 5) (q0 := 0) rfl rfl) [0, 1, 2, 3, 4] rfl rfl rfl hl.1 rfl (Nat.le_of_ble_eq_true rfl) dX5_find_26 ⟨Nat.le_of_ble_eq_true rfl, Nat.le_of_ble_eq_true rfl⟩) hP hD hS hA [0, 1, 2, 3, 4] [] [0, 1, 2, 3, 4] rfl rfl rfl rfl (fun _ => rfl) rfl (fun r26 u26 H locs hw26 hP hD hS => ?_)
          obtain ⟨s126, mv26⟩ := u26
          have hw26 : r26 = bI mv26 ∧ MV G T L s2 T 0 s126 mv26 := hw26
          have hP : va_P D vwCl [(ro, .inr (5, [.ref rs])), (rs, .inl (ca 0, 20, .inl (zF s126))), (h, .inr (7, [.int (nI T), .int (iZ E), .int (iZ C), .ref a, .ref b, .ref c])), (a, .inl (ca 0, 20, .inl (zF L))), (c, .inl (ca 0, 400, .inl (zG G)))] H := hP
          have hD : va_D A [(ro, .inr (5, [.ref rs])), (rs, .inl (ca 0, 20, .inl (zF s126))), (h, .inr (7, [.int (nI T), .int (iZ E), .int (iZ C), .ref a, .ref b, .ref c])), (a, .inl (ca 0, 20, .inl (zF L))), (c, .inl (ca 0, 400, .inl (zG G)))] := hD
          obtain ⟨hwr26, hv26⟩ := hw26
          subst hwr26
          refine lv_istore_n (lv' := [(2, .int (bI (mv26))), (3, .int (nI k)), (0, .ref ro), (1, .ref h)]) hx hb dX5_find_29 rfl hl (by decide) rfl (fun ls hl => ?_)
          refine lv_iinc (v := nI (k + 1)) (lv' := [(3, .int (nI (k + 1))), (2, .int (bI (mv26))), (0, .ref ro), (1, .ref h)]) hx hb dX5_find_30 hl (k := 1) rfl (nI_add _ 1) (by decide) rfl (fun ls hl => ?_)
          refine lv_goto (tgt := 12) hx hb dX5_find_33 (by decide) ?_
          exact ih12 (k + 1) s126 mv26 (by omega) (RF_s hR hv26) (by omega) _ _ hP hD hS _ (lv_sub hl [0, 1, 2, 3] rfl)
  exact L12 _ 0 (fun _ => 0) true (by omega) RF_0 (Nat.lt_succ_self _) _ _ hP hD hS _ (lv_sub hl [0, 1, 2, 3] rfl)

