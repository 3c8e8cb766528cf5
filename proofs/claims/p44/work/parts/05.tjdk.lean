def rJ7_fill_53178 : Room := { frames := 0, cells := 0, slots := 0, locals := 0 }
set_option maxHeartbeats 4000000 in
set_option maxRecDepth 100000 in
theorem mJ7_fill_53178 (l : Launch) (D : va_G) (ca : Nat → ClassId) (sz : Nat) (a : Nat) (n : Nat) (f : Nat → Int32) (x : Int32) (hn : n < 2 ^ 31) : MM l yJ7_fill_53178 wsJ7_fill_53178 rJ7_fill_53178 D ca [.ref a, .int (x)] sz [(a, .inl (ca 0, n, .inl f))] (QV D ca (fun (u : Unit) => True) (fun _ => [(a, .inl (ca 0, n, .inl ((fun _ => x))))])) := by
  refine MM_of (cc := cJ7_fill_53178) (maxL := 4) (ret := none) (lv0 := [(0, .ref a), (1, .int (x))]) RJ7 (by decide) rfl rfl (Nat.le_of_ble_eq_true rfl) rfl ?_
  intro pG eV s mI args below meth cO hx hb hr hml hts hown hlocks hnm A hA H locs hsz hP hK hD hS Q hE ls hl
  refine lv_iconst (v := nI (0)) hx hb dJ7_fill_53178_0 (by decide) ?_
  refine lv_istore_n (lv' := [(2, .int (nI 0)), (0, .ref a), (1, .int (x))]) hx hb dJ7_fill_53178_1 rfl hl (by decide) rfl (fun ls hl => ?_)
  refine lv_aload_n hx hb dJ7_fill_53178_2 rfl (lv_at hl 1 rfl) ?_
  refine va_alen (v := nI n) hx hb hK hP 0 0 rfl rfl rfl dJ7_fill_53178_3 ?_
  refine lv_istore_n (lv' := [(3, .int (nI n)), (2, .int (nI 0)), (0, .ref a), (1, .int (x))]) hx hb dJ7_fill_53178_4 rfl hl (by decide) rfl (fun ls hl => ?_)
  have L5 : ∀ (fu : Nat) (k : Nat), (k ≤ n) → (n - k) < fu → ∀ (H : Heap) (locs : List Loc), va_P D vwCl [(a, .inl (ca 0, n, .inl ((fillF f x k))))] H → va_D A [(a, .inl (ca 0, n, .inl ((fillF f x k))))] → va_S A s.heap H locs → ∀ ls : Array Slot, lv_has ls 4 [(3, .int (nI n)), (2, .int (nI k)), (0, .ref a), (1, .int (x))] → W pG l eV rJ7_fill_53178 s mI args below meth cO H locs 0 0 Q (F0 mI 5 ls []) := by
    clear hP hD hS hl
    intro fu; induction fu with
    | zero => intro k hk hmu; exact absurd hmu (Nat.not_lt_zero _)
    | succ n5 ih5 =>
      intro k hk hmu5 H locs hP hD hS ls hl
      refine lv_iload_n hx hb dJ7_fill_53178_5 rfl (lv_at hl 1 rfl) ?_
      refine lv_iload_n hx hb dJ7_fill_53178_6 rfl (lv_at hl 0 rfl) ?_
      refine lv_icmp_ge (tgt := 20) hx hb dJ7_fill_53178_7 (by decide) (fun h7 => ?_) (fun h7 => ?_)
      · skip
        have h7 := (cL (nI_toInt (by omega)) (nI_toInt (by omega))).mp h7
        have hP := hP.arr 0 ((fun _ => x)) rfl (fun j hj => if_pos (show j < k by omega))
        have hD := hD.set (p := 0) (e := .inl (ca 0, n, .inl ((fun _ => x)))) rfl
        have hP : va_P D vwCl [(a, .inl (ca 0, n, .inl ((fun _ => x))))] H := hP
        have hD : va_D A [(a, .inl (ca 0, n, .inl ((fun _ => x))))] := hD
        rw [← hE]
        exact xe_v () hx hb hr hlocks hK hP hD hS trivial dJ7_fill_53178_20
      · skip
        have h7 := (not_congr (cL (nI_toInt (by omega)) (nI_toInt (by omega)))).mp h7
        refine lv_aload_n hx hb dJ7_fill_53178_10 rfl (lv_at hl 2 rfl) ?_
        refine lv_iload_n hx hb dJ7_fill_53178_11 rfl (lv_at hl 1 rfl) ?_
        refine lv_iload_n hx hb dJ7_fill_53178_12 rfl (lv_at hl 3 rfl) ?_
        refine xr_iast hx hb hK hP hD hS 0 0 rfl rfl (by omega) hn (upd (fillF f x k) k (x)) (fun _ _ => rfl) dJ7_fill_53178_13 (fun H locs hP hD hS => ?_)
        have hP : va_P D vwCl [(a, .inl (ca 0, n, .inl ((upd (fillF f x k) k (x)))))] H := hP
        have hD : va_D A [(a, .inl (ca 0, n, .inl ((upd (fillF f x k) k (x)))))] := hD
        refine lv_iinc (v := nI (k + 1)) (lv' := [(2, .int (nI (k + 1))), (3, .int (nI n)), (0, .ref a), (1, .int (x))]) hx hb dJ7_fill_53178_14 hl (k := 1) rfl (nI_add _ 1) (by decide) rfl (fun ls hl => ?_)
        refine lv_goto (tgt := 5) hx hb dJ7_fill_53178_17 (by decide) ?_
        have hP := hP.arr 0 (fillF f x (k + 1)) rfl (fun j _ => fillF_s f x k j)
        have hD := hD.set (p := 0) (e := .inl (ca 0, n, .inl (fillF f x (k + 1)))) rfl
        have hP : va_P D vwCl [(a, .inl (ca 0, n, .inl ((fillF f x (k + 1)))))] H := hP
        have hD : va_D A [(a, .inl (ca 0, n, .inl ((fillF f x (k + 1)))))] := hD
        exact ih5 (k + 1) (by omega) (by omega) _ _ hP hD hS _ (lv_sub hl [1, 0, 2, 3] rfl)
  have hP := hP.arr 0 (fillF f x 0) rfl (fun j _ => (if_neg (Nat.not_lt_zero j)).symm)
  have hD := hD.set (p := 0) (e := .inl (ca 0, n, .inl (fillF f x 0))) rfl
  have hP : va_P D vwCl [(a, .inl (ca 0, n, .inl ((fillF f x 0))))] H := hP
  have hD : va_D A [(a, .inl (ca 0, n, .inl ((fillF f x 0))))] := hD
  exact L5 _ 0 (by omega) (Nat.lt_succ_self _) _ _ hP hD hS _ (lv_sub hl [0, 1, 2, 3] rfl)

