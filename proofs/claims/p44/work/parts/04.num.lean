/-! numbers: an Int32 by its integer, and what arrays hold by functions -/
def iZ (z : Int) : Int32 := Int32.ofInt z
theorem iZ_n (n : Nat) : nI n = iZ (n : Int) := Int32.ofInt_eq_ofNat.symm
theorem iZ_add (a b : Int) : iZ a + iZ b = iZ (a + b) := (Int32.ofInt_add a b).symm
theorem iZ_sub (a b : Int) : iZ a - iZ b = iZ (a - b) := (Int32.ofInt_sub a b).symm
theorem iZ_mul (a b : Int) : iZ a * iZ b = iZ (a * b) := (Int32.ofInt_mul a b).symm
theorem iZ_inc (a : Int) (k : Nat) : iZ a + Int32.ofInt (k : Int) = iZ (a + k) := (Int32.ofInt_add a k).symm
theorem iZ_toInt {z : Int} (h1 : -2147483648 ≤ z) (h2 : z < 2147483648) : (iZ z).toInt = z := Int32.toInt_ofInt_of_le h1 h2
theorem z0_toInt : (0 : Int32).toInt = 0 := Int32.toInt_zero
theorem iZ_m1 : iZ (-1) = -1 := rfl
theorem cL {x y : Int32} {a b : Int} (hx : x.toInt = a) (hy : y.toInt = b) : x ≤ y ↔ a ≤ b := by rw [Int32.le_iff_toInt_le, hx, hy]
theorem cT {x y : Int32} {a b : Int} (hx : x.toInt = a) (hy : y.toInt = b) : x < y ↔ a < b := by rw [Int32.lt_iff_toInt_lt, hx, hy]
theorem cE {x y : Int32} {a b : Int} (hx : x.toInt = a) (hy : y.toInt = b) : x = y ↔ a = b := by rw [← Int32.toInt_inj, hx, hy]
theorem imax {x y : Int32} {a b : Int} (hx : x.toInt = a) (hy : y.toInt = b) : (if x < y then y else x) = iZ (max a b) := by
  have r1 := Int32.le_toInt x; have r2 := Int32.toInt_lt x; have r3 := Int32.le_toInt y; have r4 := Int32.toInt_lt y
  apply Int32.toInt_inj.mp
  rw [iZ_toInt (by omega) (by omega)]
  by_cases h : x < y
  · rw [if_pos h, hy]; have := (cT hx hy).mp h; omega
  · rw [if_neg h, hx]; have := (not_congr (cT hx hy)).mp h; omega
theorem imin {x y : Int32} {a b : Int} (hx : x.toInt = a) (hy : y.toInt = b) : (if y < x then y else x) = iZ (min a b) := by
  have r1 := Int32.le_toInt x; have r2 := Int32.toInt_lt x; have r3 := Int32.le_toInt y; have r4 := Int32.toInt_lt y
  apply Int32.toInt_inj.mp
  rw [iZ_toInt (by omega) (by omega)]
  by_cases h : y < x
  · rw [if_pos h, hy]; have := (cT hy hx).mp h; omega
  · rw [if_neg h, hx]; have := (not_congr (cT hy hx)).mp h; omega
theorem iZ_eq {a b : Int} (ha : -2147483648 ≤ a) (ha2 : a < 2147483648) (hb : -2147483648 ≤ b) (hb2 : b < 2147483648) : iZ a = iZ b ↔ a = b := cE (iZ_toInt ha ha2) (iZ_toInt hb hb2)
/-- what arrays hold -/
def zF (f : Nat → Int) : Nat → Int32 := fun i => iZ (f i)
def nF (f : Nat → Nat) : Nat → Int32 := fun i => nI (f i)
def bF (f : Nat → Bool) : Nat → Int32 := fun i => bI (f i)
def zG (G : Nat → Nat → Int) : Nat → Int32 := fun q => iZ (G (q / 20) (q % 20))
def upZ (f : Nat → Int) (k : Nat) (x : Int) : Nat → Int := fun j => if j = k then x else f j
def upN (f : Nat → Nat) (k : Nat) (x : Nat) : Nat → Nat := fun j => if j = k then x else f j
def upB (f : Nat → Bool) (k : Nat) (x : Bool) : Nat → Bool := fun j => if j = k then x else f j
def upG (G : Nat → Nat → Int) (a b : Nat) (x : Int) : Nat → Nat → Int := fun i j => if i = a ∧ j = b then x else G i j
theorem upZ_s {f : Nat → Int} {k : Nat} {x : Int} : upZ f k x k = x := if_pos rfl
theorem upZ_n {f : Nat → Int} {k j : Nat} {x : Int} (h : j ≠ k) : upZ f k x j = f j := if_neg h
theorem upN_s {f : Nat → Nat} {k : Nat} {x : Nat} : upN f k x k = x := if_pos rfl
theorem upN_n {f : Nat → Nat} {k j : Nat} {x : Nat} (h : j ≠ k) : upN f k x j = f j := if_neg h
theorem upB_s {f : Nat → Bool} {k : Nat} {x : Bool} : upB f k x k = x := if_pos rfl
theorem upB_n {f : Nat → Bool} {k j : Nat} {x : Bool} (h : j ≠ k) : upB f k x j = f j := if_neg h
theorem zF_up (f : Nat → Int) (k : Nat) (x : Int) (j : Nat) : upd (zF f) k (iZ x) j = zF (upZ f k x) j := by
  unfold upd zF upZ; split <;> rfl
theorem zF_upn (f : Nat → Int) (k : Nat) (x : Nat) (j : Nat) : upd (zF f) k (nI x) j = zF (upZ f k (x : Int)) j := by rw [iZ_n]; exact zF_up f k x j
theorem nF_up (f : Nat → Nat) (k : Nat) (x : Nat) (j : Nat) : upd (nF f) k (nI x) j = nF (upN f k x) j := by
  unfold upd nF upN; split <;> rfl
theorem bF_up (f : Nat → Bool) (k : Nat) (x : Bool) (j : Nat) : upd (bF f) k (vp_nar .boolean (bI x)) j = bF (upB f k x) j := by
  rw [bI_vp]; unfold upd bF upB; split <;> rfl
theorem bF_up0 (f : Nat → Bool) (k : Nat) (j : Nat) : upd (bF f) k (vp_nar .boolean (nI 0)) j = bF (upB f k false) j := bF_up f k false j
theorem bF_up1 (f : Nat → Bool) (k : Nat) (j : Nat) : upd (bF f) k (vp_nar .boolean (nI 1)) j = bF (upB f k true) j := bF_up f k true j
theorem zG_at (G : Nat → Nat → Int) {a b : Nat} (hb : b < 20) : zG G (a * 20 + b) = iZ (G a b) := by
  unfold zG
  rw [show (a * 20 + b) / 20 = a by omega, show (a * 20 + b) % 20 = b by omega]
theorem zG_at2 (G : Nat → Nat → Int) {a b : Nat} (hb : b < 20) : zG G (20 * a + b) = iZ (G a b) := by rw [Nat.mul_comm]; exact zG_at G hb
theorem zG_up (G : Nat → Nat → Int) {a b : Nat} (hb : b < 20) (x : Int) (j : Nat) : upd (zG G) (a * 20 + b) (iZ x) j = zG (upG G a b x) j := by
  unfold upd zG upG
  by_cases h : j = a * 20 + b
  · rw [if_pos h, if_pos (by omega)]
  · rw [if_neg h, if_neg (by omega)]
theorem zG_up2 (G : Nat → Nat → Int) {a b : Nat} (hb : b < 20) (x : Int) (j : Nat) : upd (zG G) (20 * a + b) (iZ x) j = zG (upG G a b x) j := by rw [Nat.mul_comm]; exact zG_up G hb x j
/-- a world's array by another content, the same below its length -/
theorem zF_const (x : Int) : (fun _ => iZ x) = zF (fun _ => x) := rfl
section XN
variable {p : Program} {l : Launch} {e : Env} {R : Room} {s : State} {m : MethodId} {args : Array Value} {below : List Frame} {meth : Method} {c : Code} {H : Heap} {locs : List Loc} {cells slots : Nat} {Q : State → Prop}
variable {cc : ByteArray} {pc : Nat} {ls : Array Slot} {rest : List Value}
theorem xr_iadd_zz (hx : p.tables.exec = Jvm.exec) (hb : c.code = cc) {a b : Int} (hdg : decode cc pc = .ok (.iadd, 1)) (k : W p l e R s m args below meth c H locs cells slots Q (F0 m (pc + 1) ls (.int (iZ (a + b)) :: rest))) : W p l e R s m args below meth c H locs cells slots Q (F0 m pc ls (.int (iZ b) :: .int (iZ a) :: rest)) := lv_iadd hx hb hdg (by rw [iZ_add]; exact k)
theorem xr_iadd_nz (hx : p.tables.exec = Jvm.exec) (hb : c.code = cc) {a : Nat} {b : Int} (hdg : decode cc pc = .ok (.iadd, 1)) (k : W p l e R s m args below meth c H locs cells slots Q (F0 m (pc + 1) ls (.int (iZ ((a : Nat) + b)) :: rest))) : W p l e R s m args below meth c H locs cells slots Q (F0 m pc ls (.int (iZ b) :: .int (nI a) :: rest)) := by rw [iZ_n]; exact xr_iadd_zz hx hb hdg k
theorem xr_iadd_zn (hx : p.tables.exec = Jvm.exec) (hb : c.code = cc) {a : Int} {b : Nat} (hdg : decode cc pc = .ok (.iadd, 1)) (k : W p l e R s m args below meth c H locs cells slots Q (F0 m (pc + 1) ls (.int (iZ (a + (b : Nat))) :: rest))) : W p l e R s m args below meth c H locs cells slots Q (F0 m pc ls (.int (nI b) :: .int (iZ a) :: rest)) := by rw [iZ_n]; exact xr_iadd_zz hx hb hdg k
theorem xr_isub_zz (hx : p.tables.exec = Jvm.exec) (hb : c.code = cc) {a b : Int} (hdg : decode cc pc = .ok (.isub, 1)) (k : W p l e R s m args below meth c H locs cells slots Q (F0 m (pc + 1) ls (.int (iZ (a - b)) :: rest))) : W p l e R s m args below meth c H locs cells slots Q (F0 m pc ls (.int (iZ b) :: .int (iZ a) :: rest)) := lv_isub hx hb hdg (by rw [iZ_sub]; exact k)
theorem xr_isub_nz (hx : p.tables.exec = Jvm.exec) (hb : c.code = cc) {a : Nat} {b : Int} (hdg : decode cc pc = .ok (.isub, 1)) (k : W p l e R s m args below meth c H locs cells slots Q (F0 m (pc + 1) ls (.int (iZ ((a : Nat) - b)) :: rest))) : W p l e R s m args below meth c H locs cells slots Q (F0 m pc ls (.int (iZ b) :: .int (nI a) :: rest)) := by rw [iZ_n]; exact xr_isub_zz hx hb hdg k
theorem xr_isub_zn (hx : p.tables.exec = Jvm.exec) (hb : c.code = cc) {a : Int} {b : Nat} (hdg : decode cc pc = .ok (.isub, 1)) (k : W p l e R s m args below meth c H locs cells slots Q (F0 m (pc + 1) ls (.int (iZ (a - (b : Nat))) :: rest))) : W p l e R s m args below meth c H locs cells slots Q (F0 m pc ls (.int (nI b) :: .int (iZ a) :: rest)) := by rw [iZ_n]; exact xr_isub_zz hx hb hdg k
theorem xr_isub_nn (hx : p.tables.exec = Jvm.exec) (hb : c.code = cc) {a b : Nat} (hdg : decode cc pc = .ok (.isub, 1)) (k : W p l e R s m args below meth c H locs cells slots Q (F0 m (pc + 1) ls (.int (iZ ((a : Nat) - (b : Nat) : Int)) :: rest))) : W p l e R s m args below meth c H locs cells slots Q (F0 m pc ls (.int (nI b) :: .int (nI a) :: rest)) := by rw [iZ_n, iZ_n]; exact xr_isub_zz hx hb hdg k
theorem xr_imul_zz (hx : p.tables.exec = Jvm.exec) (hb : c.code = cc) {a b : Int} (hdg : decode cc pc = .ok (.imul, 1)) (k : W p l e R s m args below meth c H locs cells slots Q (F0 m (pc + 1) ls (.int (iZ (a * b)) :: rest))) : W p l e R s m args below meth c H locs cells slots Q (F0 m pc ls (.int (iZ b) :: .int (iZ a) :: rest)) := lv_imul hx hb hdg (by rw [iZ_mul]; exact k)
theorem xr_imul_nz (hx : p.tables.exec = Jvm.exec) (hb : c.code = cc) {a : Nat} {b : Int} (hdg : decode cc pc = .ok (.imul, 1)) (k : W p l e R s m args below meth c H locs cells slots Q (F0 m (pc + 1) ls (.int (iZ ((a : Nat) * b)) :: rest))) : W p l e R s m args below meth c H locs cells slots Q (F0 m pc ls (.int (iZ b) :: .int (nI a) :: rest)) := by rw [iZ_n]; exact xr_imul_zz hx hb hdg k
theorem xr_imul_zn (hx : p.tables.exec = Jvm.exec) (hb : c.code = cc) {a : Int} {b : Nat} (hdg : decode cc pc = .ok (.imul, 1)) (k : W p l e R s m args below meth c H locs cells slots Q (F0 m (pc + 1) ls (.int (iZ (a * (b : Nat))) :: rest))) : W p l e R s m args below meth c H locs cells slots Q (F0 m pc ls (.int (nI b) :: .int (iZ a) :: rest)) := by rw [iZ_n]; exact xr_imul_zz hx hb hdg k
/-- arraycopy of a whole row: the target's content is the source's -/
theorem xr_copy {D : va_G} {ca : Nat → ClassId} {A : Nat → Prop} {ws : va_W} {H0 : Heap} {own : String} {index : Nat} {a a0 : Nat} {c0 c1 : ClassId} {f g : Nat → Int32} {n : Nat} (h : Nat → Int32) (hx : p.tables.exec = Jvm.exec) (hb : c.code = cc) (hml : c.maxLocals = ls.size) (hown : s.vm.findClass own = some m.cls) (hlink : (Cond.methodLink own index arraycopyName).before args s = true) (hnat : (Cond.native arraycopyName).before args s = true) (hstat : (Cond.static arraycopyName).before args s = true) (hini : (Cond.initialized "java/lang/System").before args s = true)
    (hK : va_K D vwCl (TY ca) s) (hP : va_P D vwCl ws H) (hD : va_D A ws) (hS : va_S A H0 H locs) (q0 q1 t0 : Nat) (ha0 : ws[q0]? = some (a0, .inl (c0, n, .inl f))) (ha1 : ws[q1]? = some (a, .inl (c1, n, .inl g))) (ht0 : (TY ca)[t0]? = some (c0, .int)) (ht1 : (TY ca)[t0]? = some (c1, .int)) (hn : n < 2 ^ 31)
    (hframes : 1 ≤ R.frames) (hl1 : (rest.map fun v => v.category).sum ≤ 8) (hlocals : 26 ≤ R.locals) (hh : ∀ j, j < n → f j = h j) (hdg : decode cc pc = .ok (.invokestatic index, 3))
    (kk : ∀ (H1 : Heap) (locs1 : List Loc), va_P D vwCl (ws.set q1 (a, .inl (c1, n, .inl h))) H1 → va_D A (ws.set q1 (a, .inl (c1, n, .inl h))) → va_S A H0 H1 locs1 → W p l e R s m args below meth c H1 locs1 cells slots Q (F0 m (pc + 3) ls rest)) : W p l e R s m args below meth c H locs cells slots Q (F0 m pc ls (.int (nI n) :: .int (nI 0) :: .ref a :: .int (nI 0) :: .ref a0 :: rest)) := by
  have hl := (List.getElem?_eq_some_iff.mp ha1).1
  have e0 : (nI 0).toNatClampNeg = 0 := rfl
  have en : (nI n).toNatClampNeg = n := nI_clamp hn
  have hw : nativeFrameWords "java/lang/System" "arraycopy" 5 ≤ 7 := by decide
  refine va_copyi hx hb hml hown hlink hnat hstat hini hK hP hD hS q0 q1 t0 t0 ha0 ha1 ht0 ht1 rfl (nI_pos (by decide)) (nI_pos (by decide)) (nI_pos hn) (by rw [e0, en]; omega) (by rw [e0, en]; omega) (fun i _ => rfl) hframes (by omega) hdg (fun H1 locs1 hP1 hD1 hS1 => ?_)
  rw [e0, en] at hP1 hD1
  have hg : ∀ j, j < n → va_cpy f g 0 0 n j = h j := fun j hj => by rw [pk_cpy_in (Nat.zero_le j) (by omega)]; simpa using hh j hj
  have hP2 := hP1.arr q1 h (List.getElem?_set_self hl) hg
  have hD2 := hD1.set (e := .inl (c1, n, .inl h)) (List.getElem?_set_self hl)
  rw [List.set_set] at hP2 hD2
  exact kk H1 locs1 hP2 hD2 hS1
end XN
