/-- a state's parts: tasks, dependencies, crews, lengths, needs, lags -/
abbrev PS : Type := Nat × Int × Int × (Nat → Int) × (Nat → Int) × (Nat → Nat → Int)
def upS (f : Nat → PS) (k : Nat) (x : PS) : Nat → PS := fun j => if j = k then x else f j
theorem upS_s {f : Nat → PS} {k : Nat} {x : PS} : upS f k x k = x := if_pos rfl
theorem upS_n {f : Nat → PS} {k j : Nat} {x : PS} (h : j ≠ k) : upS f k x j = f j := if_neg h
/-- the history's five places -/
def hs5 (a b c d e : Nat) : Nat → Option Nat
  | 0 => some a
  | 1 => some b
  | 2 => some c
  | 3 => some d
  | 4 => some e
  | _ => none
section XN2
variable {p : Program} {l : Launch} {e : Env} {R : Room} {s : State} {m : MethodId} {args : Array Value} {below : List Frame} {meth : Method} {c : Code} {H : Heap} {locs : List Loc} {cells slots : Nat} {Q : State → Prop}
variable {cc : ByteArray} {pc : Nat} {ls : Array Slot} {rest : List Value}
theorem xr_irem (hx : p.tables.exec = Jvm.exec) (hb : c.code = cc) {a d : Nat} (ha : a < 2 ^ 31) (h0 : 0 < d) (hd : d < 2 ^ 31) (hdg : decode cc pc = .ok (.irem, 1)) (k : W p l e R s m args below meth c H locs cells slots Q (F0 m (pc + 1) ls (.int (nI (a % d)) :: rest))) : W p l e R s m args below meth c H locs cells slots Q (F0 m pc ls (.int (nI d) :: .int (nI a) :: rest)) :=
  lv_irem hx hb hdg (nI_ne0 h0 hd) (by rw [pk_rem ha h0 hd]; exact k)
theorem xr_idiv (hx : p.tables.exec = Jvm.exec) (hb : c.code = cc) {a d : Nat} (ha : a < 2 ^ 31) (h0 : 0 < d) (hd : d < 2 ^ 31) (hdg : decode cc pc = .ok (.idiv, 1)) (k : W p l e R s m args below meth c H locs cells slots Q (F0 m (pc + 1) ls (.int (nI (a / d)) :: rest))) : W p l e R s m args below meth c H locs cells slots Q (F0 m pc ls (.int (nI d) :: .int (nI a) :: rest)) :=
  lv_idiv hx hb hdg (nI_ne0 h0 hd) (by rw [pk_div ha h0 hd]; exact k)
theorem xr_aald (hx : p.tables.exec = Jvm.exec) (hb : c.code = cc) {D : va_G} {ca : Nat → ClassId} {ws : va_W} {a : Nat} (hK : va_K D vwCl (TY ca) s) (hP : va_P D vwCl ws H) (q0 t0 : Nat) {cA : ClassId} {C : String} {n : Nat} {f : Nat → Option Nat} (ha : ws[q0]? = some (a, .inl (cA, n, .inr (.inr (.inr (.inr f)))))) (ht : (TY ca)[t0]? = some (cA, .object C)) {k K v : Nat} (hk : k = K) (hn : K < n) (hn2 : n < 2 ^ 31) (hv : f K = some v) (hdg : decode cc pc = .ok (.aaload, 1))
    (kk : W p l e R s m args below meth c H locs cells slots Q (F0 m (pc + 1) ls (.ref v :: rest))) : W p l e R s m args below meth c H locs cells slots Q (F0 m pc ls (.int (nI k) :: .ref a :: rest)) := by
  subst hk
  refine va_aldq hx hb hK hP q0 t0 ha ht (vp_in_nI hn hn2) hdg ?_
  rw [nI_clamp (by omega), hv]
  exact kk
end XN2
