/-! a part of a whole is no more than one, as a double too -/
theorem nst_le {A B M : Nat} (hB : 0 < B) (h : A ≤ M * B) : Jvm.FP.Core.nearest A B ≤ M := by
  have hd := Nat.div_add_mod A B
  have hm := Nat.mod_lt A hB
  have h1 : A / B ≤ M := by
    have := Nat.div_le_div_right (c := B) h
    rw [Nat.mul_div_cancel _ hB] at this; exact this
  unfold Jvm.FP.Core.nearest
  by_cases q : A / B = M
  · have h2 : A % B = 0 := by
      rw [q, Nat.mul_comm] at hd; omega
    rw [h2, if_pos (by omega)]; exact h1
  · split
    · exact h1
    · split <;> omega
theorem nst_ge {A B M : Nat} (hB : 0 < B) (h : M * B ≤ A) : M ≤ Jvm.FP.Core.nearest A B := by
  have h1 : M ≤ A / B := by
    have := Nat.div_le_div_right (c := B) h
    rw [Nat.mul_div_cancel _ hB] at this; exact this
  unfold Jvm.FP.Core.nearest
  split
  · exact h1
  · split <;> omega
theorem fv_all : (List.range 8192).all (fun v => decide (fiv v = if v = 0 then .fin false 0 (-1074) else .fin false (v * 2 ^ (52 - v.log2)) ((v.log2 : Int) - 52))) = true := by decide +kernel
theorem fv_at {v : Nat} (h : v < 8192) : fiv v = if v = 0 then .fin false 0 (-1074) else .fin false (v * 2 ^ (52 - v.log2)) ((v.log2 : Int) - 52) :=
  of_decide_eq_true (List.all_eq_true.mp fv_all v (List.mem_range.mpr h))
theorem dd_of {a b : Nat} (ha : a < 8192) (hb : b < 8192) : FP.ddiv (FP.i2d (nI a)) (FP.i2d (nI b)) = UInt64.ofNat (Jvm.FP.Core.encode Jvm.FP.Core.b64 (Jvm.FP.Core.quotient Jvm.FP.Core.b64 (fiv a) (fiv b))) := by
  have ea : ∀ v, v < 8192 → (FP.i2d (nI v)).toNat = (Jvm.FP.Core.fromInt Jvm.FP.Core.b64 (v : Int)) % 2 ^ 64 := fun v hv => by
    show (UInt64.ofNat (Jvm.FP.Core.fromInt Jvm.FP.Core.b64 (nI v).toInt)).toNat = _
    rw [nI_toInt (by omega), UInt64.toNat_ofNat']
  show UInt64.ofNat (Jvm.FP.Core.encode Jvm.FP.Core.b64 (Jvm.FP.Core.quotient Jvm.FP.Core.b64 (Jvm.FP.Core.decode Jvm.FP.Core.b64 (FP.i2d (nI a)).toNat) (Jvm.FP.Core.decode Jvm.FP.Core.b64 (FP.i2d (nI b)).toNat))) = _
  rw [ea a ha, ea b hb]
  rfl
theorem enc_dec {m : Nat} {q : Int} (h1 : 4503599627370496 ≤ m) (h2 : m < 9007199254740992) (h3 : -1074 ≤ q) (h4 : q ≤ 900) : Jvm.FP.Core.decode Jvm.FP.Core.b64 ((Jvm.FP.Core.encode Jvm.FP.Core.b64 (.fin false m q)) % 2 ^ 64) = .fin false m q := by
  have e1 : Jvm.FP.Core.b64.tails = 4503599627370496 := by decide +kernel
  have e2 : Jvm.FP.Core.b64.exps = 2048 := by decide +kernel
  have e3 : Jvm.FP.Core.b64.qmin = -1074 := by decide +kernel
  have k : Jvm.FP.Core.encode Jvm.FP.Core.b64 (.fin false m q) = ((q + 1074).toNat + 1) * 4503599627370496 + (m - 4503599627370496) := by
    show (if m < Jvm.FP.Core.b64.tails then Jvm.FP.Core.assemble Jvm.FP.Core.b64 false 0 m else Jvm.FP.Core.assemble Jvm.FP.Core.b64 false ((q - Jvm.FP.Core.b64.qmin).toNat + 1) (m - Jvm.FP.Core.b64.tails)) = _
    rw [e1, if_neg (by omega)]
    unfold Jvm.FP.Core.assemble
    rw [e1, e2, e3]
    show (0 * 2048 + ((q - -1074).toNat + 1)) * 4503599627370496 + (m - 4503599627370496) = _
    omega
  rw [k]
  have hE : ∃ E : Nat, E = (q + 1074).toNat + 1 := ⟨_, rfl⟩
  obtain ⟨E, hE⟩ := hE
  have ht : ∃ t : Nat, t = m - 4503599627370496 := ⟨_, rfl⟩
  obtain ⟨t, ht⟩ := ht
  rw [← hE, ← ht]
  have f1 : (E * 4503599627370496 + t) % 2 ^ 64 / 4503599627370496 % 2048 = E := by omega
  have f2 : (E * 4503599627370496 + t) % 2 ^ 64 % 4503599627370496 = t := by omega
  have f3 : ((E * 4503599627370496 + t) % 2 ^ 64 / 4503599627370496 / 2048 % 2 == 1) = false := by
    rw [show (E * 4503599627370496 + t) % 2 ^ 64 / 4503599627370496 / 2048 % 2 = 0 by omega]; rfl
  unfold Jvm.FP.Core.decode Jvm.FP.Core.fieldE Jvm.FP.Core.fieldT Jvm.FP.Core.fieldS
  rw [e1, e2, e3, f1, f2, f3, if_neg (by omega), if_neg (by omega), show 4503599627370496 + t = m by omega, show (-1074 : Int) + ((E : Int) - 1) = q by omega]
/-- the rounded part: a number of 53 digits that is no more than one -/
theorem rr_one {a b : Nat} (h0 : 0 < a) (hab : a ≤ b) (hb : b < 8192) : ∃ (m : Nat) (q : Int), Jvm.FP.Core.quotient Jvm.FP.Core.b64 (fiv a) (fiv b) = .fin false m q ∧ 4503599627370496 ≤ m ∧ m < 9007199254740992 ∧ -1074 ≤ q ∧ (q ≤ -53 ∨ (q = -52 ∧ m = 4503599627370496)) := by
  have e3 : Jvm.FP.Core.b64.qmin = -1074 := by decide +kernel
  have e4 : Jvm.FP.Core.b64.qmax = 971 := by decide +kernel
  have e5 : (2 : Nat) ^ Jvm.FP.Core.b64.p = 9007199254740992 := by decide +kernel
  have e6 : Jvm.FP.Core.b64.tails = 4503599627370496 := by decide +kernel
  have e7 : (Jvm.FP.Core.b64.p : Int) - 1 = 52 := by decide +kernel
  have rng : ∀ v, 0 < v → v < 8192 → 4503599627370496 ≤ v * 2 ^ (52 - v.log2) ∧ v * 2 ^ (52 - v.log2) < 9007199254740992 ∧ v.log2 ≤ 12 := fun v hv hv2 => by
    have a1 := Nat.log2_self_le (n := v) (by omega)
    have a2 := Nat.lt_log2_self (n := v)
    have a3 : v.log2 ≤ 12 := by
      have := (Nat.log2_lt (n := v) (k := 13) (by omega)).mpr hv2
      omega
    have p1 : 2 ^ v.log2 * 2 ^ (52 - v.log2) = 4503599627370496 := by rw [← Nat.pow_add, show v.log2 + (52 - v.log2) = 52 by omega]
    have p2 : 2 ^ (v.log2 + 1) * 2 ^ (52 - v.log2) = 9007199254740992 := by rw [← Nat.pow_add, show v.log2 + 1 + (52 - v.log2) = 53 by omega]
    refine ⟨?_, ?_, a3⟩
    · rw [← p1]; exact Nat.mul_le_mul_right _ a1
    · rw [← p2]; exact Nat.mul_lt_mul_of_pos_right a2 (Nat.two_pow_pos _)
  have ra := rng a h0 (by omega)
  have rb := rng b (by omega) hb
  have hl : a.log2 ≤ b.log2 := by
    have a1 := Nat.log2_self_le (n := a) (by omega)
    exact (Nat.le_log2 (n := b) (by omega)).mpr (by omega)
  rw [fv_at (show a < 8192 by omega), fv_at hb, if_neg (show a ≠ 0 by omega), if_neg (show b ≠ 0 by omega)]
  have heq : a.log2 = b.log2 → a * 2 ^ (52 - a.log2) ≤ b * 2 ^ (52 - b.log2) := fun h => by rw [h]; exact Nat.mul_le_mul_right _ hab
  generalize a * 2 ^ (52 - a.log2) = c at ra heq ⊢
  generalize b * 2 ^ (52 - b.log2) = d at rb heq ⊢
  generalize a.log2 = x at ra hl heq ⊢
  generalize b.log2 = y at rb hl heq ⊢
  have l1 : c.log2 = 52 := (Nat.log2_eq_iff (by omega)).mpr ⟨by omega, by omega⟩
  have l2 : d.log2 = 52 := (Nat.log2_eq_iff (by omega)).mpr ⟨by omega, by omega⟩
  show ∃ (m : Nat) (q : Int), (if d = 0 then _ else Jvm.FP.Core.roundRatio Jvm.FP.Core.b64 (false != false) c d (((x : Int) - 52) - ((y : Int) - 52))) = .fin false m q ∧ _
  rw [if_neg (by omega)]
  unfold Jvm.FP.Core.roundRatio
  rw [if_neg (by omega)]
  have hlead : Jvm.FP.Core.leading c d = if d ≤ c then 0 else -1 := by
    unfold Jvm.FP.Core.leading
    rw [l1, l2]
    show (if d * 2 ^ (0 : Int).toNat ≤ c * 2 ^ (-(0 : Int)).toNat then (0 : Int) else 0 - 1) = _
    rw [show d * 2 ^ (0 : Int).toNat = d from Nat.mul_one d, show c * 2 ^ (-(0 : Int)).toNat = c from Nat.mul_one c]
    split <;> rfl
  have fin9 : ∀ (n : Nat) (Q : Int), 4503599627370496 ≤ n → n ≤ 9007199254740992 → -1000 ≤ Q → Q ≤ 0 → (Q ≤ -53 ∨ (Q = -52 ∧ n = 4503599627370496)) →
      ∃ (m : Nat) (q : Int), Jvm.FP.Core.settle Jvm.FP.Core.b64 (false != false) n Q = .fin false m q ∧ 4503599627370496 ≤ m ∧ m < 9007199254740992 ∧ -1074 ≤ q ∧ (q ≤ -53 ∨ (q = -52 ∧ m = 4503599627370496)) := fun n Q g1 g2 g3 g4 g5 => by
    unfold Jvm.FP.Core.settle Jvm.FP.Core.bound
    rw [e4, e5, e6]
    by_cases q : n < 9007199254740992
    · rw [if_pos q, if_pos (by omega)]
      exact ⟨n, Q, rfl, by omega, q, by omega, g5⟩
    · rw [if_neg q, if_pos (by omega)]
      exact ⟨4503599627370496, Q + 1, rfl, by omega, by omega, by omega, by omega⟩
  unfold Jvm.FP.Core.roundAt Jvm.FP.Core.quantum Jvm.FP.Core.unitsNum Jvm.FP.Core.unitsDen
  rw [hlead, e3, e7]
  by_cases q : d ≤ c
  · rw [if_pos q]
    have hQ : max (-1074 : Int) (0 + ((x : Int) - 52 - ((y : Int) - 52)) - 52) = (x : Int) - y - 52 := by omega
    rw [hQ, show ((x : Int) - 52 - ((y : Int) - 52) - ((x : Int) - y - 52)).toNat = 52 by omega, show ((x : Int) - y - 52 - ((x : Int) - 52 - ((y : Int) - 52))).toNat = 0 by omega]
    have n1 := nst_ge (A := c * 2 ^ 52) (B := d * 2 ^ 0) (M := 4503599627370496) (by omega) (by omega)
    have n2 := nst_le (A := c * 2 ^ 52) (B := d * 2 ^ 0) (M := 9007199254740992) (by omega) (by omega)
    refine fin9 _ _ n1 n2 (by omega) (by omega) ?_
    by_cases q2 : x = y
    · have := heq q2
      have n3 := nst_le (A := c * 2 ^ 52) (B := d * 2 ^ 0) (M := 4503599627370496) (by omega) (by omega)
      exact Or.inr ⟨by omega, by omega⟩
    · exact Or.inl (by omega)
  · rw [if_neg q]
    have hQ : max (-1074 : Int) (-1 + ((x : Int) - 52 - ((y : Int) - 52)) - 52) = (x : Int) - y - 53 := by omega
    rw [hQ, show ((x : Int) - 52 - ((y : Int) - 52) - ((x : Int) - y - 53)).toNat = 53 by omega, show ((x : Int) - y - 53 - ((x : Int) - 52 - ((y : Int) - 52))).toNat = 0 by omega]
    have n1 := nst_ge (A := c * 2 ^ 53) (B := d * 2 ^ 0) (M := 4503599627370496) (by omega) (by omega)
    have n2 := nst_le (A := c * 2 ^ 53) (B := d * 2 ^ 0) (M := 9007199254740992) (by omega) (by omega)
    exact fin9 _ _ n1 n2 (by omega) (by omega) (Or.inl (by omega))
theorem dc1 : Jvm.FP.Core.decode Jvm.FP.Core.b64 FP.dconst1.toNat = .fin false 4503599627370496 (-52) := by decide +kernel
theorem dc0 : Jvm.FP.Core.decode Jvm.FP.Core.b64 FP.dconst0.toNat = .fin false 0 (-1074) := by decide +kernel
theorem us_rng {a b : Nat} (hab : a ≤ b) (hb : b < 8192) (h0 : b ≠ 0) : (FP.dcmp (FP.ddiv (FP.i2d (nI a)) (FP.i2d (nI b))) FP.dconst0 = some .gt ∨ FP.dcmp (FP.ddiv (FP.i2d (nI a)) (FP.i2d (nI b))) FP.dconst0 = some .eq) ∧ (FP.dcmp (FP.ddiv (FP.i2d (nI a)) (FP.i2d (nI b))) FP.dconst1 = some .lt ∨ FP.dcmp (FP.ddiv (FP.i2d (nI a)) (FP.i2d (nI b))) FP.dconst1 = some .eq) := by
  rw [dd_of (by omega) hb]
  by_cases q : a = 0
  · subst q
    have e : Jvm.FP.Core.quotient Jvm.FP.Core.b64 (fiv 0) (fiv b) = .fin false 0 (-1074) := by
      have hm : b * 2 ^ (52 - b.log2) ≠ 0 := Nat.mul_ne_zero h0 (Nat.pos_iff_ne_zero.mp (Nat.two_pow_pos _))
      rw [fv_at (show 0 < 8192 by omega), fv_at hb, if_pos rfl, if_neg h0]
      generalize b * 2 ^ (52 - b.log2) = d at hm ⊢
      show (if d = 0 then _ else Jvm.FP.Core.roundRatio Jvm.FP.Core.b64 (false != false) 0 d _) = _
      rw [if_neg hm]
      unfold Jvm.FP.Core.roundRatio
      rw [if_pos rfl]
      decide +kernel
    rw [e]
    exact ⟨Or.inr (by decide +kernel), Or.inl (by decide +kernel)⟩
  · obtain ⟨m, r, e, h1, h2, h3, h4⟩ := rr_one (by omega) hab hb
    rw [e]
    have hd : Jvm.FP.Core.decode Jvm.FP.Core.b64 (UInt64.ofNat (Jvm.FP.Core.encode Jvm.FP.Core.b64 (.fin false m r))).toNat = .fin false m r := by
      rw [UInt64.toNat_ofNat']; exact enc_dec h1 h2 h3 (by omega)
    have c0 : FP.dcmp (UInt64.ofNat (Jvm.FP.Core.encode Jvm.FP.Core.b64 (.fin false m r))) FP.dconst0 = some (compare ((Jvm.FP.Core.inUnits m r (min r (-1074)) : Nat) : Int) ((Jvm.FP.Core.inUnits 0 (-1074) (min r (-1074)) : Nat) : Int)) := by
      show Jvm.FP.Core.order (Jvm.FP.Core.decode Jvm.FP.Core.b64 _) (Jvm.FP.Core.decode Jvm.FP.Core.b64 FP.dconst0.toNat) = _
      rw [hd, dc0]; rfl
    have c1 : FP.dcmp (UInt64.ofNat (Jvm.FP.Core.encode Jvm.FP.Core.b64 (.fin false m r))) FP.dconst1 = some (compare ((Jvm.FP.Core.inUnits m r (min r (-52)) : Nat) : Int) ((Jvm.FP.Core.inUnits 4503599627370496 (-52) (min r (-52)) : Nat) : Int)) := by
      show Jvm.FP.Core.order (Jvm.FP.Core.decode Jvm.FP.Core.b64 _) (Jvm.FP.Core.decode Jvm.FP.Core.b64 FP.dconst1.toNat) = _
      rw [hd, dc1]; rfl
    rw [c0, c1]
    constructor
    · refine Or.inl (congrArg some (Int.compare_eq_gt.mpr ?_))
      unfold Jvm.FP.Core.inUnits
      rw [Nat.zero_mul]
      have hp : 0 < m * 2 ^ (r - min r (-1074)).toNat := Nat.mul_pos (by omega) (Nat.two_pow_pos _)
      omega
    · rcases h4 with h4 | ⟨h4, h5⟩
      · refine Or.inl (congrArg some (Int.compare_eq_lt.mpr ?_))
        unfold Jvm.FP.Core.inUnits
        rw [show min r (-52) = r by omega, show (r - r).toNat = 0 by omega]
        have hp : 2 ^ 1 ≤ 2 ^ (-52 - r).toNat := Nat.pow_le_pow_right (by omega) (by omega)
        have hq : 4503599627370496 * 2 ^ 1 ≤ 4503599627370496 * 2 ^ (-52 - r).toNat := Nat.mul_le_mul_left _ hp
        generalize 4503599627370496 * 2 ^ (-52 - r).toNat = z at hq ⊢
        omega
      · refine Or.inr (congrArg some (Int.compare_eq_eq.mpr ?_))
        rw [h4, h5]
theorem us_all {w av : Int} (hw : 0 ≤ w) (h : w ≤ av) (hb : av < 8192) : (FP.dcmp (usV w av) FP.dconst0 = some .gt ∨ FP.dcmp (usV w av) FP.dconst0 = some .eq) ∧ (FP.dcmp (usV w av) FP.dconst1 = some .lt ∨ FP.dcmp (usV w av) FP.dconst1 = some .eq) := by
  unfold usV
  by_cases q : av = 0
  · rw [if_pos q]
    exact ⟨Or.inr (by decide +kernel), Or.inl (by decide +kernel)⟩
  · rw [if_neg q]
    have e : ∀ z : Int, 0 ≤ z → iZ z = nI z.toNat := fun z hz => by rw [iZ_n, show ((z.toNat : Nat) : Int) = z by omega]
    rw [e w hw, e av (by omega)]
    exact us_rng (by omega) (by omega) (by omega)
