/-! a double that is no NaN -/
def dtN (d : Jvm.FP.Core.Datum) : Bool := match d with
  | .fin _ c _ => decide (c ≠ 0)
  | _ => false
def dtF (d : Jvm.FP.Core.Datum) : Bool := match d with
  | .fin _ _ _ => true
  | _ => false
def fiv (v : Nat) : Jvm.FP.Core.Datum := Jvm.FP.Core.decode Jvm.FP.Core.b64 ((Jvm.FP.Core.fromInt Jvm.FP.Core.b64 (v : Int)) % 2 ^ 64)
theorem fiv_all : (List.range 8192).all (fun v => dtF (fiv v) && (v == 0 || dtN (fiv v))) = true := by decide +kernel
theorem fiv_at {v : Nat} (h : v < 8192) : dtF (fiv v) = true ∧ (v ≠ 0 → dtN (fiv v) = true) := by
  have := List.all_eq_true.mp fiv_all v (List.mem_range.mpr h)
  simp only [Bool.and_eq_true, Bool.or_eq_true, beq_iff_eq] at this
  exact ⟨this.1, fun hv => this.2.resolve_left hv⟩
theorem enc_fin (s : Bool) (c : Nat) (q : Int) (hc : c < 9007199254740992) (h1 : -1074 ≤ q) (h2 : q ≤ 971) : Jvm.FP.Core.encode Jvm.FP.Core.b64 (.fin s c q) % 9223372036854775808 ≤ 9218868437227405312 := by
  have e1 : Jvm.FP.Core.b64.tails = 4503599627370496 := by decide +kernel
  have e2 : Jvm.FP.Core.b64.exps = 2048 := by decide +kernel
  have e3 : Jvm.FP.Core.b64.qmin = -1074 := by decide +kernel
  unfold Jvm.FP.Core.encode
  show (if c < Jvm.FP.Core.b64.tails then Jvm.FP.Core.assemble Jvm.FP.Core.b64 s 0 c else Jvm.FP.Core.assemble Jvm.FP.Core.b64 s ((q - Jvm.FP.Core.b64.qmin).toNat + 1) (c - Jvm.FP.Core.b64.tails)) % _ ≤ _
  unfold Jvm.FP.Core.assemble
  rw [e1, e2, e3]
  cases s
  · show (if c < 4503599627370496 then (0 * 2048 + 0) * 4503599627370496 + c else (0 * 2048 + ((q - -1074).toNat + 1)) * 4503599627370496 + (c - 4503599627370496)) % _ ≤ _
    split <;> omega
  · show (if c < 4503599627370496 then (1 * 2048 + 0) * 4503599627370496 + c else (1 * 2048 + ((q - -1074).toNat + 1)) * 4503599627370496 + (c - 4503599627370496)) % _ ≤ _
    split <;> omega
theorem enc_inf (s : Bool) : Jvm.FP.Core.encode Jvm.FP.Core.b64 (.inf s) % 9223372036854775808 ≤ 9218868437227405312 := by
  cases s <;> decide +kernel
theorem enc_bound (s : Bool) (c : Nat) (q : Int) (hc : c < 9007199254740992) (h1 : -1074 ≤ q) : Jvm.FP.Core.encode Jvm.FP.Core.b64 (Jvm.FP.Core.bound Jvm.FP.Core.b64 s c q) % 9223372036854775808 ≤ 9218868437227405312 := by
  have e4 : Jvm.FP.Core.b64.qmax = 971 := by decide +kernel
  unfold Jvm.FP.Core.bound
  rw [e4]
  split
  · exact enc_fin s c q hc h1 (by assumption)
  · exact enc_inf s
theorem enc_ratio (s : Bool) (num den : Nat) (e : Int) : Jvm.FP.Core.encode Jvm.FP.Core.b64 (Jvm.FP.Core.roundRatio Jvm.FP.Core.b64 s num den e) % 9223372036854775808 ≤ 9218868437227405312 := by
  have e3 : Jvm.FP.Core.b64.qmin = -1074 := by decide +kernel
  unfold Jvm.FP.Core.roundRatio
  split
  · exact enc_fin s 0 _ (by omega) (by rw [e3]; omega) (by rw [e3]; omega)
  · unfold Jvm.FP.Core.roundAt Jvm.FP.Core.settle
    have hq : -1074 ≤ Jvm.FP.Core.quantum Jvm.FP.Core.b64 num den e := by unfold Jvm.FP.Core.quantum; rw [e3]; omega
    split
    · rename_i hc
      exact enc_bound s _ _ (by have h2 : (2 : Nat) ^ Jvm.FP.Core.b64.p = 9007199254740992 := by decide +kernel
                                rw [h2] at hc; exact hc) hq
    · exact enc_bound s _ _ (by decide +kernel) (by omega)
theorem ddiv_ok {a b : Nat} (ha : a < 8192) (hb : b < 8192) (h0 : b ≠ 0) : vf_n64 (FP.ddiv (FP.i2d (nI a)) (FP.i2d (nI b))) := by
  have fa := (fiv_at ha).1
  have fb := (fiv_at hb).2 h0
  have ea : ∀ v, v < 8192 → (FP.i2d (nI v)).toNat = (Jvm.FP.Core.fromInt Jvm.FP.Core.b64 (v : Int)) % 2 ^ 64 := fun v hv => by
    show (UInt64.ofNat (Jvm.FP.Core.fromInt Jvm.FP.Core.b64 (nI v).toInt)).toNat = _
    rw [nI_toInt (by omega), UInt64.toNat_ofNat']
  have key : ∃ s n d e, FP.ddiv (FP.i2d (nI a)) (FP.i2d (nI b)) = UInt64.ofNat (Jvm.FP.Core.encode Jvm.FP.Core.b64 (Jvm.FP.Core.roundRatio Jvm.FP.Core.b64 s n d e)) := by
    show ∃ s n d e, UInt64.ofNat (Jvm.FP.Core.encode Jvm.FP.Core.b64 (Jvm.FP.Core.quotient Jvm.FP.Core.b64 (Jvm.FP.Core.decode Jvm.FP.Core.b64 (FP.i2d (nI a)).toNat) (Jvm.FP.Core.decode Jvm.FP.Core.b64 (FP.i2d (nI b)).toNat))) = _
    rw [ea a ha, ea b hb]
    show ∃ s n d e, UInt64.ofNat (Jvm.FP.Core.encode Jvm.FP.Core.b64 (Jvm.FP.Core.quotient Jvm.FP.Core.b64 (fiv a) (fiv b))) = _
    cases h1 : fiv a with
    | nan => rw [h1] at fa; cases fa
    | inf s => rw [h1] at fa; cases fa
    | fin s c q =>
      cases h2 : fiv b with
      | nan => rw [h2] at fb; cases fb
      | inf s => rw [h2] at fb; cases fb
      | fin t d r =>
        rw [h2] at fb
        have hd : d ≠ 0 := (decide_eq_true_iff).mp fb
        refine ⟨s != t, c, d, q - r, ?_⟩
        show UInt64.ofNat (Jvm.FP.Core.encode Jvm.FP.Core.b64 (if d = 0 then _ else _)) = _
        rw [if_neg hd]
  obtain ⟨s, n, d, e, hk⟩ := key
  have hb := enc_ratio s n d e
  rw [hk]
  unfold vf_n64
  rw [UInt64.le_iff_toNat_le, UInt64.toNat_and, UInt64.toNat_ofNat']
  have e1 : (0x7fffffffffffffff : UInt64).toNat = 2 ^ 63 - 1 := by decide
  have e2 : (0x7ff0000000000000 : UInt64).toNat = 9218868437227405312 := by decide
  rw [e1, e2, Nat.and_two_pow_sub_one_eq_mod]
  omega
noncomputable def usV (w av : Int) : UInt64 := if av = 0 then FP.dconst0 else FP.ddiv (FP.i2d (iZ w)) (FP.i2d (iZ av))
