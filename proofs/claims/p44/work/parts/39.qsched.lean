/-! the schedule keeps to the crews, and to the dependencies -/
theorem fdN_ok {wk : Nat → Int} {ot : Int} {n M : Nat} : ∀ {f fr}, okW wk ot M n = true → fr ≤ M → M < fr + f → fr ≤ fdN wk ot n f fr ∧ fdN wk ot n f fr ≤ M ∧ okW wk ot (fdN wk ot n f fr) n = true
  | 0, fr, _, h1, h2 => by omega
  | f + 1, fr, hk, h1, h2 => by
    rw [fdN]
    by_cases q : okW wk ot fr n = true
    · rw [if_pos q]; exact ⟨Nat.le_refl _, h1, q⟩
    · rw [if_neg q]
      have hne : fr ≠ M := fun e => q (by rw [e]; exact hk)
      have a := fdN_ok (f := f) (fr := fr + 1) hk (by omega) (by omega)
      exact ⟨by omega, a.2.1, a.2.2⟩
theorem bsP_ge {G : Nat → Nat → Int} {L st : Nat → Int} {t i : Nat} : ∀ {n}, i < n → G i t ≠ -1 → 0 ≤ st i → st i + L i + G i t ≤ bsP G L st t n
  | 0, h, _, _ => absurd h (Nat.not_lt_zero _)
  | n + 1, h, hg, h0 => by
    rw [bsP]
    by_cases q : i = n
    · subst q
      rw [if_neg (fun k => k.elim hg (fun k2 => by omega))]; omega
    · have a := bsP_ge (G := G) (L := L) (st := st) (n := n) (by omega) hg h0
      split <;> omega
/-- what holds of a schedule of which k turns are done -/
def SI (G : Nat → Nat → Int) (T : Nat) (L N : Nat → Int) (cr : Int) (k : Nat) (st : Nat → Int) : Prop :=
  (∀ t, t < T → 0 ≤ st t → st t + L t ≤ 39 * k) ∧ (∀ x : Nat, bsy L N st (x : Int) T ≤ cr) ∧ ∀ i j, i < T → j < T → G i j ≠ -1 → 0 ≤ st j → 0 ≤ st i ∧ st i + L i + G i j ≤ st j
theorem SI_step {G : Nat → Nat → Int} {T : Nat} {L N : Nat → Int} {cr : Int} {k : Nat} {st late : Nat → Int} (hT : T ≤ 20) (hG : GOK G) (hL : L30 T L) (hN : ∀ t, t < T → N t ≤ cr) (hk : k < 20) (h : SI G T L N cr k st) : SI G T L N cr (k + 1) (stpO G T L N cr st (nxt late (canB G T st) T)) := by
  obtain ⟨h1, h2, h3⟩ := h
  cases hn : nxt late (canB G T st) T with
  | none =>
    show SI G T L N cr (k + 1) st
    exact ⟨fun t ht h0 => by have := h1 t ht h0; omega, h2, h3⟩
  | some t =>
    obtain ⟨ht, hc⟩ := nxt_some hn
    have c := canB_iff.mp hc
    have hLt := hL t ht
    have hNt := hN t ht
    have hfr0 := bsP_0 (G := G) (L := L) (st := st) (t := t) T
    have hfr1 : bsP G L st t T ≤ 39 * k + 9 := bsP_le (by omega) (fun i hi hg => by
      have a := h1 i hi (c.2 i hi hg)
      have b := hG i t (by omega) (by omega)
      omega)
    have hfree : ∀ x : Nat, 39 * k ≤ x → bsy L N st (x : Int) T = 0 := fun x hx => by
      have key : ∀ n, n ≤ T → bsy L N st (x : Int) n = 0 := by
        intro n
        induction n with
        | zero => intro _; rfl
        | succ n ih =>
          intro hn
          rw [bsy, ih (by omega), if_neg]
          · rfl
          · intro q
            have := h1 n (by omega) q.1
            omega
      exact key T (Nat.le_refl T)
    have hok : okW (fun x => bsy L N st (x : Int) T) (cr - N t) (39 * k + 9) (L t).toNat = true := okW_iff.mpr (fun q _ => by
      show bsy L N st ((39 * k + 9 + q : Nat) : Int) T ≤ cr - N t
      rw [hfree _ (by omega)]; omega)
    have hd := fdN_ok (f := 1000) (fr := (bsP G L st t T).toNat) hok (by omega) (by omega)
    show SI G T L N cr (k + 1) (upZ st t (fd G T L N cr st t : Int))
    unfold fd
    generalize fdN (fun x => bsy L N st (x : Int) T) (cr - N t) (L t).toNat 1000 (bsP G L st t T).toNat = d at hd ⊢
    have hd0 : (0 : Int) ≤ (d : Int) := by omega
    refine ⟨fun j hj h0 => ?_, fun x => ?_, fun i j hi hj hg h0 => ?_⟩
    · by_cases q : j = t
      · subst q; rw [upZ_s]; omega
      · rw [upZ_n q] at h0 ⊢
        have := h1 j hj h0; omega
    · rw [bsy_up c.1 hd0]
      by_cases q : t < T ∧ (d : Int) ≤ (x : Int) ∧ (x : Int) < (d : Int) + L t
      · rw [if_pos q]
        have a := okW_iff.mp hd.2.2 (x - d) (by omega)
        have a2 : bsy L N st ((d + (x - d) : Nat) : Int) T ≤ cr - N t := a
        rw [show d + (x - d) = x by omega] at a2
        omega
      · rw [if_neg q]
        have := h2 x; omega
    · by_cases q : j = t
      · subst q
        have hit : i ≠ j := fun e => by
          have := c.2 j ht (by rw [e] at hg; exact hg)
          omega
        have hi0 := c.2 i hi hg
        have a := bsP_ge (L := L) (st := st) hi hg hi0
        rw [upZ_n hit, upZ_s]
        exact ⟨hi0, by omega⟩
      · rw [upZ_n q] at h0 ⊢
        have a := h3 i j hi hj hg h0
        have hit : i ≠ t := fun e => by rw [e] at a; omega
        rw [upZ_n hit]
        exact a
theorem SI_all {G : Nat → Nat → Int} {T : Nat} {L N late : Nat → Int} {cr : Int} (hT : T ≤ 20) (hG : GOK G) (hL : L30 T L) (hn : nOK N cr T = true) (h0 : 0 ≤ cr) : ∀ k, k ≤ 20 → SI G T L N cr k (SCH G T L N late cr k)
  | 0, _ => ⟨fun t _ h => by have h9 : (0 : Int) ≤ -1 := h; omega, fun x => by
      show bsy L N (fun _ => -1) (x : Int) T ≤ cr
      rw [bsy_none]; exact h0, fun i j _ _ _ h => by have h9 : (0 : Int) ≤ -1 := h; omega⟩
  | k + 1, hk => by
    rw [SCH]
    exact SI_step hT hG hL (nOK_iff.mp hn) (by omega) (SI_all hT hG hL hn h0 k (by omega))
theorem sch_bsy {G : Nat → Nat → Int} {T : Nat} {L N late : Nat → Int} {cr : Int} (hT : T ≤ 20) (hG : GOK G) (hL : L30 T L) (hn : nOK N cr T = true) (h0 : 0 ≤ cr) (x : Nat) : bsy L N (SCH G T L N late cr T) (x : Int) T ≤ cr := (SI_all hT hG hL hn h0 T hT).2.1 x
theorem sch_es {G : Nat → Nat → Int} {T : Nat} {L N late : Nat → Int} {cr : Int} (hT : T ≤ 20) (hG : GOK G) (hL : L30 T L) (hac : ACY G T) (hn : nOK N cr T = true) (h0 : 0 ≤ cr) : ∀ j, j < T → es G T L j ≤ SCH G T L N late cr T j := by
  have h := (SI_all (late := late) hT hG hL hn h0 T hT).2.2
  have hall := SCH_all (L := L) (N := N) (late := late) (cr := cr) hac
  have hac2 := hac
  obtain ⟨rk, hr⟩ := hac
  have key : ∀ n j, rk j < n → j < T → es G T L j ≤ SCH G T L N late cr T j := by
    intro n
    induction n with
    | zero => intro j h; exact absurd h (Nat.not_lt_zero _)
    | succ n ih =>
      intro j hn hj
      have a := hall j hj
      rcases es_at (L := L) hac2 hj with k | ⟨i, hi, hg, k⟩
      · omega
      · have d := hr i j hi hj hg
        have b := ih i (by omega) hi
        have e := (h i j hi hj hg a).2
        omega
  exact fun j hj => key (rk j + 1) j (by omega) hj
theorem sch_span {G : Nat → Nat → Int} {T : Nat} {L N late : Nat → Int} {cr : Int} (hT : T ≤ 20) (hG : GOK G) (hL : L30 T L) (hac : ACY G T) (hn : nOK N cr T = true) (h0 : 0 ≤ cr) : span G T L ≤ slE L (SCH G T L N late cr T) T := by
  rcases spE_at (L := L) (e := es G T L) T with k | ⟨i, hi, k⟩
  · have a : span G T L = 0 := k
    have := slE_nn L (SCH G T L N late cr T) T
    omega
  · have a : span G T L = es G T L i + L i := k
    have b := sch_es (late := late) hT hG hL hac hn h0 i hi
    have c := SCH_all (L := L) (N := N) (late := late) (cr := cr) hac i hi
    have d := slE_ge (L := L) hi c
    omega
theorem dsum_bd {f : Nat → Int} {c : Int} : ∀ {n : Nat}, (∀ i, i < n → f i ≤ c) → dsum f n ≤ (n : Int) * c
  | 0, _ => by rw [dsum, show ((0 : Nat) : Int) = 0 from rfl, Int.zero_mul]; exact Int.le_refl 0
  | n + 1, h => by
    have a := dsum_bd (n := n) (fun i hi => h i (by omega))
    have b := h n (by omega)
    rw [dsum, show ((n + 1 : Nat) : Int) = (n : Int) + 1 by omega, Int.add_mul, Int.one_mul]; omega
theorem sch_work {G : Nat → Nat → Int} {T : Nat} {L N late : Nat → Int} {cr : Int} (hT : T ≤ 20) (hG : GOK G) (hL : L30 T L) (hac : ACY G T) (hn : nOK N cr T = true) (h0 : 0 ≤ cr) : sumW L N T ≤ slE L (SCH G T L N late cr T) T * cr := by
  have z := slE_nn L (SCH G T L N late cr T) T
  have a := dsum_sch (N := N) (late := late) (C := cr) hac hL
  have b := dsum_bd (f := fun x => bsy L N (SCH G T L N late cr T) (x : Int) T) (c := cr) (n := (slE L (SCH G T L N late cr T) T).toNat) (fun i _ => sch_bsy hT hG hL hn h0 i)
  rw [a, show (((slE L (SCH G T L N late cr T) T).toNat : Nat) : Int) = slE L (SCH G T L N late cr T) T by omega] at b
  exact b
theorem lcr_some {G : Nat → Nat → Int} {T : Nat} {L N late : Nat → Int} {sp : Int} {c : Nat} : ∀ {f}, f ≤ 9 → lcr G T L N sp late f = some c → (1 ≤ c ∧ c ≤ 9) ∧ nOK N (c : Int) T = true ∧ slE L (SCH G T L N late (c : Int) T) T ≤ sp
  | 0, _, h => by cases h
  | f + 1, hf, h => by
    rw [lcr] at h
    split at h
    · rename_i q
      have e := Option.some.inj h
      subst e
      exact ⟨by omega, q⟩
    · exact lcr_some (f := f) (by omega) h
