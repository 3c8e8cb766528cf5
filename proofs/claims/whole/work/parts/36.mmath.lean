/-! the reference: a row of 442 ints holds a plan -/
def MS (s : Nat → Int) (T : Nat) (C : Int) (L N : Nat → Int) (G : Nat → Nat → Int) : Prop := s 0 = (T : Int) ∧ s 1 = C ∧ (∀ t, t < T → s (2 + t) = L t ∧ s (22 + t) = N t) ∧ ∀ q, q < 400 → s (42 + q) = G (q / 20) (q % 20)
theorem MS_g {s : Nat → Int} {T : Nat} {C : Int} {L N : Nat → Int} {G : Nat → Nat → Int} (h : MS s T C L N G) {i j : Nat} (hi : i < 20) (hj : j < 20) : s (42 + 20 * i + j) = G i j := by
  have := h.2.2.2 (20 * i + j) (by omega)
  rw [show 42 + 20 * i + j = 42 + (20 * i + j) by omega, this, show (20 * i + j) / 20 = i by omega, show (20 * i + j) % 20 = j by omega]
def MST (s : Nat → Int) (P : PS) : Prop := MS s P.1 P.2.2.1 P.2.2.2.1 P.2.2.2.2.1 P.2.2.2.2.2
/-! starts moved in rounds, by any order of the pairs -/
def MVP (G : Nat → Nat → Int) (T : Nat) (L s0 : Nat → Int) (P : Nat → Nat → Prop) (s : Nat → Int) (mv : Bool) : Prop :=
  (∀ j, j < T → 0 ≤ s j ∧ s j ≤ es G T L j ∧ s0 j ≤ s j) ∧ (∀ i j, i < T → j < T → G i j ≠ -1 → P i j → s0 i + L i + G i j ≤ s j) ∧ (mv = false → ∀ j, j < T → s j = s0 j) ∧ (mv = true → ∃ j, j < T ∧ s0 j < s j)
theorem MVP_0 {G : Nat → Nat → Int} {T : Nat} {L s0 : Nat → Int} {P : Nat → Nat → Prop} (h : S0 G T L s0) (hP : ∀ i j, ¬ P i j) : MVP G T L s0 P s0 false :=
  ⟨fun j hj => ⟨(h j hj).1, (h j hj).2, Int.le_refl _⟩, fun i j _ _ _ hp => absurd hp (hP i j), fun _ _ _ => rfl, fun h => by cases h⟩
theorem MVP_ok {G : Nat → Nat → Int} {T : Nat} {L s0 s : Nat → Int} {P P' : Nat → Nat → Prop} {mv : Bool} {i0 j0 : Nat} (hT : T ≤ 20) (h : MVP G T L s0 P s mv) (hp : ∀ i j, i < 20 → j < 20 → P' i j → P i j ∨ (i = i0 ∧ j = j0)) (hs : G i0 j0 = -1 ∨ s i0 + L i0 + G i0 j0 ≤ s j0) : MVP G T L s0 P' s mv :=
  ⟨h.1, fun i j hi hj hg hq => by
    rcases hp i j (by omega) (by omega) hq with k | ⟨k1, k2⟩
    · exact h.2.1 i j hi hj hg k
    · subst k1; subst k2
      rcases hs with k | k
      · exact absurd k hg
      · have := (h.1 i hi).2.2; omega, h.2.2⟩
theorem MVP_up {G : Nat → Nat → Int} {T : Nat} {L s0 s : Nat → Int} {P P' : Nat → Nat → Prop} {mv : Bool} {i0 j0 : Nat} {x : Int} (hT : T ≤ 20) (hac : ACY G T) (h : MVP G T L s0 P s mv) (hi0 : i0 < T) (hj0 : j0 < T) (hg : G i0 j0 ≠ -1) (hp : ∀ i j, i < 20 → j < 20 → P' i j → P i j ∨ (i = i0 ∧ j = j0)) (hx : x = s i0 + L i0 + G i0 j0) (hs : s j0 < x) : MVP G T L s0 P' (upZ s j0 x) true := by
  have hm := maxE_ge (e := es G T L) (L := L) hi0 hg
  rw [← es_fix hac hj0] at hm
  have a := h.1 i0 hi0
  have b := h.1 j0 hj0
  refine ⟨fun j hj => ?_, fun i j hi hj hg2 hq => ?_, fun hf => (by cases hf), fun _ => ⟨j0, hj0, by rw [upZ_s]; omega⟩⟩
  · by_cases q : j = j0
    · subst q; rw [upZ_s]; omega
    · rw [upZ_n q]; exact h.1 j hj
  · by_cases q : j = j0
    · subst q
      rw [upZ_s]
      rcases hp i j (by omega) (by omega) hq with k | ⟨k1, _⟩
      · have := h.2.1 i j hi hj hg2 k; omega
      · subst k1; omega
    · rw [upZ_n q]
      rcases hp i j (by omega) (by omega) hq with k | ⟨_, k2⟩
      · exact h.2.1 i j hi hj hg2 k
      · exact absurd k2 q
/-- the while loop's rounds -/
def WH (G : Nat → Nat → Int) (T : Nat) (L : Nat → Int) (k : Nat) (s : Nat → Int) (m : Bool) : Prop := RF G T L k s m ∧ k ≤ T + 2 ∧ (m = true → k ≤ T + 1)
theorem WH_0 {G : Nat → Nat → Int} {T : Nat} {L : Nat → Int} : WH G T L 0 (fun _ => 0) true := ⟨RF_0, by omega, fun _ => by omega⟩
theorem WH_cong {G : Nat → Nat → Int} {T : Nat} {L : Nat → Int} {k : Nat} {s s' : Nat → Int} {m : Bool} (h : WH G T L k s m) (he : ∀ j, j < T → s' j = s j) : WH G T L k s' m :=
  ⟨⟨fun j hj => by rw [he j hj]; exact h.1.1 j hj, fun hm j hj => by rw [he j hj]; exact h.1.2 hm j hj⟩, h.2⟩
theorem WH_s {G : Nat → Nat → Int} {T : Nat} {L : Nat → Int} {k : Nat} {s0 s1 : Nat → Int} {m1 : Bool} {P : Nat → Nat → Prop} (h : WH G T L k s0 true) (h1 : MVP G T L s0 P s1 m1) (hP : ∀ i j, i < T → j < T → P i j) : WH G T L (k + 1) s1 m1 := by
  refine ⟨RF_s h.1 ⟨h1.1, fun i j hi hj hg _ => h1.2.1 i j hi hj hg (hP i j hi hj), h1.2.2.1⟩, by have := h.2.2 rfl; omega, fun hm => ?_⟩
  have h9 := h.2.2 rfl
  by_cases q : k = T + 1
  · obtain ⟨j, hj, hlt⟩ := h1.2.2.2 hm
    have := RF_end h.1 q j hj
    have := (h1.1 j hj).2.1
    omega
  · omega
theorem WH_S0 {G : Nat → Nat → Int} {T : Nat} {L : Nat → Int} {k : Nat} {s : Nat → Int} {m : Bool} (h : WH G T L k s m) : S0 G T L s := RF_S0 h.1
theorem WH_end {G : Nat → Nat → Int} {T : Nat} {L : Nat → Int} {k : Nat} {s : Nat → Int} {m : Bool} (h : WH G T L k s m) (hm : m = false) : ∀ j, j < T → s j = es G T L j := h.1.2 hm
def FP1 (q : Nat) (i j : Nat) : Prop := i * 20 + j < q
def FP2 (q : Nat) (i j : Nat) : Prop := j * 20 + i < q
theorem FP1_0 : ∀ i j, ¬ FP1 0 i j := fun i j h => by unfold FP1 at h; omega
theorem FP2_0 : ∀ i j, ¬ FP2 0 i j := fun i j h => by unfold FP2 at h; omega
theorem FP1_s {q : Nat} : ∀ i j, i < 20 → j < 20 → FP1 (q + 1) i j → FP1 q i j ∨ (i = q / 20 ∧ j = q % 20) := fun i j hi hj h => by unfold FP1 at *; omega
theorem FP2_s {q : Nat} : ∀ i j, i < 20 → j < 20 → FP2 (q + 1) i j → FP2 q i j ∨ (i = q % 20 ∧ j = q / 20) := fun i j hi hj h => by unfold FP2 at *; omega
theorem FP1_e {q T : Nat} (hT : T ≤ 20) (hq : 400 ≤ q) : ∀ i j, i < T → j < T → FP1 q i j := fun i j hi hj => by unfold FP1; omega
theorem FP2_e {q T : Nat} (hT : T ≤ 20) (hq : 400 ≤ q) : ∀ i j, i < T → j < T → FP2 q i j := fun i j hi hj => by unfold FP2; omega
/-! bits -/
theorem sh20 : ∀ t, t < 20 → ((nI t &&& 31).toBitVec.smod 32).toNat = t := by decide
theorem b_shl {t : Nat} (ht : t < 20) : nI 1 <<< (nI t &&& 31) = nI (2 ^ t) := by
  have h : 2 ^ t < 2 ^ 20 := Nat.pow_lt_pow_right (by omega) ht
  rw [pk_shlN (nI t &&& 31) t (sh20 t ht) (by omega), Nat.one_mul]
theorem b_shr {b t : Nat} (ht : t < 20) (hb : b < 1048576) : nI b >>> (nI t &&& 31) = nI (b / 2 ^ t) := pk_shrN (by omega) (nI t &&& 31) t (sh20 t ht)
theorem b_and {b : Nat} (hb : b < 1048576) : nI b &&& nI 1 = nI (b % 2) := by
  have := pk_andN (n := b) (by omega) (m := nI 1) 1 (by decide)
  rw [this]
theorem b_or {a b : Nat} (ha : a < 1048576) (hb : b < 1048576) : nI a ||| nI b = nI (a ||| b) := by
  have hab : a ||| b < 2 ^ 20 := Nat.or_lt_two_pow (n := 20) (by omega) (by omega)
  apply Int32.toBitVec_inj.mp
  apply BitVec.eq_of_toNat_eq
  have e : (nI a ||| nI b).toBitVec = (nI a).toBitVec ||| (nI b).toBitVec := rfl
  rw [e, BitVec.toNat_or, pk_tn (by omega), pk_tn (by omega), pk_tn (by omega)]
theorem tb_iff {b i : Nat} : b.testBit i = true ↔ b / 2 ^ i % 2 = 1 := by
  rw [Nat.testBit_eq_decide_div_mod_eq, decide_eq_true_eq]
def AH (G : Nat → Nat → Int) (T t had b q : Nat) : Prop :=
  b < 1048576 ∧ had ≤ b ∧ b.testBit t = true ∧ (∀ j, had.testBit j = true → b.testBit j = true) ∧ (∀ j, b.testBit j = true → RCH G T t j) ∧ ∀ i j, i < T → j < T → G i j ≠ -1 → i * 20 + j < q → had.testBit i = true → b.testBit j = true
theorem AH_0 {G : Nat → Nat → Int} {T t : Nat} (ht : t < 20) : AH G T t 0 (2 ^ t) 400 := by
  have h : 2 ^ t < 2 ^ 20 := Nat.pow_lt_pow_right (by omega) ht
  refine ⟨by omega, Nat.zero_le _, by rw [Nat.testBit_two_pow]; simp, fun j hj => by simp at hj, fun j hj => ?_, fun i j _ _ _ _ hh => by simp at hh⟩
  rw [Nat.testBit_two_pow] at hj
  have : t = j := by simpa using hj
  subst this; exact RCH_0
theorem AH_start {G : Nat → Nat → Int} {T t had b q : Nat} (h : AH G T t had b q) : AH G T t b b 0 := ⟨h.1, Nat.le_refl _, h.2.2.1, fun _ h => h, h.2.2.2.2.1, fun i j _ _ _ hq => by omega⟩
theorem AH_skip {G : Nat → Nat → Int} {T t had b q : Nat} (hT : T ≤ 20) (h : AH G T t had b q) (hs : G (q / 20) (q % 20) = -1 ∨ ¬ had.testBit (q / 20) = true) : AH G T t had b (q + 1) := by
  refine ⟨h.1, h.2.1, h.2.2.1, h.2.2.2.1, h.2.2.2.2.1, fun i j hi hj hg hq hh => ?_⟩
  by_cases c : i * 20 + j = q
  · rw [show q / 20 = i by omega, show q % 20 = j by omega] at hs
    rcases hs with k | k
    · exact absurd k hg
    · exact absurd hh k
  · exact h.2.2.2.2.2 i j hi hj hg (by omega) hh
theorem AH_or {G : Nat → Nat → Int} {T t had b q : Nat} (hT : T ≤ 20) (h : AH G T t had b q) (hi0 : q / 20 < T) (hj0 : q % 20 < T) (hg0 : ¬ G (q / 20) (q % 20) = -1) (hh0 : had.testBit (q / 20) = true) : AH G T t had (b ||| 2 ^ (q % 20)) (q + 1) := by
  have hp : 2 ^ (q % 20) < 2 ^ 20 := Nat.pow_lt_pow_right (by omega) (by omega)
  have hlt : b ||| 2 ^ (q % 20) < 2 ^ 20 := Nat.or_lt_two_pow (n := 20) (by have := h.1; omega) hp
  have hle : b ≤ b ||| 2 ^ (q % 20) := Nat.left_le_or
  refine ⟨by omega, by have := h.2.1; omega, by rw [Nat.testBit_or, h.2.2.1]; rfl, fun j hj => by rw [Nat.testBit_or, h.2.2.2.1 j hj]; rfl, fun j hj => ?_, fun i j hi hj hg hq hh => ?_⟩
  · rw [Nat.testBit_or, Bool.or_eq_true, Nat.testBit_two_pow] at hj
    rcases hj with k | k
    · exact h.2.2.2.2.1 j k
    · have : q % 20 = j := by simpa using k
      subst this
      exact RCH_s (h.2.2.2.2.1 _ (h.2.2.2.1 _ hh0)) hi0 hj0 hg0
  · rw [Nat.testBit_or]
    by_cases c : i * 20 + j = q
    · rw [show q % 20 = j by omega, Nat.testBit_two_pow]; simp
    · rw [h.2.2.2.2.2 i j hi hj hg (by omega) hh]; rfl
def msB (had b : Nat) : Nat := 2 * (1048576 - b) + if had = b then 0 else 1
theorem msB_lt {had b b1 : Nat} (h : ¬ had = b) (hle : b ≤ b1) (hb : b1 < 1048576) : msB b b1 < msB had b := by
  unfold msB
  rw [if_neg h]
  by_cases q : b = b1
  · rw [if_pos q]; omega
  · rw [if_neg q]; omega
theorem AH_end {G : Nat → Nat → Int} {T t b : Nat} (hT : T ≤ 20) (h : AH G T t b b 400) (j : Nat) : b.testBit j = true ↔ RCH G T t j :=
  ⟨h.2.2.2.2.1 j, fun hr => RCH_min (fun j => b.testBit j = true) hr h.2.2.1 (fun i j hi hj hp hg => h.2.2.2.2.2 i j hi hj hg (by omega) hp)⟩
theorem AH_ans {G : Nat → Nat → Int} {T t b j : Nat} (hT : T ≤ 20) (h : AH G T t b b 400) (hne : t ≠ j) (hb : b / 2 ^ j % 2 = 1) : ahB G T t j = true := ahB_iff.mpr ⟨hne, (AH_end hT h j).mp (tb_iff.mpr hb)⟩
theorem AH_ans2 {G : Nat → Nat → Int} {T t b j : Nat} (hT : T ≤ 20) (h : AH G T t b b 400) (hb : ¬ b / 2 ^ j % 2 = 1) : ahB G T t j = false := by
  cases hc : ahB G T t j
  · rfl
  · exact absurd (tb_iff.mp ((AH_end hT h j).mpr (ahB_iff.mp hc).2)) hb
