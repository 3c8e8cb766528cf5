theorem mul_rng {a c : Int} (ha : 0 ≤ a ∧ a ≤ 780) (hc : 1 ≤ c ∧ c ≤ 9) : 0 ≤ a * c ∧ a * c ≤ 7020 ∧ (a * c = 0 ↔ a = 0) := by
  have h1 : 0 ≤ a * c := Int.mul_nonneg ha.1 (by omega)
  have h2 : a * c ≤ 780 * 9 := Int.mul_le_mul ha.2 hc.2 (by omega) (by omega)
  refine ⟨h1, by omega, fun h => ?_, fun h => by rw [h, Int.zero_mul]⟩
  rcases Int.mul_eq_zero.mp h with h3 | h3
  · exact h3
  · omega
theorem sumW_rng {L N : Nat → Int} {T : Nat} (hT : T ≤ 20) (hL : L30 T L) (hN : NOK T N) : 0 ≤ sumW L N T ∧ sumW L N T ≤ 3000 := by
  have key : ∀ n, n ≤ T → 0 ≤ sumW L N n ∧ sumW L N n ≤ 150 * n := by
    intro n
    induction n with
    | zero => intro _; rw [sumW]; omega
    | succ n ih =>
      intro hn
      have i := ih (by omega)
      have a := hL n (by omega)
      have b := hN n (by omega)
      have h1 : 0 ≤ L n * N n := Int.mul_nonneg a.1 b.1
      have h2 : L n * N n ≤ 30 * 5 := Int.mul_le_mul a.2 b.2 b.1 (by omega)
      rw [sumW]; omega
  have := key T (Nat.le_refl T)
  omega
theorem dsum_cong {f g : Nat → Int} : ∀ {n}, (∀ x, x < n → f x = g x) → dsum f n = dsum g n
  | 0, _ => rfl
  | n + 1, h => by rw [dsum, dsum, dsum_cong (fun x hx => h x (by omega)), h n (by omega)]
theorem dsum_SD {G : Nat → Nat → Int} {T : Nat} {L N late : Nat → Int} {cr : Int} {sq wk : Nat → Int} {ln : Int} (hT : T ≤ 20) (h : nOK N cr T = true ∧ SD G T L N late cr sq wk ln) : dsum wk ln.toNat = dsum (fun x => bsy L N (SCH G T L N late cr T) (x : Int) T) (slE L (SCH G T L N late cr T) T).toNat := by
  obtain ⟨_, _, h2, h3, h4, h5, _⟩ := h
  rw [← h3]
  exact dsum_cong (fun x hx => h2 x (by omega))
theorem lcr_no {G : Nat → Nat → Int} {T : Nat} {L N late : Nat → Int} {sp : Int} {cr : Nat} (h1 : 1 ≤ cr ∧ cr ≤ 10) (h2 : cr ≤ 9) (h : ¬ (nOK N (cr : Int) T = true ∧ slE L (SCH G T L N late (cr : Int) T) T ≤ sp)) : lcr G T L N sp late (10 - cr) = lcr G T L N sp late (10 - (cr + 1)) := by
  obtain ⟨f, hf⟩ : ∃ f, 10 - cr = f + 1 := ⟨9 - cr, by omega⟩
  rw [hf, show 10 - (cr + 1) = f by omega, lcr, show (9 - f : Nat) = cr by omega, if_neg h]
theorem lcr_y {G : Nat → Nat → Int} {T : Nat} {L N late : Nat → Int} {sp : Int} {cr : Nat} (h1 : 1 ≤ cr ∧ cr ≤ 10) (h2 : cr ≤ 9) (h : nOK N (cr : Int) T = true) (h3 : slE L (SCH G T L N late (cr : Int) T) T ≤ sp) : lcr G T L N sp late (10 - cr) = some cr := by
  obtain ⟨f, hf⟩ : ∃ f, 10 - cr = f + 1 := ⟨9 - cr, by omega⟩
  rw [hf, lcr, show (9 - f : Nat) = cr by omega, if_pos ⟨h, h3⟩]
theorem rk_bd (rk : Nat → Nat) : ∀ n, ∃ M, ∀ i, i < n → rk i < M
  | 0 => ⟨0, fun i h => absurd h (Nat.not_lt_zero i)⟩
  | n + 1 => by
    obtain ⟨M, h⟩ := rk_bd rk n
    refine ⟨M + rk n + 1, fun i hi => ?_⟩
    by_cases q : i = n
    · subst q; omega
    · have := h i (by omega); omega
theorem ACY_put {G : Nat → Nat → Int} {T i j : Nat} {x : Int} (h : ACY G T) (hi : i < T) (hj : j < T) (hne : i ≠ j) (ha : ahB G T j i = false) : ACY (upG G i j x) T := by
  obtain ⟨rk, hr⟩ := h
  obtain ⟨M, hM⟩ := rk_bd rk T
  have hna : ¬ RCH G T j i := fun hc => by
    have := ahB_iff.mpr ⟨fun h => hne h.symm, hc⟩
    rw [this] at ha; cases ha
  refine ⟨fun v => rk v + @ite Nat (RCH G T j v) (Classical.propDecidable _) M 0, fun a b hA hB hg => ?_⟩
  unfold upG at hg
  show rk a + @ite Nat (RCH G T j a) (Classical.propDecidable _) M 0 < rk b + @ite Nat (RCH G T j b) (Classical.propDecidable _) M 0
  by_cases q : a = i ∧ b = j
  · obtain ⟨q1, q2⟩ := q
    subst q1; subst q2
    rw [if_neg hna, if_pos RCH_0]
    have := hM a hi; omega
  · rw [if_neg q] at hg
    have hlt := hr a b hA hB hg
    by_cases c : RCH G T j a
    · rw [if_pos c, if_pos (RCH_s c hA hB hg)]; omega
    · rw [if_neg c]
      by_cases c2 : RCH G T j b
      · rw [if_pos c2]; omega
      · rw [if_neg c2]; omega
theorem lnkN_nn (G : Nat → Nat → Int) : ∀ n, 0 ≤ lnkN G n
  | 0 => Int.le_refl 0
  | n + 1 => by have := lnkN_nn G n; rw [lnkN]; unfold isD; split <;> omega
theorem lnk_nn (G : Nat → Nat → Int) : 0 ≤ lnk G := lnkN_nn G 400
