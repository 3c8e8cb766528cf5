/-! the reference's changes -/
theorem MS_rm {s : Nat → Int} {T : Nat} {C x y : Int} {L N : Nat → Int} {G : Nat → Nat → Int} (h : MS s T C L N G) (hT : 1 ≤ T ∧ T ≤ 20) : MS (upZ (upZ (upZ s 0 (((T - 1 : Nat)) : Int)) (2 + (T - 1)) x) (22 + (T - 1)) y) (T - 1) C L N (rlG G (T - 1) 0) := by
  rw [rlG_0]
  refine ⟨by rw [upZ_n (by omega), upZ_n (by omega), upZ_s], by rw [upZ_n (by omega), upZ_n (by omega), upZ_n (by omega)]; exact h.2.1, fun t ht => ?_, fun q hq => by rw [upZ_n (by omega), upZ_n (by omega), upZ_n (by omega)]; exact h.2.2.2 q hq⟩
  rw [upZ_n (by omega), upZ_n (by omega), upZ_n (by omega), upZ_n (by omega), upZ_n (by omega), upZ_n (by omega)]
  exact h.2.2.1 t (by omega)
theorem lnkN_cong {G G' : Nat → Nat → Int} (h : ∀ i j, i < 20 → j < 20 → G i j = G' i j) : ∀ n, n ≤ 400 → lnkN G n = lnkN G' n
  | 0, _ => rfl
  | n + 1, hn => by rw [lnkN, lnkN, lnkN_cong h n (by omega)]; unfold isD; rw [h _ _ (by omega) (by omega)]
theorem lnk_rm {G : Nat → Nat → Int} {T : Nat} (hT : 1 ≤ T ∧ T ≤ 20) (hac : ACY G T) (hGo : ∀ i j, i < 20 → j < 20 → G i j ≠ -1 → i < T ∧ j < T) : lnk (rlG G (T - 1) 20) = lnk G - rlE G (T - 1) (T - 1) := by
  rw [show lnk (rlG G (T - 1) 20) = lnk (rlG G (T - 1) (T - 1)) from lnkN_cong (rl_all hT hac hGo) 400 (Nat.le_refl _)]
  exact lnk_rl (by omega) _ (Nat.le_refl _)
theorem GO_up {G : Nat → Nat → Int} {T a b : Nat} {x : Int} (h : ∀ i j, i < 20 → j < 20 → G i j ≠ -1 → i < T ∧ j < T) (ha : a < T) (hb : b < T) : ∀ i j, i < 20 → j < 20 → upG G a b x i j ≠ -1 → i < T ∧ j < T := fun i j hi hj hg => by
  by_cases c : i = a ∧ j = b
  · omega
  · unfold upG at hg; rw [if_neg c] at hg; exact h i j hi hj hg
theorem prs_ok {sg : Nat → Int} {tl : Nat} (h : (prs sg tl).1 = true) : 1 ≤ (prs sg tl).2.2.1 ∧ (prs sg tl).2.2.1 ≤ 20 ∧ L30 (prs sg tl).2.2.1 (prs sg tl).2.2.2.1 ∧ NOK (prs sg tl).2.2.1 (prs sg tl).2.2.2.2.1 ∧ FWD (prs sg tl).2.2.2.2.2 (prs sg tl).2.2.1 :=
  rd_fwd (t := 0) (f := 20) rfl FWD_0 (fun t ht => absurd ht (Nat.not_lt_zero t)) (fun t ht => absurd ht (Nat.not_lt_zero t)) h
theorem MS_cp {s g : Nat → Int} {T : Nat} {C : Int} {L N : Nat → Int} {G : Nat → Nat → Int} (h : MS s T C L N G) (hT : T ≤ 20) : MS (cpF s 0 g 0 442) T C L N G :=
  MS_cong h hT (fun j hj => by unfold cpF; rw [if_pos (by omega), show 0 + (j - 0) = j by omega])
theorem cp_at {f g : Nat → Int} {a : Nat} : ∀ j, j < 442 → cpF f a g 0 442 j = f (a + j) := fun j hj => by unfold cpF; rw [if_pos (by omega), show a + (j - 0) = a + j by omega]
theorem cp_at0 {f g : Nat → Int} : ∀ j, j < 442 → cpF f 0 g 0 442 j = f j := fun j hj => by rw [cp_at j hj, Nat.zero_add]
