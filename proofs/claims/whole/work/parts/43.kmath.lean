theorem kTa_t {T : Nat} {t : Int32} (h : hasB T t = true) : kTa T t = 0 := if_pos h
theorem kTa_f {T : Nat} {t : Int32} (h : hasB T t = false) : kTa T t = 1 := if_neg (by rw [h]; exact Bool.noConfusion)
theorem kTb_t {T : Nat} {t u : Int32} (h : decide (hasB T t = true ∧ hasB T u = true) = true) : kTb T t u = 0 := if_pos ((decide_eq_true_iff).mp h)
theorem kTb_f {T : Nat} {t u : Int32} (h : decide (hasB T t = true ∧ hasB T u = true) = false) : kTb T t u = 1 := if_neg (of_decide_eq_false h)
theorem hb2_f {T : Nat} {t u : Int32} (h : decide (hasB T t = true ∧ hasB T u = true) = false) : hasB T t = false ∨ hasB T u = false := by
  have := of_decide_eq_false h
  cases h1 : hasB T t
  · exact Or.inl rfl
  · cases h2 : hasB T u
    · exact Or.inr rfl
    · exact absurd ⟨h1, h2⟩ this
theorem hb2_n {T : Nat} {t u : Int32} (h : hasB T t = true ∧ hasB T u = true) : ¬ (hasB T t = false ∨ hasB T u = false) := by rw [h.1, h.2]; simp
theorem kLen_1 {T : Nat} {t p : Int32} (h : hasB T t = false) : kLen T t p = 1 := if_pos h
theorem kLen_2 {T : Nat} {t p : Int32} (h : hasB T t = true) (h2 : ¬ (0 ≤ p.toInt ∧ p.toInt ≤ 30)) : kLen T t p = 2 := by unfold kLen; rw [if_neg (bne h), if_pos h2]
theorem kLen_0 {T : Nat} {t p : Int32} (h : hasB T t = true) (h2 : 0 ≤ p.toInt ∧ p.toInt ≤ 30) : kLen T t p = 0 := by unfold kLen; rw [if_neg (bne h), if_neg (not_not_intro h2)]
theorem kDly_1 {T : Nat} {t p : Int32} (h : hasB T t = false) : kDly T t p = 1 := if_pos h
theorem kDly_2 {T : Nat} {t p : Int32} (h : hasB T t = true) (h2 : ¬ (0 ≤ p.toInt ∧ p.toInt ≤ 99)) : kDly T t p = 2 := by unfold kDly; rw [if_neg (bne h), if_pos h2]
theorem kDly_0 {T : Nat} {t p : Int32} (h : hasB T t = true) (h2 : 0 ≤ p.toInt ∧ p.toInt ≤ 99) : kDly T t p = 0 := by unfold kDly; rw [if_neg (bne h), if_neg (not_not_intro h2)]
theorem kAdd_1 {T : Nat} {p q : Int32} (h : ¬ (0 ≤ p.toInt ∧ p.toInt ≤ 30 ∧ 0 ≤ q.toInt ∧ q.toInt ≤ 5)) : kAdd T p q = 1 := if_pos h
theorem kAdd_2 {T : Nat} {p q : Int32} (h : 0 ≤ p.toInt ∧ p.toInt ≤ 30 ∧ 0 ≤ q.toInt ∧ q.toInt ≤ 5) (h2 : T = 20) : kAdd T p q = 2 := by unfold kAdd; rw [if_neg (not_not_intro h), if_pos h2]
theorem kAdd_0 {T : Nat} {p q : Int32} (h : 0 ≤ p.toInt ∧ p.toInt ≤ 30 ∧ 0 ≤ q.toInt ∧ q.toInt ≤ 5) (h2 : ¬ T = 20) : kAdd T p q = 0 := by unfold kAdd; rw [if_neg (not_not_intro h), if_neg h2]
theorem kLag_1 {T : Nat} {G : Nat → Nat → Int} {t u : Int32} (h : hasB T t = false ∨ hasB T u = false) : kLag T G t u = 1 := if_pos h
theorem kLag_2 {T : Nat} {G : Nat → Nat → Int} {t u : Int32} (h : hasB T t = true ∧ hasB T u = true) (h2 : G (tI t) (tI u) = -1) : kLag T G t u = 2 := by unfold kLag; rw [if_neg (hb2_n h), if_pos h2]
theorem kLag_0 {T : Nat} {G : Nat → Nat → Int} {t u : Int32} (h : hasB T t = true ∧ hasB T u = true) (h2 : ¬ G (tI t) (tI u) = -1) : kLag T G t u = 0 := by unfold kLag; rw [if_neg (hb2_n h), if_neg h2]
theorem kDep_1 {T : Nat} {En : Int} {G : Nat → Nat → Int} {t u p : Int32} (h : hasB T t = false ∨ hasB T u = false) : kDep T En G t u p = 1 := if_pos h
theorem kDep_2 {T : Nat} {En : Int} {G : Nat → Nat → Int} {t u p : Int32} (h : hasB T t = true ∧ hasB T u = true) (h2 : ¬ (0 ≤ p.toInt ∧ p.toInt ≤ 9) ∨ tI t = tI u) : kDep T En G t u p = 2 := by unfold kDep; rw [if_neg (hb2_n h), if_pos h2]
theorem kDep_3 {T : Nat} {En : Int} {G : Nat → Nat → Int} {t u p : Int32} (h : hasB T t = true ∧ hasB T u = true) (h2 : ¬ (¬ (0 ≤ p.toInt ∧ p.toInt ≤ 9) ∨ tI t = tI u)) (h3 : (40 ≤ En ∧ G (tI t) (tI u) = -1) ∨ ahB G T (tI u) (tI t) = true) : kDep T En G t u p = 3 := by unfold kDep; rw [if_neg (hb2_n h), if_neg h2, if_pos h3]
theorem kDep_0 {T : Nat} {En : Int} {G : Nat → Nat → Int} {t u p : Int32} (h : hasB T t = true ∧ hasB T u = true) (h2 : ¬ (¬ (0 ≤ p.toInt ∧ p.toInt ≤ 9) ∨ tI t = tI u)) (h3 : ¬ ((40 ≤ En ∧ G (tI t) (tI u) = -1) ∨ ahB G T (tI u) (tI t) = true)) : kDep T En G t u p = 0 := by unfold kDep; rw [if_neg (hb2_n h), if_neg h2, if_neg h3]
theorem kCrw_1 {p : Int32} (h : ¬ (1 ≤ p.toInt ∧ p.toInt ≤ 9)) : kCrw p = 1 := if_pos h
theorem kCrw_0 {p : Int32} (h : 1 ≤ p.toInt ∧ p.toInt ≤ 9) : kCrw p = 0 := if_neg (not_not_intro h)
theorem kRem_1 {T : Nat} (h : T = 0) : kRem T = 1 := if_pos h
theorem kRem_0 {T : Nat} (h : ¬ T = 0) : kRem T = 0 := if_neg h
theorem plR_t {G : Nat → Nat → Int} {T : Nat} {L N : Nat → Int} {C : Int} (h : 0 ≤ plR G T L N C) : nOK N C T = true ∧ plR G T L N C = slE L (SCH G T L N (lst G T L) C T) T := by
  unfold plR at h ⊢
  by_cases c : nOK N C T = true
  · rw [if_pos c]; exact ⟨c, rfl⟩
  · rw [if_neg c] at h; omega
theorem slE_nn (L st : Nat → Int) : ∀ n, 0 ≤ slE L st n
  | 0 => Int.le_refl 0
  | n + 1 => by have := slE_nn L st n; rw [slE]; split <;> omega
theorem plR_f {G : Nat → Nat → Int} {T : Nat} {L N : Nat → Int} {C : Int} (h : plR G T L N C < 0) : nOK N C T = false := by
  unfold plR at h
  cases c : nOK N C T with
  | false => rfl
  | true => rw [if_pos c] at h; have := slE_nn L (SCH G T L N (lst G T L) C T) T; omega
theorem SCH_CX {G : Nat → Nat → Int} {T : Nat} {L N : Nat → Int} {C : Int} : True := trivial
theorem kSch_0 {T : Nat} {N : Nat → Int} {C : Int} (h : nOK N C T = true) : kSch T N C = 0 := if_pos h
theorem kSch_1 {T : Nat} {N : Nat → Int} {C : Int} (h : nOK N C T = false) : kSch T N C = 1 := if_neg (by rw [h]; exact Bool.noConfusion)
theorem kSt_1 {T : Nat} {N : Nat → Int} {C : Int} {t : Int32} (h : hasB T t = false) : kSt T N C t = 1 := if_pos h
theorem kSt_2 {T : Nat} {N : Nat → Int} {C : Int} {t : Int32} (h : hasB T t = true) (h2 : nOK N C T = false) : kSt T N C t = 2 := by unfold kSt; rw [if_neg (bne h), if_neg (by rw [h2]; exact Bool.noConfusion)]
theorem kSt_0 {T : Nat} {N : Nat → Int} {C : Int} {t : Int32} (h : hasB T t = true) (h2 : nOK N C T = true) : kSt T N C t = 0 := by unfold kSt; rw [if_neg (bne h), if_pos h2]
theorem kOn_1 {T : Nat} {N : Nat → Int} {C : Int} {p : Int32} (h : ¬ (0 ≤ p.toInt ∧ p.toInt ≤ 999)) : kOn T N C p = 1 := if_pos h
theorem kOn_2 {T : Nat} {N : Nat → Int} {C : Int} {p : Int32} (h : 0 ≤ p.toInt ∧ p.toInt ≤ 999) (h2 : nOK N C T = false) : kOn T N C p = 2 := by unfold kOn; rw [if_neg (not_not_intro h), if_neg (by rw [h2]; exact Bool.noConfusion)]
theorem kOn_0 {T : Nat} {N : Nat → Int} {C : Int} {p : Int32} (h : 0 ≤ p.toInt ∧ p.toInt ≤ 999) (h2 : nOK N C T = true) : kOn T N C p = 0 := by unfold kOn; rw [if_neg (not_not_intro h), if_pos h2]
theorem k0_t {b : Bool} (h : b = true) : k0 b = 0 := if_pos h
theorem k0_f {b : Bool} (h : b = false) : k0 b = 1 := if_neg (by rw [h]; exact Bool.noConfusion)
theorem kZ_0 {z : Nat} (h : ¬ z = 0) : kZ z = 0 := if_neg h
theorem kZ_1 {z : Nat} (h : z = 0) : kZ z = 1 := if_pos h
theorem k60_0 {z : Nat} (h : ¬ 60 ≤ z) : k60 z = 0 := if_neg h
theorem k60_1 {z : Nat} (h : 60 ≤ z) : k60 z = 1 := if_pos h
def KS (mk : Nat) (pa sn : Nat → Int) (k1 : Nat) (pa1 : Nat → Int) : Prop := k1 = (if mk = 5 then 5 else mk + 1) ∧ pa1 = cpF sn 0 (if mk = 5 then shF pa 1768 else pa) (442 * (if mk = 5 then 4 else mk)) 442
theorem MS_up2 {s : Nat → Int} {T : Nat} {C x : Int} {L N : Nat → Int} {G : Nat → Nat → Int} {t : Nat} (h : MS s T C L N G) (hT : T ≤ 20) (ht : t < T) : MS (upZ s (2 + t) x) T C (upZ L t x) N G := by
  refine ⟨by rw [upZ_n (by omega)]; exact h.1, by rw [upZ_n (by omega)]; exact h.2.1, fun j hj => ?_, fun q hq => by rw [upZ_n (by omega)]; exact h.2.2.2 q hq⟩
  constructor
  · by_cases c : j = t
    · rw [c, upZ_s, upZ_s]
    · rw [upZ_n (show 2 + j ≠ 2 + t by omega), upZ_n c]; exact (h.2.2.1 j hj).1
  · rw [upZ_n (by omega)]; exact (h.2.2.1 j hj).2
theorem MS_up1 {s : Nat → Int} {T : Nat} {C x : Int} {L N : Nat → Int} {G : Nat → Nat → Int} (h : MS s T C L N G) : MS (upZ s 1 x) T x L N G :=
  ⟨by rw [upZ_n (by omega)]; exact h.1, upZ_s, fun j hj => by rw [upZ_n (by omega), upZ_n (by omega)]; exact h.2.2.1 j hj, fun q hq => by rw [upZ_n (by omega)]; exact h.2.2.2 q hq⟩
theorem rl_s2 {G : Nat → Nat → Int} {t k : Nat} : upG (upG (rlG G t k) k t (-1)) t k (-1) = rlG G t (k + 1) := by
  funext i j
  unfold upG rlG
  by_cases c1 : i = t ∧ j = k
  · rw [if_pos c1, if_pos (by omega)]
  · rw [if_neg c1]
    by_cases c2 : i = k ∧ j = t
    · rw [if_pos c2, if_pos (by omega)]
    · rw [if_neg c2]
      by_cases c3 : (i = t ∧ j < k) ∨ (j = t ∧ i < k)
      · rw [if_pos c3, if_pos (by omega)]
      · rw [if_neg c3, if_neg (by omega)]
theorem MS_gcong {s : Nat → Int} {T : Nat} {C : Int} {L N : Nat → Int} {G G' : Nat → Nat → Int} (h : MS s T C L N G) (hg : ∀ i j, i < 20 → j < 20 → G i j = G' i j) : MS s T C L N G' :=
  ⟨h.1, h.2.1, h.2.2.1, fun q hq => by rw [h.2.2.2 q hq, hg _ _ (by omega) (by omega)]⟩
theorem rl_all {G : Nat → Nat → Int} {T : Nat} (hT : 1 ≤ T ∧ T ≤ 20) (hac : ACY G T) (hGo : ∀ i j, i < 20 → j < 20 → G i j ≠ -1 → i < T ∧ j < T) : ∀ i j, i < 20 → j < 20 → rlG G (T - 1) 20 i j = rlG G (T - 1) (T - 1) i j := by
  intro i j hi hj
  unfold rlG
  by_cases c : (i = T - 1 ∧ j < T - 1) ∨ (j = T - 1 ∧ i < T - 1)
  · rw [if_pos (by omega), if_pos c]
  · rw [if_neg c]
    by_cases c2 : (i = T - 1 ∧ j < 20) ∨ (j = T - 1 ∧ i < 20)
    · rw [if_pos c2]
      by_cases q : G i j = -1
      · exact q.symm
      · have a := hGo i j hi hj q
        obtain ⟨rk, hr⟩ := hac
        have b := hr i j a.1 a.2 q
        have e : i = j := by omega
        subst e; omega
    · rw [if_neg c2]
theorem lnk_rl {G : Nat → Nat → Int} {t : Nat} (ht : t < 20) : ∀ n, n ≤ t → lnk (rlG G t n) = lnk G - rlE G t n
  | 0, _ => by rw [rlG_0, rlE]; omega
  | n + 1, h => by
    have ih := lnk_rl (G := G) ht n (by omega)
    have e1 : upG (upG (rlG G t n) t n (-1)) n t (-1) = rlG G t (n + 1) := (rlG_s (E1 := 0) (E2 := 0 - isD (rlG G t n) t n) (E3 := 0 - isD (rlG G t n) t n - isD (upG (rlG G t n) t n (-1)) n t) (by omega) rfl ⟨rfl, rfl⟩ ⟨rfl, rfl⟩)
    have e2 := rlE_s (G := G) (G1 := rlG G t n) (E := lnk G) (E1 := lnk G - rlE G t n) (by omega : n < t) rfl rfl ⟨rfl, rfl⟩ ⟨rfl, rfl⟩
    rw [← e1, lnk_up (by omega) (by omega), lnk_up (by omega) (by omega), if_pos rfl, ih, ← e2]
    omega
