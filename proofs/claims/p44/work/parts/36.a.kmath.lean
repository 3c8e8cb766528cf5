/-! what each change keeps (rows out of the claim whole) -/
theorem kTa_t {T : Nat} {t : Int32} (h : hasB T t = true) : kTa T t = 0 := if_pos h
theorem kTa_f {T : Nat} {t : Int32} (h : hasB T t = false) : kTa T t = 1 := if_neg (by rw [h]; exact Bool.noConfusion)
theorem kTb_t {T : Nat} {t u : Int32} (h : decide (hasB T t = true ∧ hasB T u = true) = true) : kTb T t u = 0 := if_pos ((decide_eq_true_iff).mp h)
theorem kTb_f {T : Nat} {t u : Int32} (h : decide (hasB T t = true ∧ hasB T u = true) = false) : kTb T t u = 1 := if_neg (of_decide_eq_false h)
theorem hb2_n {T : Nat} {t u : Int32} (h : hasB T t = true ∧ hasB T u = true) : ¬ (hasB T t = false ∨ hasB T u = false) := by rw [h.1, h.2]; simp
theorem kLen_1 {T : Nat} {t p : Int32} (h : hasB T t = false) : kLen T t p = 1 := if_pos h
theorem kLen_2 {T : Nat} {t p : Int32} (h : hasB T t = true) (h2 : ¬ (0 ≤ p.toInt ∧ p.toInt ≤ 30)) : kLen T t p = 2 := by unfold kLen; rw [if_neg (bne h), if_pos h2]
theorem kLen_0 {T : Nat} {t p : Int32} (h : hasB T t = true) (h2 : 0 ≤ p.toInt ∧ p.toInt ≤ 30) : kLen T t p = 0 := by unfold kLen; rw [if_neg (bne h), if_neg (not_not_intro h2)]
theorem kDly_0 {T : Nat} {t p : Int32} (h : hasB T t = true) (h2 : 0 ≤ p.toInt ∧ p.toInt ≤ 99) : kDly T t p = 0 := by unfold kDly; rw [if_neg (bne h), if_neg (not_not_intro h2)]
theorem kAdd_1 {T : Nat} {p q : Int32} (h : ¬ (0 ≤ p.toInt ∧ p.toInt ≤ 30 ∧ 0 ≤ q.toInt ∧ q.toInt ≤ 5)) : kAdd T p q = 1 := if_pos h
theorem kAdd_2 {T : Nat} {p q : Int32} (h : 0 ≤ p.toInt ∧ p.toInt ≤ 30 ∧ 0 ≤ q.toInt ∧ q.toInt ≤ 5) (h2 : T = 20) : kAdd T p q = 2 := by unfold kAdd; rw [if_neg (not_not_intro h), if_pos h2]
theorem kAdd_0 {T : Nat} {p q : Int32} (h : 0 ≤ p.toInt ∧ p.toInt ≤ 30 ∧ 0 ≤ q.toInt ∧ q.toInt ≤ 5) (h2 : ¬ T = 20) : kAdd T p q = 0 := by unfold kAdd; rw [if_neg (not_not_intro h), if_neg h2]
theorem kLag_1 {T : Nat} {G : Nat → Nat → Int} {t u : Int32} (h : hasB T t = false ∨ hasB T u = false) : kLag T G t u = 1 := if_pos h
theorem kLag_2 {T : Nat} {G : Nat → Nat → Int} {t u : Int32} (h : hasB T t = true ∧ hasB T u = true) (h2 : G (tI t) (tI u) = -1) : kLag T G t u = 2 := by unfold kLag; rw [if_neg (hb2_n h), if_pos h2]
theorem kLag_0 {T : Nat} {G : Nat → Nat → Int} {t u : Int32} (h : hasB T t = true ∧ hasB T u = true) (h2 : ¬ G (tI t) (tI u) = -1) : kLag T G t u = 0 := by unfold kLag; rw [if_neg (hb2_n h), if_neg h2]
theorem kDep_1 {T : Nat} {En : Int} {G : Nat → Nat → Int} {t u p : Int32} (h : hasB T t = false ∨ hasB T u = false) : kDep T En G t u p = 1 := if_pos h
theorem kDep_2 {T : Nat} {En : Int} {G : Nat → Nat → Int} {t u p : Int32} (h : hasB T t = true ∧ hasB T u = true) (h2 : ¬ (0 ≤ p.toInt ∧ p.toInt ≤ 9) ∨ tI t = tI u) : kDep T En G t u p = 2 := by unfold kDep; rw [if_neg (hb2_n h), if_pos h2]
theorem kDep_3 {T : Nat} {En : Int} {G : Nat → Nat → Int} {t u p : Int32} (h : hasB T t = true ∧ hasB T u = true) (h2 : ¬ (¬ (0 ≤ p.toInt ∧ p.toInt ≤ 9) ∨ tI t = tI u)) (h3 : (40 ≤ En ∧ G (tI t) (tI u) = -1) ∨ ahB G T (tI u) (tI t) = true) : kDep T En G t u p = 3 := by unfold kDep; rw [if_neg (hb2_n h), if_neg h2, if_pos h3]
theorem kDep_0 {T : Nat} {En : Int} {G : Nat → Nat → Int} {t u p : Int32} (h : hasB T t = true ∧ hasB T u = true) (h2 : ¬ (¬ (0 ≤ p.toInt ∧ p.toInt ≤ 9) ∨ tI t = tI u)) (h3 : ¬ ((40 ≤ En ∧ G (tI t) (tI u) = -1) ∨ ahB G T (tI u) (tI t) = true)) : kDep T En G t u p = 0 := by unfold kDep; rw [if_neg (hb2_n h), if_neg h2, if_neg h3]
theorem kCrw_1 {p : Int32} (h : ¬ (1 ≤ p.toInt ∧ p.toInt ≤ 9)) : kCrw p = 1 := if_pos h
theorem kCrw_0 {p : Int32} (h : 1 ≤ p.toInt ∧ p.toInt ≤ 9) : kCrw p = 0 := if_neg (not_not_intro h)
theorem slE_nn (L st : Nat → Int) : ∀ n, 0 ≤ slE L st n
  | 0 => Int.le_refl 0
  | n + 1 => by have := slE_nn L st n; rw [slE]; split <;> omega
theorem kSch_0 {T : Nat} {N : Nat → Int} {C : Int} (h : nOK N C T = true) : kSch T N C = 0 := if_pos h
theorem kSch_1 {T : Nat} {N : Nat → Int} {C : Int} (h : nOK N C T = false) : kSch T N C = 1 := if_neg (by rw [h]; exact Bool.noConfusion)
theorem kSt_0 {T : Nat} {N : Nat → Int} {C : Int} {t : Int32} (h : hasB T t = true) (h2 : nOK N C T = true) : kSt T N C t = 0 := by unfold kSt; rw [if_neg (bne h), if_pos h2]
theorem kOn_0 {T : Nat} {N : Nat → Int} {C : Int} {p : Int32} (h : 0 ≤ p.toInt ∧ p.toInt ≤ 999) (h2 : nOK N C T = true) : kOn T N C p = 0 := by unfold kOn; rw [if_neg (not_not_intro h), if_pos h2]
theorem kZ_0 {z : Nat} (h : ¬ z = 0) : kZ z = 0 := if_neg h
theorem kZ_1 {z : Nat} (h : z = 0) : kZ z = 1 := if_pos h
theorem GO_up {G : Nat → Nat → Int} {T a b : Nat} {x : Int} (h : ∀ i j, i < 20 → j < 20 → G i j ≠ -1 → i < T ∧ j < T) (ha : a < T) (hb : b < T) : ∀ i j, i < 20 → j < 20 → upG G a b x i j ≠ -1 → i < T ∧ j < T := fun i j hi hj hg => by
  by_cases c : i = a ∧ j = b
  · omega
  · unfold upG at hg; rw [if_neg c] at hg; exact h i j hi hj hg
theorem kZ_z {z : Nat} (h : kZ z = 0) : 1 ≤ z := by
  by_cases q : z = 0
  · rw [kZ_1 q] at h; cases h
  · omega
theorem kAdd_z {T : Nat} {p q : Int32} (h : kAdd T p q = 0) : (0 ≤ p.toInt ∧ p.toInt ≤ 30) ∧ (0 ≤ q.toInt ∧ q.toInt ≤ 5) ∧ T ≠ 20 := by
  by_cases c : 0 ≤ p.toInt ∧ p.toInt ≤ 30 ∧ 0 ≤ q.toInt ∧ q.toInt ≤ 5
  · by_cases d : T = 20
    · rw [kAdd_2 c d] at h; cases h
    · omega
  · rw [kAdd_1 c] at h; cases h
theorem kCrw_z {p : Int32} (h : kCrw p = 0) : 1 ≤ p.toInt ∧ p.toInt ≤ 9 := by
  by_cases q : 1 ≤ p.toInt ∧ p.toInt ≤ 9
  · exact q
  · rw [kCrw_1 q] at h; cases h
theorem kDep_z {T : Nat} {En : Int} {G : Nat → Nat → Int} {t u p : Int32} (h : kDep T En G t u p = 0) : tI t < T ∧ tI u < T ∧ (0 ≤ p.toInt ∧ p.toInt ≤ 9) ∧ tI t ≠ tI u ∧ ¬ (40 ≤ En ∧ G (tI t) (tI u) = -1) := by
  by_cases c : hasB T t = false ∨ hasB T u = false
  · rw [kDep_1 c] at h; cases h
  · have c1 : hasB T t = true ∧ hasB T u = true := by
      cases h1 : hasB T t
      · exact absurd (Or.inl h1) c
      · cases h2 : hasB T u
        · exact absurd (Or.inr h2) c
        · exact ⟨rfl, rfl⟩
    by_cases d : ¬ (0 ≤ p.toInt ∧ p.toInt ≤ 9) ∨ tI t = tI u
    · rw [kDep_2 c1 d] at h; cases h
    · by_cases f : (40 ≤ En ∧ G (tI t) (tI u) = -1) ∨ ahB G T (tI u) (tI t) = true
      · rw [kDep_3 c1 d f] at h; cases h
      · exact ⟨(hasB_ex c1.1).1, (hasB_ex c1.2).1, by omega, by omega, fun k => f (Or.inl k)⟩
theorem PSV_add {T : Nat} {En C p q : Int} {L N : Nat → Int} {G : Nat → Nat → Int} (h : PSV T En C L N G) (hT : T ≠ 20) (hp : 0 ≤ p ∧ p ≤ 30) (hq : 0 ≤ q ∧ q ≤ 5) : PSV (T + 1) En C (upZ L T p) (upZ N T q) G := by
  obtain ⟨a1, a2, a3, a4, a5, a6, a7, a8, a9⟩ := h
  refine ⟨by omega, a2, fun j hj => ?_, fun j hj => ?_, a5, ?_, fun i j hi hj hg => by have := a7 i j hi hj hg; omega, a8, a9⟩
  · by_cases c : j = T
    · subst c; rw [upZ_s]; exact hp
    · rw [upZ_n c]; exact a3 j (by omega)
  · by_cases c : j = T
    · subst c; rw [upZ_s]; exact hq
    · rw [upZ_n c]; exact a4 j (by omega)
  · obtain ⟨rk, hr⟩ := a6
    exact ⟨rk, fun i j hi hj hg => by have d := a7 i j (by omega) (by omega) hg; exact hr i j d.1 d.2 hg⟩
theorem PSV_len {T t : Nat} {En C p : Int} {L N : Nat → Int} {G : Nat → Nat → Int} (h : PSV T En C L N G) (hp : 0 ≤ p ∧ p ≤ 30) : PSV T En C (upZ L t p) N G := ⟨h.1, h.2.1, L30_up h.2.2.1 hp, h.2.2.2⟩
theorem PSV_crw {T : Nat} {En C p : Int} {L N : Nat → Int} {G : Nat → Nat → Int} (h : PSV T En C L N G) (hp : 1 ≤ p ∧ p ≤ 9) : PSV T En p L N G := ⟨h.1, hp, h.2.2⟩
theorem isD_rng (G : Nat → Nat → Int) (i j : Nat) : 0 ≤ isD G i j ∧ isD G i j ≤ 1 := by unfold isD; split <;> omega
theorem PSV_rel {T i j : Nat} {En E1 C : Int} {L N : Nat → Int} {G : Nat → Nat → Int} (h : PSV T En C L N G) (hi : i < T) (hj : j < T) (hE : E1 = En - isD G i j) : PSV T E1 C L N (upG G i j (-1)) := by
  obtain ⟨a1, a2, a3, a4, a5, a6, a7, a8, a9⟩ := h
  have key : ∀ a b, upG G i j (-1) a b ≠ -1 → G a b ≠ -1 := fun a b hg k => hg (by unfold upG; split; (rfl); exact k)
  have d := isD_rng G i j
  refine ⟨a1, a2, a3, a4, upG_ok2 a5 (by omega), ?_, fun a b ha hb hg => a7 a b ha hb (key a b hg), lnk_cut (by omega) (by omega) a8 hE, by omega⟩
  obtain ⟨rk, hr⟩ := a6
  exact ⟨rk, fun a b ha hb hg => hr a b ha hb (key a b hg)⟩
theorem PSV_dep {T i j : Nat} {En E1 C p : Int} {L N : Nat → Int} {G : Nat → Nat → Int} (h : PSV T En C L N G) (hi : i < T) (hj : j < T) (hp : 0 ≤ p ∧ p ≤ 9) (hac : ACY (upG G i j p) T) (hf : ¬ (40 ≤ En ∧ G i j = -1)) (hE : E1 = En + (1 - isD G i j)) : PSV T E1 C L N (upG G i j p) := by
  obtain ⟨a1, a2, a3, a4, a5, a6, a7, a8, a9⟩ := h
  refine ⟨a1, a2, a3, a4, upG_ok2 a5 (by omega), hac, GO_up a7 hi hj, lnk_put (by omega) (by omega) (by omega) a8 hE, ?_⟩
  unfold isD at hE
  by_cases c : G i j = -1
  · rw [if_pos c] at hE; omega
  · rw [if_neg c] at hE; omega
def PSVP (P : PS) : Prop := PSV P.1 P.2.1 P.2.2.1 P.2.2.2.1 P.2.2.2.2.1 P.2.2.2.2.2
theorem kDly_1 {T : Nat} {t p : Int32} (h : hasB T t = false) : kDly T t p = 1 := if_pos h
theorem kDly_2 {T : Nat} {t p : Int32} (h : hasB T t = true) (h2 : ¬ (0 ≤ p.toInt ∧ p.toInt ≤ 99)) : kDly T t p = 2 := by unfold kDly; rw [if_neg (bne h), if_pos h2]
