/-! the law: codes are small; what each change keeps -/
theorem nI_z {k : Nat} (h : k ≤ 3) (h2 : nI k = 0) : k = 0 := by
  have h3 := congrArg Int32.toInt h2
  rw [nI_toInt (by omega)] at h3
  have h4 : (0 : Int32).toInt = 0 := rfl
  omega
theorem kTa_le (T : Nat) (t : Int32) : kTa T t ≤ 3 := by unfold kTa; split <;> omega
theorem kTb_le (T : Nat) (t u : Int32) : kTb T t u ≤ 3 := by unfold kTb; split <;> omega
theorem kAdd_le (T : Nat) (p q : Int32) : kAdd T p q ≤ 3 := by unfold kAdd; split; (omega); split <;> omega
theorem kRem_le (T : Nat) : kRem T ≤ 3 := by unfold kRem; split <;> omega
theorem kLen_le (T : Nat) (t p : Int32) : kLen T t p ≤ 3 := by unfold kLen; split; (omega); split <;> omega
theorem kDly_le3 (T : Nat) (t p : Int32) : kDly T t p ≤ 3 := by have := kDly_le T t p; omega
theorem kDep_le (T : Nat) (En : Int) (G : Nat → Nat → Int) (t u p : Int32) : kDep T En G t u p ≤ 3 := by unfold kDep; split; (omega); split; (omega); split <;> omega
theorem kLag_le (T : Nat) (G : Nat → Nat → Int) (t u : Int32) : kLag T G t u ≤ 3 := by unfold kLag; split; (omega); split <;> omega
theorem kCrw_le (p : Int32) : kCrw p ≤ 3 := by unfold kCrw; split <;> omega
theorem kSch_le (T : Nat) (N : Nat → Int) (C : Int) : kSch T N C ≤ 3 := by unfold kSch; split <;> omega
theorem kSt_le (T : Nat) (N : Nat → Int) (C : Int) (t : Int32) : kSt T N C t ≤ 3 := by unfold kSt; split; (omega); split <;> omega
theorem kOn_le (T : Nat) (N : Nat → Int) (C : Int) (p : Int32) : kOn T N C p ≤ 3 := by unfold kOn; split; (omega); split <;> omega
theorem k0_le (c : Bool) : k0 c ≤ 3 := by unfold k0; split <;> omega
theorem kZ_le (z : Nat) : kZ z ≤ 3 := by unfold kZ; split <;> omega
theorem k60_le (z : Nat) : k60 z ≤ 3 := by unfold k60; split <;> omega
theorem kO_le (o : Option Nat) : kO o ≤ 3 := by
  cases o with
  | none => exact (by decide : (1 : Nat) ≤ 3)
  | some c => exact Nat.zero_le 3
theorem k0_z {c : Bool} (h : k0 c = 0) : c = true := by
  cases c with
  | true => rfl
  | false => rw [k0_f rfl] at h; cases h
theorem kRem_z {T : Nat} (h : kRem T = 0) : 1 ≤ T := by
  by_cases q : T = 0
  · rw [kRem_1 q] at h; cases h
  · omega
theorem kZ_z {z : Nat} (h : kZ z = 0) : 1 ≤ z := by
  by_cases q : z = 0
  · rw [kZ_1 q] at h; cases h
  · omega
theorem k60_z {z : Nat} (h : k60 z = 0) : z < 60 := by
  by_cases q : 60 ≤ z
  · rw [k60_1 q] at h; cases h
  · omega
theorem kAdd_z {T : Nat} {p q : Int32} (h : kAdd T p q = 0) : (0 ≤ p.toInt ∧ p.toInt ≤ 30) ∧ (0 ≤ q.toInt ∧ q.toInt ≤ 5) ∧ T ≠ 20 := by
  by_cases c : 0 ≤ p.toInt ∧ p.toInt ≤ 30 ∧ 0 ≤ q.toInt ∧ q.toInt ≤ 5
  · by_cases d : T = 20
    · rw [kAdd_2 c d] at h; cases h
    · omega
  · rw [kAdd_1 c] at h; cases h
theorem kLen_z {T : Nat} {t p : Int32} (h : kLen T t p = 0) : hasB T t = true ∧ 0 ≤ p.toInt ∧ p.toInt ≤ 30 := by
  cases c : hasB T t with
  | false => rw [kLen_1 c] at h; cases h
  | true =>
    refine ⟨rfl, ?_⟩
    by_cases q : 0 ≤ p.toInt ∧ p.toInt ≤ 30
    · exact q
    · rw [kLen_2 c q] at h; cases h
theorem kCrw_z {p : Int32} (h : kCrw p = 0) : 1 ≤ p.toInt ∧ p.toInt ≤ 9 := by
  by_cases q : 1 ≤ p.toInt ∧ p.toInt ≤ 9
  · exact q
  · rw [kCrw_1 q] at h; cases h
theorem kDep_z {T : Nat} {En : Int} {G : Nat → Nat → Int} {t u p : Int32} (h : kDep T En G t u p = 0) : tI t < T ∧ tI u < T ∧ (0 ≤ p.toInt ∧ p.toInt ≤ 9) ∧ tI t ≠ tI u ∧ ¬ (40 ≤ En ∧ G (tI t) (tI u) = -1) := by
  by_cases c : hasB T t = false ∨ hasB T u = false
  · rw [kDep_1 c] at h; cases h
  · have c1 : hasB T t = true ∧ hasB T u = true := by
      cases h1 : hasB T t
      · exact absurd (Or.inl h1) c
      · cases h2 : hasB T u
        · exact absurd (Or.inr h2) c
        · exact ⟨rfl, rfl⟩
    by_cases d : ¬ (0 ≤ p.toInt ∧ p.toInt ≤ 9) ∨ tI t = tI u
    · rw [kDep_2 c1 d] at h; cases h
    · by_cases f : (40 ≤ En ∧ G (tI t) (tI u) = -1) ∨ ahB G T (tI u) (tI t) = true
      · rw [kDep_3 c1 d f] at h; cases h
      · exact ⟨(hasB_ex c1.1).1, (hasB_ex c1.2).1, by omega, by omega, fun k => f (Or.inl k)⟩
theorem kLag_z {T : Nat} {G : Nat → Nat → Int} {t u : Int32} (h : kLag T G t u = 0) : tI t < T ∧ tI u < T := by
  by_cases c : hasB T t = false ∨ hasB T u = false
  · rw [kLag_1 c] at h; cases h
  · cases h1 : hasB T t
    · exact absurd (Or.inl h1) c
    · cases h2 : hasB T u
      · exact absurd (Or.inr h2) c
      · exact ⟨(hasB_ex h1).1, (hasB_ex h2).1⟩
theorem PSV_add {T : Nat} {En C p q : Int} {L N : Nat → Int} {G : Nat → Nat → Int} (h : PSV T En C L N G) (hT : T ≠ 20) (hp : 0 ≤ p ∧ p ≤ 30) (hq : 0 ≤ q ∧ q ≤ 5) : PSV (T + 1) En C (upZ L T p) (upZ N T q) G := by
  obtain ⟨a1, a2, a3, a4, a5, a6, a7, a8, a9⟩ := h
  refine ⟨by omega, a2, fun j hj => ?_, fun j hj => ?_, a5, ?_, fun i j hi hj hg => by have := a7 i j hi hj hg; omega, a8, a9⟩
  · by_cases c : j = T
    · subst c; rw [upZ_s]; exact hp
    · rw [upZ_n c]; exact a3 j (by omega)
  · by_cases c : j = T
    · subst c; rw [upZ_s]; exact hq
    · rw [upZ_n c]; exact a4 j (by omega)
  · obtain ⟨rk, hr⟩ := a6
    exact ⟨rk, fun i j hi hj hg => by have d := a7 i j (by omega) (by omega) hg; exact hr i j d.1 d.2 hg⟩
theorem PSV_len {T t : Nat} {En C p : Int} {L N : Nat → Int} {G : Nat → Nat → Int} (h : PSV T En C L N G) (hp : 0 ≤ p ∧ p ≤ 30) : PSV T En C (upZ L t p) N G := ⟨h.1, h.2.1, L30_up h.2.2.1 hp, h.2.2.2⟩
theorem PSV_crw {T : Nat} {En C p : Int} {L N : Nat → Int} {G : Nat → Nat → Int} (h : PSV T En C L N G) (hp : 1 ≤ p ∧ p ≤ 9) : PSV T En p L N G := ⟨h.1, hp, h.2.2⟩
theorem isD_rng (G : Nat → Nat → Int) (i j : Nat) : 0 ≤ isD G i j ∧ isD G i j ≤ 1 := by unfold isD; split <;> omega
theorem PSV_rel {T i j : Nat} {En E1 C : Int} {L N : Nat → Int} {G : Nat → Nat → Int} (h : PSV T En C L N G) (hi : i < T) (hj : j < T) (hE : E1 = En - isD G i j) : PSV T E1 C L N (upG G i j (-1)) := by
  obtain ⟨a1, a2, a3, a4, a5, a6, a7, a8, a9⟩ := h
  have key : ∀ a b, upG G i j (-1) a b ≠ -1 → G a b ≠ -1 := fun a b hg k => hg (by unfold upG; split; (rfl); exact k)
  have d := isD_rng G i j
  refine ⟨a1, a2, a3, a4, upG_ok2 a5 (by omega), ?_, fun a b ha hb hg => a7 a b ha hb (key a b hg), lnk_cut (by omega) (by omega) a8 hE, by omega⟩
  obtain ⟨rk, hr⟩ := a6
  exact ⟨rk, fun a b ha hb hg => hr a b ha hb (key a b hg)⟩
theorem PSV_dep {T i j : Nat} {En E1 C p : Int} {L N : Nat → Int} {G : Nat → Nat → Int} (h : PSV T En C L N G) (hi : i < T) (hj : j < T) (hp : 0 ≤ p ∧ p ≤ 9) (hac : ACY (upG G i j p) T) (hf : ¬ (40 ≤ En ∧ G i j = -1)) (hE : E1 = En + (1 - isD G i j)) : PSV T E1 C L N (upG G i j p) := by
  obtain ⟨a1, a2, a3, a4, a5, a6, a7, a8, a9⟩ := h
  refine ⟨a1, a2, a3, a4, upG_ok2 a5 (by omega), hac, GO_up a7 hi hj, lnk_put (by omega) (by omega) (by omega) a8 hE, ?_⟩
  unfold isD at hE
  by_cases c : G i j = -1
  · rw [if_pos c] at hE; omega
  · rw [if_neg c] at hE; omega
theorem rlE_nn (G : Nat → Nat → Int) (t : Nat) : ∀ n, 0 ≤ rlE G t n
  | 0 => Int.le_refl 0
  | n + 1 => by
    have a := rlE_nn G t n
    have b := isD_rng G t n
    have c := isD_rng G n t
    rw [rlE]; omega
theorem PSV_rem {T : Nat} {En C : Int} {L N : Nat → Int} {G : Nat → Nat → Int} (h : PSV T En C L N G) (hT : 1 ≤ T) : PSV (T - 1) (En - rlE G (T - 1) (T - 1)) C L N (rlG G (T - 1) (T - 1)) := by
  obtain ⟨a1, a2, a3, a4, a5, a6, a7, a8, a9⟩ := h
  have d := rlE_nn G (T - 1) (T - 1)
  obtain ⟨rk, hr⟩ := a6
  have key : ∀ a b, a < 20 → b < 20 → rlG G (T - 1) (T - 1) a b ≠ -1 → G a b ≠ -1 ∧ a < T - 1 ∧ b < T - 1 := fun a b ha hb hg => by
    unfold rlG at hg
    by_cases c : (a = T - 1 ∧ b < T - 1) ∨ (b = T - 1 ∧ a < T - 1)
    · rw [if_pos c] at hg; exact absurd rfl hg
    · rw [if_neg c] at hg
      have e := a7 a b ha hb hg
      have f := hr a b e.1 e.2 hg
      refine ⟨hg, ?_⟩
      by_cases q : a = b
      · subst q; omega
      · omega
  exact ⟨by omega, a2, fun j hj => a3 j (by omega), fun j hj => a4 j (by omega), rlG_ok a5, ⟨rk, fun a b ha hb hg => by have e := key a b (by omega) (by omega) hg; exact hr a b (by omega) (by omega) e.1⟩, fun a b ha hb hg => (key a b ha hb hg).2, by rw [lnk_rl (by omega) _ (Nat.le_refl _), a8], by omega⟩
/-! a text's dependencies: two signs each -/
theorem lnk_up1 {G : Nat → Nat → Int} {i j : Nat} {x : Int} (hi : i < 20) (hj : j < 20) : lnk (upG G i j x) ≤ lnk G + 1 := by
  rw [lnk_up hi hj]
  have d := isD_rng G i j
  split <;> omega
theorem pd_lnk {sg : Nat → Int} {tl t : Nat} (ht : t < 20) : ∀ {f l p G}, p ≤ (pdN sg tl t f l p G).2.1 ∧ 2 * lnk (pdN sg tl t f l p G).2.2 ≤ 2 * lnk G + (((pdN sg tl t f l p G).2.1 : Int) - p) + 1
  | 0, l, p, G => ⟨Nat.le_refl _, by show 2 * lnk G ≤ 2 * lnk G + ((p : Int) - p) + 1; omega⟩
  | f + 1, l, p, G => by
    have a := rdP_le sg tl p 97 l (t - 1)
    have b := rdP_le sg tl (rdP sg tl p 97 l (t - 1)) 48 0 9
    rw [pdN]
    by_cases q1 : rdV sg tl p 97 l (t - 1) = -1
    · rw [if_pos q1]
      exact ⟨a.1, by show 2 * lnk G ≤ 2 * lnk G + ((rdP sg tl p 97 l (t - 1) : Int) - p) + 1; omega⟩
    · rw [if_neg q1]
      have hv := rdV_rng sg tl p 97 l (t - 1)
      have hp1 : rdP sg tl p 97 l (t - 1) = p + 1 := rdP_t (by rcases hv with h | h; (exact absurd h q1); exact h.2.2)
      have hlt : (rdV sg tl p 97 l (t - 1)).toNat < 20 := by omega
      have hu := lnk_up1 (G := G) (x := max 0 (rdV sg tl (rdP sg tl p 97 l (t - 1)) 48 0 9)) hlt ht
      by_cases q2 : (rdV sg tl p 97 l (t - 1)).toNat + 1 = t ∨ rdC sg tl (rdP sg tl (rdP sg tl p 97 l (t - 1)) 48 0 9) 43 0 0 = false
      · rw [if_pos q2]
        exact ⟨by show p ≤ rdP sg tl (rdP sg tl p 97 l (t - 1)) 48 0 9; omega, by show 2 * lnk (upG G _ t _) ≤ 2 * lnk G + ((rdP sg tl (rdP sg tl p 97 l (t - 1)) 48 0 9 : Int) - p) + 1; omega⟩
      · rw [if_neg q2]
        have ih := pd_lnk (sg := sg) (tl := tl) ht (f := f) (l := (rdV sg tl p 97 l (t - 1)).toNat + 1) (p := rdP sg tl (rdP sg tl p 97 l (t - 1)) 48 0 9 + 1) (G := upG G (rdV sg tl p 97 l (t - 1)).toNat t (max 0 (rdV sg tl (rdP sg tl p 97 l (t - 1)) 48 0 9)))
        exact ⟨by omega, by omega⟩
theorem lnP_ge (sg : Nat → Int) (tl p : Nat) : p ≤ lnP sg tl p := by
  have a := rdP_le sg tl p 48 0 9
  unfold lnP
  split
  · exact a.1
  · obtain ⟨hi, hh⟩ : ∃ hi : Nat, (if rdV sg tl p 48 0 9 = 3 then 0 else 9) = hi := ⟨_, rfl⟩
    rw [hh]
    have b := rdP_le sg tl (rdP sg tl p 48 0 9) 48 0 hi
    omega
theorem ndP_ge (sg : Nat → Int) (tl p : Nat) : p ≤ ndP sg tl p := by
  unfold ndP
  split
  · have b := rdP_le sg tl (p + 1) 48 0 5; omega
  · exact Nat.le_refl _
theorem tk_lnk {sg : Nat → Int} {tl t p : Nat} {G : Nat → Nat → Int} (ht : t < 20) : p ≤ (tkN sg tl t p G).2.1 ∧ 2 * lnk (tkN sg tl t p G).2.2.2.2 ≤ 2 * lnk G + (((tkN sg tl t p G).2.1 : Int) - p) := by
  have a := lnP_ge sg tl (p + 1)
  have b := ndP_ge sg tl (lnP sg tl (p + 1))
  unfold tkN
  by_cases q1 : rdC sg tl p (97 + t) 0 0 = false
  · rw [if_pos q1]; exact ⟨Nat.le_refl _, by show 2 * lnk G ≤ 2 * lnk G + ((p : Int) - p); omega⟩
  · rw [if_neg q1]
    by_cases q2 : lnV sg tl (p + 1) = -1
    · rw [if_pos q2]; exact ⟨by show p ≤ lnP sg tl (p + 1); omega, by show 2 * lnk G ≤ 2 * lnk G + ((lnP sg tl (p + 1) : Int) - p); omega⟩
    · rw [if_neg q2]
      by_cases q3 : ndV sg tl (lnP sg tl (p + 1)) = -1
      · rw [if_pos q3]; exact ⟨by show p ≤ ndP sg tl (lnP sg tl (p + 1)); omega, by show 2 * lnk G ≤ 2 * lnk G + ((ndP sg tl (lnP sg tl (p + 1)) : Int) - p); omega⟩
      · rw [if_neg q3]
        by_cases q4 : t = 0 ∨ rdC sg tl (ndP sg tl (lnP sg tl (p + 1))) 60 0 0 = false
        · rw [if_pos q4]; exact ⟨by show p ≤ ndP sg tl (lnP sg tl (p + 1)); omega, by show 2 * lnk G ≤ 2 * lnk G + ((ndP sg tl (lnP sg tl (p + 1)) : Int) - p); omega⟩
        · rw [if_neg q4]
          have c := pd_lnk (sg := sg) (tl := tl) ht (f := t) (l := 0) (p := ndP sg tl (lnP sg tl (p + 1)) + 1) (G := G)
          exact ⟨by show p ≤ (pdN sg tl t t 0 (ndP sg tl (lnP sg tl (p + 1)) + 1) G).2.1; omega, by show 2 * lnk (pdN sg tl t t 0 (ndP sg tl (lnP sg tl (p + 1)) + 1) G).2.2 ≤ 2 * lnk G + (((pdN sg tl t t 0 (ndP sg tl (lnP sg tl (p + 1)) + 1) G).2.1 : Int) - p); omega⟩
theorem rd_lnk {sg : Nat → Int} {tl : Nat} : ∀ {f t p L N G}, t + f ≤ 20 → 2 * lnk (rdN sg tl f t p L N G).2.2.2.2.2 ≤ 2 * lnk G + (((rdN sg tl f t p L N G).2.1 : Int) - p)
  | 0, t, p, L, N, G, _ => by show 2 * lnk G ≤ 2 * lnk G + ((p : Int) - p); omega
  | f + 1, t, p, L, N, G, htf => by
    have a := tk_lnk (sg := sg) (tl := tl) (p := p) (G := G) (show t < 20 by omega)
    rw [rdN]
    by_cases q1 : (tkN sg tl t p G).1 = false
    · rw [if_pos q1]; show 2 * lnk G ≤ 2 * lnk G + (((tkN sg tl t p G).2.1 : Int) - p); omega
    · rw [if_neg q1]
      by_cases q2 : t = 19 ∨ rdC sg tl (tkN sg tl t p G).2.1 59 0 0 = false
      · rw [if_pos q2]; exact a.2
      · rw [if_neg q2]
        have ih := rd_lnk (sg := sg) (tl := tl) (f := f) (t := t + 1) (p := (tkN sg tl t p G).2.1 + 1) (L := upZ L t (tkN sg tl t p G).2.2.1) (N := upZ N t (tkN sg tl t p G).2.2.2.1) (G := (tkN sg tl t p G).2.2.2.2) (by omega)
        omega
theorem prs_pl {sg : Nat → Int} {tl : Nat} : ∀ {f t p L N G}, p ≤ tl → (rdN sg tl f t p L N G).2.1 ≤ tl
  | 0, t, p, L, N, G, h => h
  | f + 1, t, p, L, N, G, h => by
    have a := tkP_le sg tl t p G h
    rw [rdN]
    by_cases q1 : (tkN sg tl t p G).1 = false
    · rw [if_pos q1]; exact a
    · rw [if_neg q1]
      by_cases q2 : t = 19 ∨ rdC sg tl (tkN sg tl t p G).2.1 59 0 0 = false
      · rw [if_pos q2]; exact a
      · rw [if_neg q2]
        have c : rdC sg tl (tkN sg tl t p G).2.1 59 0 0 = true := by
          cases hc : rdC sg tl (tkN sg tl t p G).2.1 59 0 0
          · exact absurd (Or.inr hc) q2
          · rfl
        have c2 := (decide_eq_true_iff).mp c
        exact prs_pl (by omega)
theorem prs_lnk {sg : Nat → Int} {tl : Nat} (h : tl ≤ 60) : lnk (prs sg tl).2.2.2.2.2 ≤ 40 := by
  have a := rd_lnk (sg := sg) (tl := tl) (f := 20) (t := 0) (p := 0) (L := fun _ => 0) (N := fun _ => 0) (G := noG) (by omega)
  have b := prs_pl (sg := sg) (tl := tl) (f := 20) (t := 0) (p := 0) (L := fun _ => 0) (N := fun _ => 0) (G := noG) (Nat.zero_le _)
  have c := lnk_0
  unfold prs
  omega
theorem PSV_prs {sg : Nat → Int} {tl T1 : Nat} {T : Nat} {En E1 C : Int} {L N L1 N1 : Nat → Int} {G G1 : Nat → Nat → Int} (h : PSV T En C L N G) (htl : tl ≤ 60) (hok : (prs sg tl).1 = true) (hp : T1 = (prs sg tl).2.2.1 ∧ (∀ j, j < T1 → L1 j = (prs sg tl).2.2.2.1 j ∧ N1 j = (prs sg tl).2.2.2.2.1 j) ∧ G1 = (prs sg tl).2.2.2.2.2 ∧ E1 = lnk G1) : PSV T1 E1 C L1 N1 G1 := by
  obtain ⟨p1, p2, p3, p4⟩ := hp
  have a := prs_ok hok
  have b := prs_lnk (sg := sg) htl
  rw [← p3] at a b
  rw [← p1] at a
  exact ⟨a.2.1, h.2.1, fun j hj => by rw [(p2 j hj).1]; exact a.2.2.1 j hj, fun j hj => by rw [(p2 j hj).2]; exact a.2.2.2.1 j hj, a.2.2.2.2.1, FWD_acy a.2.2.2.2, fun i j hi hj hg => by have := a.2.2.2.2.2 i j hg; omega, p4, by rw [p4]; exact b⟩
theorem MS_prs {sg sn1 : Nat → Int} {tl T1 : Nat} {C : Int} {L1 N1 : Nat → Int} {G1 : Nat → Nat → Int} (h : MS sn1 (prs sg tl).2.2.1 C (prs sg tl).2.2.2.1 (prs sg tl).2.2.2.2.1 (prs sg tl).2.2.2.2.2) (p1 : T1 = (prs sg tl).2.2.1) (p2 : ∀ j, j < T1 → L1 j = (prs sg tl).2.2.2.1 j ∧ N1 j = (prs sg tl).2.2.2.2.1 j) (p3 : G1 = (prs sg tl).2.2.2.2.2) : MS sn1 T1 C L1 N1 G1 := by
  rw [← p1, ← p3] at h
  exact ⟨h.1, h.2.1, fun t ht => by rw [(p2 t ht).1, (p2 t ht).2]; exact h.2.2.1 t ht, h.2.2.2⟩
/-! the law's invariant -/
def PSVP (P : PS) : Prop := PSV P.1 P.2.1 P.2.2.1 P.2.2.2.1 P.2.2.2.2.1 P.2.2.2.2.2
def INV (T : Nat) (En C : Int) (L N : Nat → Int) (G : Nat → Nat → Int) (hs : Bool) (gT : Nat) (gE gC : Int) (gL gN : Nat → Int) (gG : Nat → Nat → Int) (z w : Nat) (hp : Nat → PS) (tl : Nat) (sg sn pa sh : Nat → Int) : Prop :=
  PSV T En C L N G ∧ MS sn T C L N G ∧ z ≤ 5 ∧ w < 5 ∧ (∀ i, i < z → PSVP (hp ((w + i) % 5))) ∧ MH pa z (fun i => hp ((w + i) % 5)) ∧ (hs = true → PSV gT gE gC gL gN gG ∧ MS sh gT gC gL gN gG) ∧ tl ≤ 60 ∧ ∀ j, j < 60 → 0 ≤ sg j ∧ sg j ≤ 65535
section INVS
variable {T T1 gT z w z1 w1 k1 tl : Nat} {En C E1 C1 gE gC : Int} {L N L1 N1 gL gN sg sn sn1 pa pa1 sh : Nat → Int} {G G1 gG : Nat → Nat → Int} {hs : Bool} {hp hp1 : Nat → PS}
theorem INV_mut (h : INV T En C L N G hs gT gE gC gL gN gG z w hp tl sg sn pa sh) (hV1 : PSV T1 E1 C1 L1 N1 G1) (hM1 : MS sn1 T1 C1 L1 N1 G1) (hr : REC z w hp (T, En, C, L, N, G) z1 w1 hp1) (hk : KS z pa sn k1 pa1) : z1 = k1 ∧ INV T1 E1 C1 L1 N1 G1 hs gT gE gC gL gN gG z1 w1 hp1 tl sg sn1 pa1 sh := by
  obtain ⟨a1, a2, a3, a4, a5, a6, a7, a8, a9⟩ := h
  obtain ⟨r1, r2, r3, r4⟩ := hr
  obtain ⟨q1, q2⟩ := hk
  have hmh := MH_keep (P := ((T, En, C, L, N, G) : PS)) a6 a3 a2 a1.1 (fun i hi => (a5 i hi).1)
  rw [← q2] at hmh
  refine ⟨by rw [q1, r3], hV1, hM1, r1, r2, fun i hi => ?_, fun i hi => ?_, a7, a8, a9⟩
  · rw [r4 i hi]
    unfold rcQ
    by_cases c : z = 5
    · rw [if_pos c]
      by_cases c2 : i < 4
      · rw [if_pos c2]; exact a5 (i + 1) (by omega)
      · rw [if_neg c2]; exact a1
    · rw [if_neg c]
      by_cases c2 : i = z
      · rw [if_pos c2]; exact a1
      · rw [if_neg c2]; rw [if_neg c] at r3; exact a5 i (by omega)
  · show MST (fun k => pa1 (442 * i + k)) (hp1 ((w1 + i) % 5))
    rw [r4 i hi]
    exact hmh i (by rw [r3] at hi; exact hi)
theorem INV_undo {P1 : PS} (h : INV T En C L N G hs gT gE gC gL gN gG z w hp tl sg sn pa sh) (hz : 1 ≤ z) (hP : P1 = hp ((w + (z - 1)) % 5)) (hn : ∀ j, j < 442 → sn1 j = pa (442 * (z - 1) + j)) : INV P1.1 P1.2.1 P1.2.2.1 P1.2.2.2.1 P1.2.2.2.2.1 P1.2.2.2.2.2 hs gT gE gC gL gN gG (z - 1) w hp tl sg sn1 pa sh := by
  obtain ⟨a1, a2, a3, a4, a5, a6, a7, a8, a9⟩ := h
  have b := a5 (z - 1) (by omega)
  have c := a6 (z - 1) (by omega)
  subst hP
  exact ⟨b, MST_cong c b.1 hn, by omega, a4, fun i hi => a5 i (by omega), fun i hi => a6 i (by omega), a7, a8, a9⟩
theorem INV_snap {sh1 : Nat → Int} (h : INV T En C L N G hs gT gE gC gL gN gG z w hp tl sg sn pa sh) (hn : ∀ j, j < 442 → sh1 j = sn j) : INV T En C L N G true T En C L N G z w hp tl sg sn pa sh1 := by
  obtain ⟨a1, a2, a3, a4, a5, a6, a7, a8, a9⟩ := h
  exact ⟨a1, a2, a3, a4, a5, a6, fun _ => ⟨a1, MS_cong a2 a1.1 hn⟩, a8, a9⟩
theorem INV_rest (h : INV T En C L N G hs gT gE gC gL gN gG z w hp tl sg sn pa sh) (hh : hs = true) (hn : ∀ j, j < 442 → sn1 j = sh j) (hr : REC z w hp (T, En, C, L, N, G) z1 w1 hp1) (hk : KS z pa sn k1 pa1) : z1 = k1 ∧ INV gT gE gC gL gN gG hs gT gE gC gL gN gG z1 w1 hp1 tl sg sn1 pa1 sh :=
  INV_mut h (h.2.2.2.2.2.2.1 hh).1 (MS_cong (h.2.2.2.2.2.2.1 hh).2 (h.2.2.2.2.2.2.1 hh).1.1 hn) hr hk
theorem INV_app {ch : Nat} (h : INV T En C L N G hs gT gE gC gL gN gG z w hp tl sg sn pa sh) (ht : tl < 60) (hc : ch < 65536) : INV T En C L N G hs gT gE gC gL gN gG z w hp (tl + 1) (upZ sg tl (ch : Int)) sn pa sh := by
  obtain ⟨a1, a2, a3, a4, a5, a6, a7, a8, a9⟩ := h
  refine ⟨a1, a2, a3, a4, a5, a6, a7, by omega, fun j hj => ?_⟩
  by_cases q : j = tl
  · rw [q, upZ_s]; omega
  · rw [upZ_n q]; exact a9 j hj
theorem INV_clr (h : INV T En C L N G hs gT gE gC gL gN gG z w hp tl sg sn pa sh) : INV T En C L N G hs gT gE gC gL gN gG z w hp 0 sg sn pa sh := by
  obtain ⟨a1, a2, a3, a4, a5, a6, a7, a8, a9⟩ := h
  exact ⟨a1, a2, a3, a4, a5, a6, a7, by omega, a9⟩
end INVS
theorem i2c_nat (x : Int32) : (x.toUInt32 % 65536).toInt32 = nI (x.toUInt32 % 65536).toNat := by
  apply Int32.toBitVec_inj.mp
  apply BitVec.eq_of_toNat_eq
  have h : (x.toUInt32 % 65536).toNat < 4294967296 := (x.toUInt32 % 65536).toNat_lt
  rw [pk_tn h]
  rfl
theorem i2c_lt (x : Int32) : (x.toUInt32 % 65536).toNat < 65536 := by
  rw [UInt32.toNat_mod]
  exact Nat.mod_lt _ (by decide)
theorem kZ_nz {z : Nat} (h : ¬ kZ z = 0) : z = 0 := by
  by_cases q : z = 0
  · exact q
  · exact absurd (kZ_0 q) h
theorem kO_z {o : Option Nat} (h : kO o = 0) : ∃ c, o = some c := by
  cases o with
  | none => cases h
  | some c => exact ⟨c, rfl⟩
