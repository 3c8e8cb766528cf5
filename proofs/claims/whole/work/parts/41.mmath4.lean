theorem rd_shC {sg : Nat → Int} {tl p l t : Nat} (h : l < t) : rdC sg tl p (97 + l) 0 (t - 1 - l) = rdC sg tl p 97 l (t - 1) := by
  unfold rdC
  apply decide_eq_decide.mpr
  constructor <;> intro k <;> omega
theorem rd_shP {sg : Nat → Int} {tl p l t : Nat} (h : l < t) : rdP sg tl p (97 + l) 0 (t - 1 - l) = rdP sg tl p 97 l (t - 1) := by unfold rdP; rw [rd_shC h]
theorem rd_shV {sg : Nat → Int} {tl p l t : Nat} (h : l < t) : (rdV sg tl p (97 + l) 0 (t - 1 - l) = -1 ∧ rdV sg tl p 97 l (t - 1) = -1) ∨ (0 ≤ rdV sg tl p (97 + l) 0 (t - 1 - l) ∧ rdV sg tl p 97 l (t - 1) = rdV sg tl p (97 + l) 0 (t - 1 - l) + l ∧ rdV sg tl p 97 l (t - 1) ≤ ((t - 1 : Nat) : Int)) := by
  unfold rdV
  rw [rd_shC h]
  by_cases c : rdC sg tl p 97 l (t - 1) = true
  · rw [if_pos c, if_pos c]
    have := (decide_eq_true_iff).mp c
    exact Or.inr ⟨by omega, by omega, by omega⟩
  · rw [if_neg c, if_neg c]; exact Or.inl ⟨rfl, rfl⟩
theorem rd0V {sg : Nat → Int} {tl p z : Nat} : (rdV sg tl p z 0 0 = 0 ∧ rdC sg tl p z 0 0 = true) ∨ (rdV sg tl p z 0 0 = -1 ∧ rdC sg tl p z 0 0 = false) := by
  cases hc : rdC sg tl p z 0 0 with
  | true => exact Or.inl ⟨rd0.mpr hc, rfl⟩
  | false => exact Or.inr ⟨rdV_f hc, rfl⟩
theorem MS_upG {s : Nat → Int} {T : Nat} {C : Int} {L N : Nat → Int} {G : Nat → Nat → Int} {i j : Nat} {x : Int} (h : MS s T C L N G) (hT : T ≤ 20) (hi : i < 20) (hj : j < 20) : MS (upZ s (42 + 20 * i + j) x) T C L N (upG G i j x) := by
  refine ⟨by rw [upZ_n (by omega)]; exact h.1, by rw [upZ_n (by omega)]; exact h.2.1, fun t ht => by rw [upZ_n (by omega), upZ_n (by omega)]; exact h.2.2.1 t ht, fun q hq => ?_⟩
  unfold upG
  by_cases c : q = 20 * i + j
  · rw [if_pos (by omega), show 42 + 20 * i + j = 42 + q by omega, upZ_s]
  · rw [if_neg (by omega), upZ_n (by omega)]; exact h.2.2.2 q hq
theorem MS_adds {s : Nat → Int} {T : Nat} {C x y : Int} {L N : Nat → Int} {G : Nat → Nat → Int} (h : MS s T C L N G) (hT : T < 20) : MS (upZ (upZ (upZ s (2 + T) x) (22 + T) y) 0 ((T : Int) + 1)) (T + 1) C (upZ L T x) (upZ N T y) G := by
  refine ⟨by rw [upZ_s]; omega, by rw [upZ_n (by omega), upZ_n (by omega), upZ_n (by omega)]; exact h.2.1, fun t ht => ?_, fun q hq => by rw [upZ_n (by omega), upZ_n (by omega), upZ_n (by omega)]; exact h.2.2.2 q hq⟩
  have e1 : ∀ (f : Nat → Int) (z : Int) (j : Nat), j ≠ 0 → upZ f 0 z j = f j := fun f z j h => upZ_n h
  rw [e1 _ _ _ (by omega), e1 _ _ _ (by omega)]
  by_cases c : t = T
  · constructor
    · rw [upZ_n (show 2 + t ≠ 22 + T by omega), c, upZ_s, upZ_s]
    · rw [c, upZ_s, upZ_s]
  · constructor
    · rw [upZ_n (show 2 + t ≠ 22 + T by omega), upZ_n (show 2 + t ≠ 2 + T by omega), upZ_n c]; exact (h.2.2.1 t (by omega)).1
    · rw [upZ_n (show 22 + t ≠ 22 + T by omega), upZ_n (show 22 + t ≠ 2 + T by omega), upZ_n c]; exact (h.2.2.1 t (by omega)).2
theorem MS_new {sv L N : Nat → Int} {C x : Int} {k : Nat} (hk : 442 ≤ k) (hx : x = C) : MS (upZ (rwF sv (fun j => if j < 42 then 0 else -1) k) 1 x) 0 C L N noG := by
  subst hx
  refine ⟨?_, upZ_s, fun t ht => absurd ht (Nat.not_lt_zero t), fun q hq => ?_⟩
  · rw [upZ_n (by omega)]; unfold rwF; rw [if_pos (by omega)]; rfl
  · rw [upZ_n (by omega)]; unfold rwF; rw [if_pos (by omega)]; show (if 42 + q < 42 then (0 : Int) else -1) = -1; rw [if_neg (by omega)]
/-- behind a task that was read -/
def rdA (sg : Nat → Int) (tl f t p : Nat) (L N : Nat → Int) (G : Nat → Nat → Int) : Bool × Nat × Nat × (Nat → Int) × (Nat → Int) × (Nat → Nat → Int) :=
  if t = 20 ∨ rdC sg tl p 59 0 0 = false then (decide (p = tl), p, t, L, N, G) else rdN sg tl f t (p + 1) L N G
theorem rdN_f {sg : Nat → Int} {tl f t p : Nat} {L N : Nat → Int} {G : Nat → Nat → Int} (h : (tkN sg tl t p G).1 = false) : rdN sg tl (f + 1) t p L N G = (false, (tkN sg tl t p G).2.1, t, L, N, G) := rn_a h rfl
theorem rdN_t {sg : Nat → Int} {tl f t p : Nat} {L N : Nat → Int} {G : Nat → Nat → Int} (h : (tkN sg tl t p G).1 = true) : rdN sg tl (f + 1) t p L N G = rdA sg tl f (t + 1) (tkN sg tl t p G).2.1 (upZ L t (tkN sg tl t p G).2.2.1) (upZ N t (tkN sg tl t p G).2.2.2.1) (tkN sg tl t p G).2.2.2.2 := by
  unfold rdA
  by_cases c : t = 19 ∨ rdC sg tl (tkN sg tl t p G).2.1 59 0 0 = false
  · rw [rn_b h rfl c, if_pos (by rcases c with c | c; exact Or.inl (by omega); exact Or.inr c)]
  · rw [if_neg (by rintro (k | k); exact c (Or.inl (by omega)); exact c (Or.inr k))]
    have c2 : rdC sg tl (tkN sg tl t p G).2.1 59 0 0 = true := by
      cases hc : rdC sg tl (tkN sg tl t p G).2.1 59 0 0
      · exact absurd (Or.inr hc) c
      · rfl
    exact rn_c h rfl (fun k => c (Or.inl k)) c2
theorem rdA_e {sg : Nat → Int} {tl f t p : Nat} {L N : Nat → Int} {G : Nat → Nat → Int} (h : t = 20 ∨ rdC sg tl p 59 0 0 = false) : rdA sg tl f t p L N G = (decide (p = tl), p, t, L, N, G) := if_pos h
theorem rdA_g {sg : Nat → Int} {tl f t p : Nat} {L N : Nat → Int} {G : Nat → Nat → Int} (h : ¬ t = 20) (h2 : rdC sg tl p 59 0 0 = true) : rdA sg tl f t p L N G = rdN sg tl f t (p + 1) L N G := if_neg (by rintro (k | k); exact h k; rw [h2] at k; cases k)
theorem prs_A {sg : Nat → Int} {tl : Nat} (h : (tkN sg tl 0 0 noG).1 = true) : prs sg tl = rdA sg tl 19 1 (tkN sg tl 0 0 noG).2.1 (upZ (fun _ => 0) 0 (tkN sg tl 0 0 noG).2.2.1) (upZ (fun _ => 0) 0 (tkN sg tl 0 0 noG).2.2.2.1) (tkN sg tl 0 0 noG).2.2.2.2 := rdN_t h
theorem prs_F {sg : Nat → Int} {tl : Nat} (h : (tkN sg tl 0 0 noG).1 = false) : prs sg tl = (false, (tkN sg tl 0 0 noG).2.1, 0, (fun _ => 0), (fun _ => 0), noG) := rdN_f h
theorem inB_iff (x : Int) (lo hi : Nat) (hx : -100000 ≤ x ∧ x ≤ 100000) (hh : lo ≤ 70000 ∧ hi ≤ 70000) : inB (iZ x) (nI lo) (nI hi) = true ↔ (lo : Int) ≤ x ∧ x ≤ (hi : Int) := by
  unfold inB
  rw [decide_eq_true_eq, nI_toInt (by omega), nI_toInt (by omega), iZ_toInt (by omega) (by omega)]
