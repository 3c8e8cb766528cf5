/-! the words of a plan's state: T tasks, E dependencies, C crews, lengths L, needs N, lags G (-1: none) -/
def GOK (G : Nat → Nat → Int) : Prop := ∀ i j, i < 20 → j < 20 → -1 ≤ G i j ∧ G i j ≤ 9
def noG : Nat → Nat → Int := fun _ _ => -1
def hasB (T : Nat) (t : Int32) : Bool := decide (0 ≤ t.toInt ∧ t.toInt < (T : Int))
theorem hasB_t {T i : Nat} (h : i < T) (hT : T ≤ 20) : hasB T (nI i) = true := by
  unfold hasB; rw [nI_toInt (by omega)]; simp; omega
theorem hasB_n1 {T : Nat} {t : Int32} (h : t.toInt < 0) : nI 0 = bI (hasB T t) := by
  have : hasB T t = false := by unfold hasB; simp; omega
  rw [this]; rfl
theorem hasB_n2 {T : Nat} {t : Int32} (h : (T : Int) ≤ t.toInt) (_ : T ≤ 20) : nI 0 = bI (hasB T t) := by
  have : hasB T t = false := by unfold hasB; simp; omega
  rw [this]; rfl
theorem hasB_y {T : Nat} {t : Int32} (h1 : 0 ≤ t.toInt) (h2 : t.toInt < (T : Int)) (_ : T ≤ 20) : nI 1 = bI (hasB T t) := by
  have : hasB T t = true := by unfold hasB; simp; omega
  rw [this]; rfl
def cntB (G : Nat → Nat → Int) (j : Nat) : Nat → Nat
  | 0 => 0
  | n + 1 => cntB G j n + if G n j = -1 then 0 else 1
def sumW (L N : Nat → Int) : Nat → Int
  | 0 => 0
  | n + 1 => sumW L N n + L n * N n
def isD (G : Nat → Nat → Int) (i j : Nat) : Int := if G i j = -1 then 0 else 1
theorem upG_self {G : Nat → Nat → Int} {i j : Nat} {x : Int} (h : G i j = x) : upG G i j x = G := by
  funext a b
  unfold upG
  split
  · rename_i h2; rw [h2.1, h2.2, h]
  · rfl
theorem upG_ok {G : Nat → Nat → Int} (h : GOK G) {i j : Nat} (_ : i < 20) (_ : j < 20) : GOK (upG G i j (-1)) := by
  intro a b ha hb
  unfold upG
  split
  · omega
  · exact h a b ha hb
/-- without the first n dependencies from t and to t -/
def rlG (G : Nat → Nat → Int) (t n : Nat) : Nat → Nat → Int := fun i j => if (i = t ∧ j < n) ∨ (j = t ∧ i < n) then -1 else G i j
def rlE (G : Nat → Nat → Int) (t : Nat) : Nat → Int
  | 0 => 0
  | n + 1 => rlE G t n + isD G t n + isD G n t
theorem rlG_0 (G : Nat → Nat → Int) (t : Nat) : rlG G t 0 = G := by
  funext i j; unfold rlG; rw [if_neg (by omega)]
theorem rlG_ok {G : Nat → Nat → Int} (h : GOK G) {t n : Nat} : GOK (rlG G t n) := by
  intro a b ha hb
  unfold rlG
  split
  · omega
  · exact h a b ha hb
theorem rlE_s {G G1 G2 : Nat → Nat → Int} {t k : Nat} {E E1 E2 E3 : Int} {G3 : Nat → Nat → Int} (hk : k < t) (hE1 : E1 = E - rlE G t k) (hG1 : G1 = rlG G t k) (h2 : E2 = E1 - isD G1 t k ∧ G2 = upG G1 t k (-1)) (h3 : E3 = E2 - isD G2 k t ∧ G3 = upG G2 k t (-1)) : E3 = E - rlE G t (k + 1) := by
  have e1 : isD G1 t k = isD G t k := by
    have e0 : rlG G t k t k = G t k := if_neg (by omega)
    unfold isD; rw [hG1, e0]
  have e2 : isD G2 k t = isD G k t := by
    have e0 : rlG G t k k t = G k t := if_neg (by omega)
    have e3 : upG (rlG G t k) t k (-1) k t = rlG G t k k t := if_neg (by omega)
    unfold isD; rw [h2.2, hG1, e3, e0]
  rw [h3.1, h2.1, e1, e2, hE1, rlE]; omega
theorem rlG_s {G G1 G2 G3 : Nat → Nat → Int} {t k : Nat} {E1 E2 E3 : Int} (hk : k < t) (hG1 : G1 = rlG G t k) (h2 : E2 = E1 - isD G1 t k ∧ G2 = upG G1 t k (-1)) (h3 : E3 = E2 - isD G2 k t ∧ G3 = upG G2 k t (-1)) : G3 = rlG G t (k + 1) := by
  rw [h3.2, h2.2, hG1]
  funext i j
  unfold upG rlG
  by_cases c1 : i = k ∧ j = t
  · rw [if_pos c1, if_pos (by omega)]
  · rw [if_neg c1]
    by_cases c2 : i = t ∧ j = k
    · rw [if_pos c2, if_pos (by omega)]
    · rw [if_neg c2]
      by_cases c3 : (i = t ∧ j < k) ∨ (j = t ∧ i < k)
      · rw [if_pos c3, if_pos (by omega)]
      · rw [if_neg c3, if_neg (by omega)]
/-- a row whose first k places are filled -/
def fillF (f : Nat → Int32) (x : Int32) (k : Nat) : Nat → Int32 := fun q => if q < k then x else f q
theorem fillF_s (f : Nat → Int32) (x : Int32) (k j : Nat) : upd (fillF f x k) k x j = fillF f x (k + 1) j := by
  unfold upd fillF
  by_cases h : j = k
  · rw [if_pos h, if_pos (by omega)]
  · rw [if_neg h]
    by_cases h2 : j < k
    · rw [if_pos h2, if_pos (by omega)]
    · rw [if_neg h2, if_neg (by omega)]
