def inB (v lo hi : Int32) : Bool := decide (lo.toInt ≤ v.toInt ∧ v.toInt ≤ hi.toInt)
theorem inB_t {v lo hi : Int32} (h1 : lo.toInt ≤ v.toInt) (h2 : v.toInt ≤ hi.toInt) : nI 1 = bI (inB v lo hi) := by
  have : inB v lo hi = true := decide_eq_true ⟨h1, h2⟩
  rw [this]; rfl
theorem inB_f {v lo hi : Int32} (h : ¬ (lo.toInt ≤ v.toInt ∧ v.toInt ≤ hi.toInt)) : nI 0 = bI (inB v lo hi) := by
  have : inB v lo hi = false := decide_eq_false h
  rw [this]; rfl
theorem in_has {t : Int32} {x : Int} {T : Nat} (hx : x = (T : Int)) (hT : T ≤ 20) : inB t (nI 0) (iZ (x - 1)) = hasB T t := by
  subst hx
  unfold inB hasB
  rw [iZ_toInt (by omega) (by omega), nI_toInt (by omega)]
  apply decide_eq_decide.mpr
  constructor <;> intro h <;> omega
theorem in_rng {v : Int32} {a b : Nat} (ha : a ≤ 1000) (hb : b ≤ 70000) : inB v (nI a) (nI b) = true ↔ (a : Int) ≤ v.toInt ∧ v.toInt ≤ (b : Int) := by
  unfold inB
  rw [decide_eq_true_eq, nI_toInt (by omega), nI_toInt (by omega)]
theorem in_rngf {v : Int32} {a b : Nat} (ha : a ≤ 1000) (hb : b ≤ 70000) : inB v (nI a) (nI b) = false ↔ ¬ ((a : Int) ≤ v.toInt ∧ v.toInt ≤ (b : Int)) := by
  rw [← in_rng ha hb]; cases inB v (nI a) (nI b) <;> simp
/-- copies: k ints of f from fa on, to ta on -/
def cpF (f : Nat → Int) (fa : Nat) (g : Nat → Int) (ta k : Nat) : Nat → Int := fun j => if ta ≤ j ∧ j < ta + k then f (fa + (j - ta)) else g j
theorem cpF_0 {f g : Nat → Int} {fa ta : Nat} : g = cpF f fa g ta 0 := by funext j; exact (if_neg (by omega)).symm
theorem cpF_s {f g : Nat → Int} {fa ta k : Nat} : upZ (cpF f fa g ta k) (ta + k) (f (fa + k)) = cpF f fa g ta (k + 1) := by
  funext j
  unfold upZ cpF
  by_cases q : j = ta + k
  · subst q; rw [if_pos rfl, if_pos (by omega), show ta + k - ta = k by omega]
  · rw [if_neg q]
    by_cases q2 : ta ≤ j ∧ j < ta + k
    · rw [if_pos q2, if_pos (by omega)]
    · rw [if_neg q2, if_neg (by omega)]
def shF (f : Nat → Int) (k : Nat) : Nat → Int := fun j => if j < k then f (j + 442) else f j
theorem shF_0 {f : Nat → Int} : f = shF f 0 := by funext j; exact (if_neg (Nat.not_lt_zero j)).symm
theorem shF_s {f : Nat → Int} {k : Nat} : upZ (shF f k) k (shF f k (k + 442)) = shF f (k + 1) := by
  funext j
  unfold upZ shF
  by_cases q : j = k
  · subst q; rw [if_pos rfl, if_neg (by omega), if_pos (by omega)]
  · rw [if_neg q]
    by_cases q2 : j < k
    · rw [if_pos q2, if_pos (by omega)]
    · rw [if_neg q2, if_neg (by omega)]
/-- the reference's history: the i-th oldest of z states -/
def MH (pa : Nat → Int) (z : Nat) (q : Nat → PS) : Prop := ∀ i, i < z → MST (fun k => pa (442 * i + k)) (q i)
theorem MS_cong {s s' : Nat → Int} {T : Nat} {C : Int} {L N : Nat → Int} {G : Nat → Nat → Int} (h : MS s T C L N G) (hT : T ≤ 20) (he : ∀ j, j < 442 → s' j = s j) : MS s' T C L N G :=
  ⟨by rw [he 0 (by omega)]; exact h.1, by rw [he 1 (by omega)]; exact h.2.1, fun t ht => by rw [he _ (by omega), he _ (by omega)]; exact h.2.2.1 t ht, fun q hq => by rw [he _ (by omega)]; exact h.2.2.2 q hq⟩
theorem MST_cong {s s' : Nat → Int} {P : PS} (h : MST s P) (hT : P.1 ≤ 20) (he : ∀ j, j < 442 → s' j = s j) : MST s' P := MS_cong h hT he
theorem MH_keep {pa sn : Nat → Int} {z : Nat} {q : Nat → PS} {P : PS} (h : MH pa z q) (hz : z ≤ 5) (hn : MST sn P) (hP : P.1 ≤ 20) (hq : ∀ i, i < z → (q i).1 ≤ 20) : MH (cpF sn 0 (if z = 5 then shF pa 1768 else pa) (442 * (if z = 5 then 4 else z)) 442) (if z = 5 then 5 else z + 1) (rcQ z q P) := by
  intro i hi
  unfold rcQ
  by_cases c : z = 5
  · simp only [if_pos c] at hi ⊢
    by_cases c2 : i < 4
    · rw [if_pos c2]
      refine MST_cong (h (i + 1) (by omega)) (hq (i + 1) (by omega)) (fun j hj => ?_)
      show cpF sn 0 (shF pa 1768) (442 * 4) 442 (442 * i + j) = pa (442 * (i + 1) + j)
      unfold cpF shF
      rw [if_neg (by omega), if_pos (by omega), show 442 * i + j + 442 = 442 * (i + 1) + j by omega]
    · rw [if_neg c2]
      refine MST_cong hn hP (fun j hj => ?_)
      show cpF sn 0 (shF pa 1768) (442 * 4) 442 (442 * i + j) = sn j
      unfold cpF
      rw [if_pos (by omega), show 0 + (442 * i + j - 442 * 4) = j by omega]
  · simp only [if_neg c] at hi ⊢
    by_cases c2 : i = z
    · rw [if_pos c2]
      refine MST_cong hn hP (fun j hj => ?_)
      show cpF sn 0 pa (442 * z) 442 (442 * i + j) = sn j
      unfold cpF
      rw [if_pos (by omega), show 0 + (442 * i + j - 442 * z) = j by omega]
    · rw [if_neg c2]
      refine MST_cong (h i (by omega)) (hq i (by omega)) (fun j hj => ?_)
      show cpF sn 0 pa (442 * z) 442 (442 * i + j) = pa (442 * i + j)
      unfold cpF
      rw [if_neg (by omega)]
/-- rows filled in turn -/
def rwF (f g : Nat → Int) (k : Nat) : Nat → Int := fun j => if j < k then g j else f j
theorem rwF_0 {f g : Nat → Int} : f = rwF f g 0 := by funext j; exact (if_neg (Nat.not_lt_zero j)).symm
theorem rwF_s {f g : Nat → Int} {k : Nat} : upZ (rwF f g k) k (g k) = rwF f g (k + 1) := by
  funext j
  unfold upZ rwF
  by_cases q : j = k
  · subst q; rw [if_pos rfl, if_pos (by omega)]
  · rw [if_neg q]
    by_cases q2 : j < k
    · rw [if_pos q2, if_pos (by omega)]
    · rw [if_neg q2, if_neg (by omega)]
theorem spE_cong2 {G : Nat → Nat → Int} {T : Nat} {L e : Nat → Int} (h : ∀ j, j < T → e j = es G T L j) : spE L e T = span G T L := spE_cong (fun i hi => by rw [h i hi])
