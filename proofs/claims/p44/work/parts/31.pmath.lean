/-! a valid plan, the answers' codes -/
def PSV (T : Nat) (E C : Int) (L N : Nat → Int) (G : Nat → Nat → Int) : Prop :=
  T ≤ 20 ∧ (1 ≤ C ∧ C ≤ 9) ∧ L30 T L ∧ NOK T N ∧ GOK G ∧ ACY G T ∧ (∀ i j, i < 20 → j < 20 → G i j ≠ -1 → i < T ∧ j < T) ∧ E = lnk G ∧ E ≤ 40
theorem L30_LOK {T : Nat} {L : Nat → Int} (h : L30 T L) : LOK T L := fun t ht => by have := h t ht; omega
theorem L30_up {T : Nat} {L : Nat → Int} {t : Nat} {x : Int} (h : L30 T L) (hx : 0 ≤ x ∧ x ≤ 30) : L30 T (upZ L t x) := fun j hj => by
  by_cases q : j = t
  · subst q; rw [upZ_s]; exact hx
  · rw [upZ_n q]; exact h j hj
theorem LOK_up {T : Nat} {L : Nat → Int} {t : Nat} {x : Int} (h : L30 T L) (ht : t < T) (hx : 0 ≤ x ∧ x ≤ 99) : LOK T (upZ L t (L t + x)) := fun j hj => by
  by_cases q : j = t
  · subst q; rw [upZ_s]; have := h j hj; omega
  · rw [upZ_n q]; have := h j hj; omega
def tI (t : Int32) : Nat := t.toInt.toNat
theorem hasB_ex {T : Nat} {t : Int32} (h : hasB T t = true) : tI t < T ∧ t = nI (tI t) := by
  unfold hasB at h
  have h2 := (decide_eq_true_iff).mp h
  refine ⟨by unfold tI; omega, ?_⟩
  unfold tI
  rw [iZ_n, show ((t.toInt.toNat : Nat) : Int) = t.toInt by omega]
  exact (Int32.ofInt_toInt t).symm
theorem iZ_toI (t : Int32) : t = iZ t.toInt := (Int32.ofInt_toInt t).symm
theorem iI_eq {t u : Int32} {T : Nat} (h1 : hasB T t = true) (h2 : hasB T u = true) : t = u ↔ tI t = tI u := by
  obtain ⟨_, e1⟩ := hasB_ex h1
  obtain ⟨_, e2⟩ := hasB_ex h2
  constructor
  · intro h; rw [h]
  · intro h; rw [e1, e2, h]
def kTa (T : Nat) (t : Int32) : Nat := if hasB T t = true then 0 else 1
def kTb (T : Nat) (t u : Int32) : Nat := if hasB T t = true ∧ hasB T u = true then 0 else 1
def inR (p : Int32) (a b : Int) : Prop := a ≤ p.toInt ∧ p.toInt ≤ b
def kAdd (T : Nat) (p q : Int32) : Nat := if ¬ (0 ≤ p.toInt ∧ p.toInt ≤ 30 ∧ 0 ≤ q.toInt ∧ q.toInt ≤ 5) then 1 else if T = 20 then 2 else 0
def kRem (T : Nat) : Nat := if T = 0 then 1 else 0
def kLen (T : Nat) (t p : Int32) : Nat := if hasB T t = false then 1 else if ¬ (0 ≤ p.toInt ∧ p.toInt ≤ 30) then 2 else 0
def kDly (T : Nat) (t p : Int32) : Nat := if hasB T t = false then 1 else if ¬ (0 ≤ p.toInt ∧ p.toInt ≤ 99) then 2 else 0
noncomputable def kDep (T : Nat) (En : Int) (G : Nat → Nat → Int) (t u p : Int32) : Nat := if hasB T t = false ∨ hasB T u = false then 1 else if ¬ (0 ≤ p.toInt ∧ p.toInt ≤ 9) ∨ tI t = tI u then 2 else if (40 ≤ En ∧ G (tI t) (tI u) = -1) ∨ ahB G T (tI u) (tI t) = true then 3 else 0
def kLag (T : Nat) (G : Nat → Nat → Int) (t u : Int32) : Nat := if hasB T t = false ∨ hasB T u = false then 1 else if G (tI t) (tI u) = -1 then 2 else 0
def kCrw (p : Int32) : Nat := if ¬ (1 ≤ p.toInt ∧ p.toInt ≤ 9) then 1 else 0
def kSch (T : Nat) (N : Nat → Int) (C : Int) : Nat := if nOK N C T = true then 0 else 1
def kSt (T : Nat) (N : Nat → Int) (C : Int) (t : Int32) : Nat := if hasB T t = false then 1 else if nOK N C T = true then 0 else 2
def kOn (T : Nat) (N : Nat → Int) (C : Int) (p : Int32) : Nat := if ¬ (0 ≤ p.toInt ∧ p.toInt ≤ 999) then 1 else if nOK N C T = true then 0 else 2
def k0 (b : Bool) : Nat := if b = true then 0 else 1
def kZ (z : Nat) : Nat := if z = 0 then 1 else 0
def k60 (tl : Nat) : Nat := if 60 ≤ tl then 1 else 0
/-- what record does -/
def rcQ (z : Nat) (q : Nat → PS) (P : PS) (i : Nat) : PS := if z = 5 then (if i < 4 then q (i + 1) else P) else if i = z then P else q i
def REC (z w : Nat) (hp : Nat → PS) (P : PS) (z1 w1 : Nat) (hp1 : Nat → PS) : Prop := z1 ≤ 5 ∧ w1 < 5 ∧ z1 = (if z = 5 then 5 else z + 1) ∧ ∀ i, i < z1 → hp1 ((w1 + i) % 5) = rcQ z (fun i => hp ((w + i) % 5)) P i
theorem REC_of {z w z1 w1 : Nat} {hp hp1 : Nat → PS} {P : PS} (hz : z ≤ 5) (hw : w < 5) (h : w1 = (if z = 5 then (w + 1) % 5 else w) ∧ z1 = (if z = 5 then 4 else z) + 1 ∧ hp1 = upS hp ((w1 + (z1 - 1)) % 5) P) : REC z w hp P z1 w1 hp1 := by
  obtain ⟨h1, h2, h3⟩ := h
  subst h3
  by_cases q : z = 5
  · rw [if_pos q] at h1 h2
    subst h1; subst h2
    refine ⟨by omega, by omega, by rw [if_pos q], fun i hi => ?_⟩
    unfold rcQ upS
    rw [if_pos q]
    by_cases q2 : i < 4
    · rw [if_pos q2, if_neg (by omega)]
      show hp _ = hp _
      rw [show ((w + 1) % 5 + i) % 5 = (w + (i + 1)) % 5 by omega]
    · rw [if_neg q2, if_pos (by omega)]
  · rw [if_neg q] at h1 h2
    subst h1; subst h2
    refine ⟨by omega, by omega, by rw [if_neg q], fun i hi => ?_⟩
    unfold rcQ upS
    rw [if_neg q]
    by_cases q2 : i = z
    · rw [if_pos q2, if_pos (by omega)]
    · rw [if_neg q2, if_neg (by omega)]
def crtN (e f : Nat → Int) : Nat → Nat
  | 0 => 0
  | n + 1 => crtN e f n + if f n - e n = 0 then 1 else 0
theorem crtN_cong {e f e' f' : Nat → Int} : ∀ {n}, (∀ j, j < n → e j = e' j ∧ f j = f' j) → crtN e f n = crtN e' f' n
  | 0, _ => rfl
  | n + 1, h => by rw [crtN, crtN, crtN_cong (fun j hj => h j (by omega)), (h n (by omega)).1, (h n (by omega)).2]
theorem crtN_le (e f : Nat → Int) : ∀ n, crtN e f n ≤ n
  | 0 => Nat.le_refl 0
  | n + 1 => by have := crtN_le e f n; rw [crtN]; split <;> omega
/-- how many have a later start in f than in e, but for t -/
def mvdN (e f : Nat → Int) (t : Nat) : Nat → Nat
  | 0 => 0
  | n + 1 => mvdN e f t n + if n ≠ t ∧ e n < f n then 1 else 0
theorem mvdN_cong {e f e' f' : Nat → Int} {t : Nat} : ∀ {n}, (∀ j, j < n → e j = e' j ∧ f j = f' j) → mvdN e f t n = mvdN e' f' t n
  | 0, _ => rfl
  | n + 1, h => by rw [mvdN, mvdN, mvdN_cong (fun j hj => h j (by omega)), (h n (by omega)).1, (h n (by omega)).2]
theorem SCH_cong {G : Nat → Nat → Int} {T : Nat} {L N l1 l2 : Nat → Int} {cr : Int} (h : ∀ j, j < T → l1 j = l2 j) : ∀ k, SCH G T L N l1 cr k = SCH G T L N l2 cr k
  | 0 => rfl
  | k + 1 => by rw [SCH, SCH, SCH_cong h k, nxt_cong (fun j hj => ⟨h j hj, rfl⟩)]
theorem SD_cong {G : Nat → Nat → Int} {T : Nat} {L N l1 l2 : Nat → Int} {cr : Int} {sq wk : Nat → Int} {ln : Int} (h : ∀ j, j < T → l1 j = l2 j) (hs : SD G T L N l1 cr sq wk ln) : SD G T L N l2 cr sq wk ln := by
  have e := SCH_cong (G := G) (L := L) (N := N) (cr := cr) h T
  unfold SD at hs ⊢
  rw [← e]; exact hs
theorem fin_cong {G : Nat → Nat → Int} {T : Nat} {L e e' : Nat → Int} {s : Int} {c : Nat} {x : Int64} (h : e c = e' c) : fin G T L e s c x = fin G T L e' s c x := by unfold fin; rw [h]
theorem tw_cong {G : Nat → Nat → Int} {L e e' : Nat → Int} {i j : Nat} {x : Int64} (h1 : e i = e' i) (h2 : e j = e' j) : tw G L e i j x = tw G L e' i j x := by unfold tw; rw [h1, h2]
theorem chN_cong {G : Nat → Nat → Int} {T : Nat} {L e e' : Nat → Int} (h : ∀ j, j < T → e j = e' j) : ∀ k j, j < T → chN G T L e k j = chN G T L e' k j
  | 0, j, hj => rfl
  | k + 1, j, hj => by
    rw [chN, chN]
    exact smL_cong (fun i hi => by rw [chN_cong h k i hi]; exact tw_cong (h i hi) (h j hj))
theorem chains_cong {G : Nat → Nat → Int} {T : Nat} {L e e' : Nat → Int} {s : Int} (h : ∀ j, j < T → e j = e' j) : chains G T L e s = chains G T L e' s := by
  unfold chains
  refine smL_cong (fun c hc => ?_)
  have : cc G T L e c = cc G T L e' c := by unfold cc; exact smL_cong (fun k _ => chN_cong h k c hc)
  rw [this]; exact fin_cong (h c hc)
def lcr (G : Nat → Nat → Int) (T : Nat) (L N : Nat → Int) (sp : Int) (late : Nat → Int) : Nat → Option Nat
  | 0 => none
  | f + 1 => if nOK N ((9 - f : Nat) : Int) T = true ∧ slE L (SCH G T L N late ((9 - f : Nat) : Int) T) T ≤ sp then some (9 - f) else lcr G T L N sp late f
