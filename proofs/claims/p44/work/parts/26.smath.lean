/-! the schedule: st t is the start of t, -1 without one -/
def bsy (L N st : Nat → Int) (x : Int) : Nat → Int
  | 0 => 0
  | n + 1 => bsy L N st x n + if 0 ≤ st n ∧ st n ≤ x ∧ x < st n + L n then N n else 0
def allS (G : Nat → Nat → Int) (st : Nat → Int) (t : Nat) : Nat → Bool
  | 0 => true
  | n + 1 => allS G st t n && (decide (G n t = -1) || decide (0 ≤ st n))
def canB (G : Nat → Nat → Int) (T : Nat) (st : Nat → Int) (t : Nat) : Bool := decide (st t < 0) && allS G st t T
def nxt (late : Nat → Int) (can : Nat → Bool) : Nat → Option Nat
  | 0 => none
  | n + 1 => if can n = true then (match nxt late can n with
    | none => some n
    | some m => if late n < late m then some n else some m) else nxt late can n
def oZ : Option Nat → Int
  | none => -1
  | some k => (k : Int)
def bsP (G : Nat → Nat → Int) (L st : Nat → Int) (t : Nat) : Nat → Int
  | 0 => 0
  | n + 1 => if G n t = -1 ∨ st n < 0 then bsP G L st t n else max (bsP G L st t n) (st n + L n + G n t)
def okW (wk : Nat → Int) (ot : Int) (d : Nat) : Nat → Bool
  | 0 => true
  | n + 1 => okW wk ot d n && decide (wk (d + n) ≤ ot)
def fdN (wk : Nat → Int) (ot : Int) (n : Nat) : Nat → Nat → Nat
  | 0, d => d
  | f + 1, d => if okW wk ot d n = true then d else fdN wk ot n f (d + 1)
def fd (G : Nat → Nat → Int) (T : Nat) (L N : Nat → Int) (cr : Int) (st : Nat → Int) (t : Nat) : Nat := fdN (fun x => bsy L N st (x : Int) T) (cr - N t) (L t).toNat 1000 (bsP G L st t T).toNat
def stpO (G : Nat → Nat → Int) (T : Nat) (L N : Nat → Int) (cr : Int) (st : Nat → Int) : Option Nat → Nat → Int
  | none => st
  | some t => upZ st t (fd G T L N cr st t : Int)
def SCH (G : Nat → Nat → Int) (T : Nat) (L N late : Nat → Int) (cr : Int) : Nat → Nat → Int
  | 0 => fun _ => -1
  | k + 1 => stpO G T L N cr (SCH G T L N late cr k) (nxt late (canB G T (SCH G T L N late cr k)) T)
def slE (L st : Nat → Int) : Nat → Int
  | 0 => 0
  | n + 1 => if st n < 0 then slE L st n else max (slE L st n) (st n + L n)
def cntP (G : Nat → Nat → Int) (st : Nat → Int) (t : Nat) : Nat → Int
  | 0 => 0
  | n + 1 => cntP G st t n + if G n t = -1 ∨ 0 ≤ st n then 0 else 1
def gpu (c : Nat → Bool) (f g : Nat → Int) (u : Nat) : Nat → Int := fun j => if j < u ∧ c j = true then g j else f j
theorem gpu_y {c : Nat → Bool} {f g : Nat → Int} {u : Nat} (h : c u = true) : upZ (gpu c f g u) u (g u) = gpu c f g (u + 1) := by
  funext j
  unfold upZ gpu
  by_cases q : j = u
  · subst q; rw [if_pos rfl, if_pos ⟨by omega, h⟩]
  · rw [if_neg q]
    by_cases q2 : j < u ∧ c j = true
    · rw [if_pos q2, if_pos ⟨by omega, q2.2⟩]
    · rw [if_neg q2, if_neg (fun h => q2 ⟨by omega, h.2⟩)]
theorem gpu_n {c : Nat → Bool} {f g : Nat → Int} {u : Nat} (h : c u = false) : gpu c f g u = gpu c f g (u + 1) := by
  funext j
  unfold gpu
  by_cases q2 : j < u ∧ c j = true
  · rw [if_pos q2, if_pos ⟨by omega, q2.2⟩]
  · rw [if_neg q2, if_neg]
    rintro ⟨h1, h2⟩
    by_cases q : j = u
    · subst q; rw [h] at h2; cases h2
    · exact q2 ⟨by omega, h2⟩
theorem gpu_self {c : Nat → Bool} {f g : Nat → Int} {u : Nat} : gpu c f g u u = f u := if_neg (fun h => by omega)
theorem gpu_0 {c : Nat → Bool} {f g : Nat → Int} {u : Nat} (h : ∀ j, j < u → c j = false) : f = gpu c f g u := by
  funext j
  exact (if_neg (fun q => by rw [h j q.1] at q; cases q.2)).symm
theorem allS_iff {G : Nat → Nat → Int} {st : Nat → Int} {t : Nat} : ∀ {n}, allS G st t n = true ↔ ∀ i, i < n → G i t ≠ -1 → 0 ≤ st i
  | 0 => by simp [allS]
  | n + 1 => by
    rw [allS, Bool.and_eq_true, allS_iff]
    constructor
    · rintro ⟨h1, h2⟩ i hi hg
      rcases Nat.lt_or_ge i n with q | q
      · exact h1 i q hg
      · have : i = n := by omega
        subst this
        simp only [Bool.or_eq_true, decide_eq_true_eq] at h2
        exact h2.resolve_left hg
    · intro h
      refine ⟨fun i hi hg => h i (by omega) hg, ?_⟩
      simp only [Bool.or_eq_true, decide_eq_true_eq]
      by_cases hg : G n t = -1
      · exact Or.inl hg
      · exact Or.inr (h n (by omega) hg)
theorem canB_iff {G : Nat → Nat → Int} {T : Nat} {st : Nat → Int} {t : Nat} : canB G T st t = true ↔ st t < 0 ∧ ∀ i, i < T → G i t ≠ -1 → 0 ≤ st i := by
  unfold canB; rw [Bool.and_eq_true, allS_iff, decide_eq_true_eq]
theorem nxt_cong {l1 l2 : Nat → Int} {c1 c2 : Nat → Bool} : ∀ {n}, (∀ j, j < n → l1 j = l2 j ∧ c1 j = c2 j) → nxt l1 c1 n = nxt l2 c2 n
  | 0, _ => rfl
  | n + 1, h => by
    have ih := nxt_cong (n := n) (fun j hj => h j (by omega))
    have hn := h n (by omega)
    rw [nxt, nxt, ih, hn.2]
    cases hm : nxt l2 c2 n with
    | none => rfl
    | some m =>
      have hmlt : m < n := by
        have key : ∀ k m, nxt l2 c2 k = some m → m < k := by
          intro k
          induction k with
          | zero => intro m h; cases h
          | succ k ih2 =>
            intro m h
            rw [nxt] at h
            split at h
            · split at h
              · cases h; omega
              · rename_i m' hm'
                have := ih2 m' hm'
                split at h <;> cases h <;> omega
            · have := ih2 m h; omega
        exact key n m hm
      simp only [hn.1, (h m (by omega)).1]
theorem nxt_some {l : Nat → Int} {c : Nat → Bool} : ∀ {n m}, nxt l c n = some m → m < n ∧ c m = true
  | 0, m, h => by cases h
  | n + 1, m, h => by
    rw [nxt] at h
    split at h
    · rename_i hc
      split at h
      · cases h; exact ⟨by omega, hc⟩
      · rename_i m' hm'
        have := nxt_some hm'
        split at h
        · cases h; exact ⟨by omega, hc⟩
        · cases h; exact ⟨by omega, this.2⟩
    · have := nxt_some h; exact ⟨by omega, this.2⟩
theorem nxt_none {l : Nat → Int} {c : Nat → Bool} : ∀ {n}, nxt l c n = none → ∀ j, j < n → c j = false
  | 0, _, j, hj => absurd hj (Nat.not_lt_zero _)
  | n + 1, h, j, hj => by
    rw [nxt] at h
    split at h
    · split at h
      · cases h
      · split at h <;> cases h
    · rename_i hc
      rcases Nat.lt_or_ge j n with q | q
      · exact nxt_none h j q
      · have : j = n := by omega
        subst this; cases hx : c j
        · rfl
        · exact absurd hx hc
theorem okW_iff {wk : Nat → Int} {ot : Int} {d : Nat} : ∀ {n}, okW wk ot d n = true ↔ ∀ k, k < n → wk (d + k) ≤ ot
  | 0 => by simp [okW]
  | n + 1 => by
    rw [okW, Bool.and_eq_true, okW_iff, decide_eq_true_eq]
    constructor
    · rintro ⟨h1, h2⟩ k hk
      rcases Nat.lt_or_ge k n with q | q
      · exact h1 k q
      · have : k = n := by omega
        subst this; exact h2
    · intro h; exact ⟨fun k hk => h k (by omega), h n (by omega)⟩
/-- d is the first day from fr on, from which n days are free -/
def FDW (wk : Nat → Int) (ot : Int) (n fr d : Nat) : Prop := fr ≤ d ∧ (∀ k, k < n → wk (d + k) ≤ ot) ∧ ∀ d', fr ≤ d' → d' < d → ∃ k, k < n ∧ ot < wk (d' + k)
theorem fdN_eq {wk : Nat → Int} {ot : Int} {n d : Nat} : ∀ {f fr}, FDW wk ot n fr d → d < fr + f → fdN wk ot n f fr = d
  | 0, fr, h, hf => by have := h.1; omega
  | f + 1, fr, h, hf => by
    rw [fdN]
    by_cases q : fr = d
    · subst q; rw [if_pos (okW_iff.mpr h.2.1)]
    · have h1 := h.1
      rw [if_neg]
      · exact fdN_eq ⟨by omega, h.2.1, fun d' a b => h.2.2 d' (by omega) b⟩ (by omega)
      · intro hk
        obtain ⟨k, a, b⟩ := h.2.2 fr (Nat.le_refl _) (by omega)
        have := okW_iff.mp hk k a
        omega
theorem FDW_cong {wk wk' : Nat → Int} {ot : Int} {n fr d : Nat} (h : FDW wk ot n fr d) (hc : ∀ x, x < d + n → wk x = wk' x) : FDW wk' ot n fr d :=
  ⟨h.1, fun k hk => by rw [← hc _ (by omega)]; exact h.2.1 k hk, fun d' a b => by obtain ⟨k, p, q⟩ := h.2.2 d' a b; exact ⟨k, p, by rw [← hc _ (by omega)]; exact q⟩⟩
theorem bsP_0 {G : Nat → Nat → Int} {L st : Nat → Int} {t : Nat} : ∀ n, 0 ≤ bsP G L st t n
  | 0 => Int.le_refl 0
  | n + 1 => by have := bsP_0 (G := G) (L := L) (st := st) (t := t) n; rw [bsP]; split <;> omega
theorem bsP_le {G : Nat → Nat → Int} {L st : Nat → Int} {t : Nat} {M : Int} (hM : 0 ≤ M) : ∀ {n}, (∀ i, i < n → G i t ≠ -1 → st i + L i + G i t ≤ M) → bsP G L st t n ≤ M
  | 0, _ => hM
  | n + 1, h => by
    have ih := bsP_le hM (n := n) (fun i hi hg => h i (by omega) hg)
    rw [bsP]
    split
    · exact ih
    · rename_i hc
      have := h n (by omega) (fun hg => hc (Or.inl hg))
      omega
theorem bsP_up {G : Nat → Nat → Int} {L st : Nat → Int} {t j : Nat} {d : Int} (ht : st t < 0) (hd : 0 ≤ d) : ∀ n, bsP G L (upZ st t d) j n = if t < n ∧ G t j ≠ -1 then max (bsP G L st j n) (d + L t + G t j) else bsP G L st j n
  | 0 => by rw [if_neg (by omega)]; rfl
  | n + 1 => by
    rw [bsP, bsP, bsP_up ht hd n]
    by_cases q : n = t
    · subst q
      rw [upZ_s]
      by_cases hg : G n j = -1
      · rw [if_pos (Or.inl hg), if_pos (Or.inl hg), if_neg (fun h => h.2 hg), if_neg (fun h => h.2 hg)]
      · rw [if_neg (by omega), if_pos (Or.inr ht), if_neg (by omega), if_pos ⟨by omega, hg⟩]
    · rw [upZ_n q]
      by_cases h1 : G n j = -1 ∨ st n < 0
      · rw [if_pos h1, if_pos h1]
        by_cases h2 : t < n ∧ G t j ≠ -1
        · rw [if_pos h2, if_pos ⟨by omega, h2.2⟩]
        · rw [if_neg h2, if_neg (fun h => h2 ⟨by omega, h.2⟩)]
      · rw [if_neg h1, if_neg h1]
        by_cases h2 : t < n ∧ G t j ≠ -1
        · rw [if_pos h2, if_pos ⟨by omega, h2.2⟩]; omega
        · rw [if_neg h2, if_neg (fun h => h2 ⟨by omega, h.2⟩)]
theorem cntP_up {G : Nat → Nat → Int} {st : Nat → Int} {t j : Nat} {d : Int} (ht : st t < 0) (hd : 0 ≤ d) : ∀ n, cntP G (upZ st t d) j n = cntP G st j n - if t < n ∧ G t j ≠ -1 then 1 else 0
  | 0 => by rw [if_neg (by omega)]; rfl
  | n + 1 => by
    rw [cntP, cntP, cntP_up ht hd n]
    by_cases q : n = t
    · subst q
      rw [upZ_s]
      by_cases hg : G n j = -1
      · rw [if_pos (Or.inl hg), if_pos (Or.inl hg), if_neg (fun h => h.2 hg), if_neg (fun h => h.2 hg)]; omega
      · rw [if_neg (fun h => by omega), if_pos (Or.inr hd), if_neg (by omega), if_pos ⟨by omega, hg⟩]; omega
    · rw [upZ_n q]
      by_cases h2 : t < n ∧ G t j ≠ -1
      · rw [if_pos h2, if_pos (show t < n + 1 ∧ G t j ≠ -1 from ⟨by omega, h2.2⟩)]; omega
      · rw [if_neg h2, if_neg (show ¬ (t < n + 1 ∧ G t j ≠ -1) from fun h => h2 ⟨by omega, h.2⟩)]; omega
theorem cntP_0 {G : Nat → Nat → Int} {st : Nat → Int} {j : Nat} : ∀ n, 0 ≤ cntP G st j n
  | 0 => Int.le_refl 0
  | n + 1 => by have := cntP_0 (G := G) (st := st) (j := j) n; rw [cntP]; split <;> omega
theorem cntP_le {G : Nat → Nat → Int} {st : Nat → Int} {j : Nat} : ∀ n, cntP G st j n ≤ n
  | 0 => Int.le_refl 0
  | n + 1 => by have := cntP_le (G := G) (st := st) (j := j) n; rw [cntP]; split <;> omega
theorem cntP_all {G : Nat → Nat → Int} {st : Nat → Int} {j : Nat} : ∀ {n}, cntP G st j n = 0 ↔ ∀ i, i < n → G i j ≠ -1 → 0 ≤ st i
  | 0 => by simp [cntP]
  | n + 1 => by
    have z := cntP_0 (G := G) (st := st) (j := j) n
    rw [cntP]
    constructor
    · intro h i hi hg
      have h0 : cntP G st j n = 0 := by split at h <;> omega
      rcases Nat.lt_or_ge i n with q | q
      · exact cntP_all.mp h0 i q hg
      · have : i = n := by omega
        subst this
        rw [h0] at h
        split at h
        · rename_i e; exact e.resolve_left hg
        · omega
    · intro h
      rw [cntP_all.mpr (fun i hi => h i (by omega)), if_pos]
      · rfl
      · by_cases hg : G n j = -1
        · exact Or.inl hg
        · exact Or.inr (h n (by omega) hg)
theorem cntP_none {G : Nat → Nat → Int} {j : Nat} : ∀ n, cntP G (fun _ => -1) j n = (cntB G j n : Int)
  | 0 => rfl
  | n + 1 => by
    rw [cntP, cntB, cntP_none n]
    by_cases h : G n j = -1
    · simp [h]
    · simp [h]
theorem bsP_none {G : Nat → Nat → Int} {L : Nat → Int} {j : Nat} : ∀ n, bsP G L (fun _ => -1) j n = 0
  | 0 => rfl
  | n + 1 => by rw [bsP, if_pos (Or.inr (by omega)), bsP_none n]
theorem bsy_none {L N : Nat → Int} {x : Int} : ∀ n, bsy L N (fun _ => -1) x n = 0
  | 0 => rfl
  | n + 1 => by rw [bsy, bsy_none n, if_neg (by omega)]; rfl
theorem slE_none {L : Nat → Int} : ∀ n, slE L (fun _ => -1) n = 0
  | 0 => rfl
  | n + 1 => by rw [slE, slE_none n, if_pos (by omega)]
theorem bsy_up {L N st : Nat → Int} {t : Nat} {d x : Int} (ht : st t < 0) (hd : 0 ≤ d) : ∀ n, bsy L N (upZ st t d) x n = bsy L N st x n + if t < n ∧ d ≤ x ∧ x < d + L t then N t else 0
  | 0 => by rw [if_neg (by omega)]; rfl
  | n + 1 => by
    rw [bsy, bsy, bsy_up ht hd n]
    by_cases q : n = t
    · subst q
      rw [upZ_s, if_neg (show ¬ (n < n ∧ d ≤ x ∧ x < d + L n) by omega), if_neg (show ¬ (0 ≤ st n ∧ st n ≤ x ∧ x < st n + L n) by omega)]
      by_cases h : d ≤ x ∧ x < d + L n
      · rw [if_pos ⟨hd, h⟩, if_pos ⟨by omega, h⟩] <;> omega
      · rw [if_neg (fun k => h k.2), if_neg (fun k => h k.2)] <;> omega
    · rw [upZ_n q]
      by_cases h : t < n ∧ d ≤ x ∧ x < d + L t
      · rw [if_pos h, if_pos (show t < n + 1 ∧ d ≤ x ∧ x < d + L t from ⟨by omega, h.2⟩)]; omega
      · rw [if_neg h, if_neg (show ¬ (t < n + 1 ∧ d ≤ x ∧ x < d + L t) from fun k => h ⟨by omega, k.2⟩)]; omega
theorem bsy_late {L N st : Nat → Int} {x : Int} : ∀ {n}, (∀ i, i < n → st i + L i ≤ x) → bsy L N st x n = 0
  | 0, _ => rfl
  | n + 1, h => by
    rw [bsy, bsy_late (fun i hi => h i (by omega)), if_neg]
    · rfl
    · have := h n (by omega); omega
theorem bsy_rng {L N st : Nat → Int} {x : Int} : ∀ {n}, (∀ i, i < n → 0 ≤ N i ∧ N i ≤ 5) → 0 ≤ bsy L N st x n ∧ bsy L N st x n ≤ 5 * n
  | 0, _ => by simp [bsy]
  | n + 1, h => by
    have ih := bsy_rng (L := L) (st := st) (x := x) (n := n) (fun i hi => h i (by omega))
    have := h n (by omega)
    rw [bsy]
    split <;> omega
theorem slE_up {L st : Nat → Int} {t : Nat} {d : Int} (ht : st t < 0) (hd : 0 ≤ d) : ∀ n, slE L (upZ st t d) n = if t < n then max (slE L st n) (d + L t) else slE L st n
  | 0 => by rw [if_neg (by omega)]; rfl
  | n + 1 => by
    rw [slE, slE, slE_up ht hd n]
    by_cases q : n = t
    · subst q
      rw [upZ_s, if_neg (by omega), if_neg (by omega), if_pos (by omega), if_pos ht]
    · rw [upZ_n q]
      by_cases h1 : st n < 0
      · rw [if_pos h1, if_pos h1]
        by_cases h : t < n
        · rw [if_pos h, if_pos (by omega)]
        · rw [if_neg h, if_neg (by omega)]
      · rw [if_neg h1, if_neg h1]
        by_cases h : t < n
        · rw [if_pos h, if_pos (by omega)]; omega
        · rw [if_neg h, if_neg (by omega)]
theorem slE_rng {L st : Nat → Int} {M : Int} (hM : 0 ≤ M) : ∀ {n}, (∀ i, i < n → st i + L i ≤ M) → 0 ≤ slE L st n ∧ slE L st n ≤ M
  | 0, _ => ⟨Int.le_refl 0, hM⟩
  | n + 1, h => by
    have ih := slE_rng (L := L) (st := st) hM (n := n) (fun i hi => h i (by omega))
    have := h n (by omega)
    rw [slE]; split <;> omega
/-- the plan's numbers, as a schedule needs them -/
def NOK (T : Nat) (N : Nat → Int) : Prop := ∀ t, t < T → 0 ≤ N t ∧ N t ≤ 5
def L30 (T : Nat) (L : Nat → Int) : Prop := ∀ t, t < T → 0 ≤ L t ∧ L t ≤ 30
/-- the class's rows, when the schedule is st and k turns are done -/
def CI (G : Nat → Nat → Int) (T : Nat) (L N : Nat → Int) (k : Nat) (st sq wk wt : Nat → Int) (ln : Int) : Prop :=
  (∀ i j, i < T → j < T → G i j ≠ -1 → 0 ≤ st j → 0 ≤ st i) ∧ (∀ t, t < T → -1 ≤ st t) ∧ (∀ t, t < T → st t + L t ≤ 39 * k + 30) ∧ (∀ t, t < T → 0 ≤ st t → st t + L t ≤ 39 * k) ∧
  (∀ t, t < T → sq t = if 0 ≤ st t then st t else bsP G L st t T) ∧ (∀ t, t < T → wt t = if 0 ≤ st t then -1 else cntP G st t T) ∧ (∀ x : Nat, x < 1000 → wk x = bsy L N st (x : Int) T) ∧ ln = slE L st T
theorem CI_0 {G : Nat → Nat → Int} {T : Nat} {L N wt : Nat → Int} (hL : L30 T L) (hw : ∀ t, t < T → wt t = (cntB G t T : Int)) : CI G T L N 0 (fun _ => -1) (fun _ => 0) (fun _ => 0) wt 0 := by
  refine ⟨fun i j _ _ _ h => h, fun t _ => Int.le_refl _, fun t ht => ?_, fun t _ h => ?_, fun t _ => ?_, fun t ht => ?_, fun x _ => (bsy_none T).symm, (slE_none T).symm⟩
  · have := hL t ht
    show (-1 : Int) + L t ≤ _
    omega
  · have h1 : (0 : Int) ≤ -1 := h
    omega
  · show (0 : Int) = if (0 : Int) ≤ -1 then -1 else bsP G L (fun _ => -1) t T
    rw [if_neg (by omega), bsP_none]
  · show wt t = if (0 : Int) ≤ -1 then -1 else cntP G (fun _ => -1) t T
    rw [if_neg (by omega), cntP_none]; exact hw t ht
theorem CI_mono {G : Nat → Nat → Int} {T : Nat} {L N : Nat → Int} {k : Nat} {st sq wk wt : Nat → Int} {ln : Int} (h : CI G T L N k st sq wk wt ln) : CI G T L N (k + 1) st sq wk wt ln :=
  ⟨h.1, h.2.1, fun t ht => by have := h.2.2.1 t ht; omega, fun t ht h0 => by have := h.2.2.2.1 t ht h0; omega, h.2.2.2.2⟩
theorem CI_can {G : Nat → Nat → Int} {T : Nat} {L N : Nat → Int} {k : Nat} {st sq wk wt : Nat → Int} {ln : Int} (h : CI G T L N k st sq wk wt ln) {t : Nat} (ht : t < T) : decide (wt t = 0) = canB G T st t := by
  have e := h.2.2.2.2.2.1 t ht
  have key : wt t = 0 ↔ canB G T st t = true := by
    rw [canB_iff, e]
    by_cases q : 0 ≤ st t
    · rw [if_pos q]; constructor
      · intro h; omega
      · intro h; omega
    · rw [if_neg q, cntP_all]
      exact ⟨fun h => ⟨by omega, h⟩, fun h => h.2⟩
  cases hc : canB G T st t
  · rw [decide_eq_false_iff_not, key, hc]; simp
  · rw [decide_eq_true_eq, key, hc]
theorem CI_fr {G : Nat → Nat → Int} {T : Nat} {L N : Nat → Int} {k : Nat} {st sq wk wt : Nat → Int} {ln : Int} (h : CI G T L N k st sq wk wt ln) (hT : T ≤ 20) (hG : GOK G) (hk : k < 20) {t : Nat} (ht : t < T) (hc : canB G T st t = true) : 0 ≤ bsP G L st t T ∧ bsP G L st t T ≤ 39 * k + 9 ∧ sq t = bsP G L st t T := by
  have c := canB_iff.mp hc
  refine ⟨bsP_0 T, bsP_le (by omega) (fun i hi hg => ?_), by rw [h.2.2.2.2.1 t ht, if_neg (by omega)]⟩
  have a := h.2.2.2.1 i hi (c.2 i hi hg)
  have b := hG i t (by omega) (by omega)
  omega
theorem CI_free {G : Nat → Nat → Int} {T : Nat} {L N : Nat → Int} {k : Nat} {st sq wk wt : Nat → Int} {ln : Int} (h : CI G T L N k st sq wk wt ln) (hL : L30 T L) {x : Nat} (hx : 39 * k + 9 ≤ x) (hx2 : x < 1000) : wk x = 0 := by
  rw [h.2.2.2.2.2.2.1 x hx2]
  have : bsy L N st (x : Int) T = 0 := by
    have key : ∀ n, n ≤ T → bsy L N st (x : Int) n = 0 := by
      intro n
      induction n with
      | zero => intro _; rfl
      | succ n ih =>
        intro hn
        rw [bsy, ih (by omega), if_neg]
        · rfl
        · intro hc
          have := h.2.2.2.1 n (by omega) hc.1
          omega
    exact key T (Nat.le_refl T)
  exact this
theorem CI_step {G : Nat → Nat → Int} {T : Nat} {L N : Nat → Int} {cr : Int} {k : Nat} {st sq wk wt : Nat → Int} {ln : Int} (h : CI G T L N k st sq wk wt ln) (hT : T ≤ 20) (hG : GOK G) (hL : L30 T L) (hk : k < 20) {t d : Nat} (ht : t < T) (hc : canB G T st t = true) (hd : FDW wk (cr - N t) (L t).toNat (bsP G L st t T).toNat d) (hdM : d ≤ 39 * k + 9) :
    CI G T L N (k + 1) (stpO G T L N cr st (some t)) (gpu (fun j => decide (G t j ≠ -1)) (upZ sq t (d : Int)) (fun j => max (upZ sq t (d : Int) j) ((d : Int) + L t + G t j)) T) (gpu (fun x => decide (d ≤ x)) wk (fun x => wk x + N t) (d + (L t).toNat)) (gpu (fun j => decide (G t j ≠ -1)) (upZ wt t (-1)) (fun j => upZ wt t (-1) j - 1) T) (max ln ((d : Int) + L t)) := by
  have hfr := CI_fr h hT hG hk ht hc
  have c := canB_iff.mp hc
  have hLt := hL t ht
  obtain ⟨h1, h2, h3, h4, h5, h6, h7, h8⟩ := h
  have hfd : fd G T L N cr st t = d := by
    unfold fd
    refine fdN_eq (FDW_cong hd (fun x hx => h7 x (by omega))) (by omega)
  have hself : G t t = -1 := by
    by_cases q : G t t = -1
    · exact q
    · have := c.2 t ht q; omega
  show CI G T L N (k + 1) (upZ st t (fd G T L N cr st t : Int)) _ _ _ _
  rw [hfd]
  have hd0 : (0 : Int) ≤ (d : Int) := by omega
  refine ⟨fun i j hi hj hg hs => ?_, fun j hj => ?_, fun j hj => ?_, fun j hj hs => ?_, fun j hj => ?_, fun j hj => ?_, fun x hx => ?_, ?_⟩
  · by_cases q : i = t
    · subst q; rw [upZ_s]; omega
    · rw [upZ_n q]
      by_cases q2 : j = t
      · subst q2; exact c.2 i hi hg
      · rw [upZ_n q2] at hs; exact h1 i j hi hj hg hs
  · by_cases q : j = t
    · subst q; rw [upZ_s]; omega
    · rw [upZ_n q]; exact h2 j hj
  · by_cases q : j = t
    · subst q; rw [upZ_s]; omega
    · rw [upZ_n q]; have := h3 j hj; omega
  · by_cases q : j = t
    · subst q; rw [upZ_s]; omega
    · rw [upZ_n q] at hs ⊢; have := h4 j hj hs; omega
  · unfold gpu
    by_cases q : j = t
    · subst q
      rw [if_neg (by simp [hself]), upZ_s, upZ_s, if_pos hd0]
    · have e0 : upZ st t (d : Int) j = st j := upZ_n q
      rw [e0]
      by_cases hs : 0 ≤ st j
      · have hne : G t j = -1 := by
          by_cases q3 : G t j = -1
          · exact q3
          · have := h1 t j ht hj q3 hs; omega
        rw [if_neg (by simp [hne]), if_pos hs, upZ_n q, h5 j hj, if_pos hs]
      · rw [if_neg hs, bsP_up c.1 hd0]
        by_cases q3 : G t j = -1
        · rw [if_neg (by simp [q3]), if_neg (fun k => k.2 q3), upZ_n q, h5 j hj, if_neg hs]
        · rw [if_pos ⟨hj, by simp [q3]⟩, if_pos ⟨ht, q3⟩]
          show max (upZ sq t (d : Int) j) ((d : Int) + L t + G t j) = _
          rw [upZ_n q, h5 j hj, if_neg hs]
  · unfold gpu
    by_cases q : j = t
    · subst q
      rw [if_neg (by simp [hself]), upZ_s, upZ_s, if_pos hd0]
    · have e0 : upZ st t (d : Int) j = st j := upZ_n q
      rw [e0]
      by_cases hs : 0 ≤ st j
      · have hne : G t j = -1 := by
          by_cases q3 : G t j = -1
          · exact q3
          · have := h1 t j ht hj q3 hs; omega
        rw [if_neg (by simp [hne]), if_pos hs, upZ_n q, h6 j hj, if_pos hs]
      · rw [if_neg hs, cntP_up c.1 hd0]
        by_cases q3 : G t j = -1
        · rw [if_neg (by simp [q3]), if_neg (fun k => k.2 q3), upZ_n q, h6 j hj, if_neg hs]; omega
        · rw [if_pos ⟨hj, by simp [q3]⟩, if_pos ⟨ht, q3⟩]
          show upZ wt t (-1) j - 1 = _
          rw [upZ_n q, h6 j hj, if_neg hs]
  · rw [bsy_up c.1 hd0]
    unfold gpu
    by_cases q : d ≤ x ∧ x < d + (L t).toNat
    · rw [if_pos ⟨q.2, by simpa using q.1⟩, if_pos ⟨ht, by omega, by omega⟩]
      show wk x + N t = _
      rw [h7 x hx]
    · rw [if_neg (fun k => q ⟨by simpa using k.2, k.1⟩), if_neg (fun k => q ⟨by omega, by omega⟩), h7 x hx]; omega
  · rw [slE_up c.1 hd0, if_pos ht, h8]
/-- after T turns each task has its start -/
def plc (st : Nat → Int) : Nat → Nat
  | 0 => 0
  | n + 1 => plc st n + if 0 ≤ st n then 1 else 0
theorem plc_le (st : Nat → Int) : ∀ n, plc st n ≤ n
  | 0 => Nat.le_refl 0
  | n + 1 => by have := plc_le st n; rw [plc]; split <;> omega
theorem plc_all {st : Nat → Int} : ∀ {n}, n ≤ plc st n → ∀ j, j < n → 0 ≤ st j
  | 0, _, j, hj => absurd hj (Nat.not_lt_zero _)
  | n + 1, h, j, hj => by
    have := plc_le st n
    rw [plc] at h
    split at h
    · rename_i hs
      rcases Nat.lt_or_ge j n with q | q
      · exact plc_all (by omega) j q
      · have : j = n := by omega
        subst this; exact hs
    · omega
theorem plc_up {st : Nat → Int} {t : Nat} {d : Int} (ht : st t < 0) (hd : 0 ≤ d) : ∀ n, plc (upZ st t d) n = plc st n + if t < n then 1 else 0
  | 0 => by rw [if_neg (by omega)]; rfl
  | n + 1 => by
    rw [plc, plc, plc_up ht hd n]
    by_cases q : n = t
    · subst q
      have e1 : ¬ 0 ≤ st n := by omega
      simp [upZ_s, hd, e1]
    · rw [upZ_n q]
      by_cases h : t < n
      · have h2 : t < n + 1 := by omega
        simp only [h, h2]; omega
      · have h2 : ¬ t < n + 1 := by omega
        simp only [h, h2]; omega
theorem nxt_ex {G : Nat → Nat → Int} {T : Nat} {late st : Nat → Int} (hac : ACY G T) (h : nxt late (canB G T st) T = none) : ∀ j, j < T → 0 ≤ st j := by
  obtain ⟨rk, hr⟩ := hac
  have hn := nxt_none h
  have key : ∀ r j, j < T → rk j ≤ r → 0 ≤ st j := by
    intro r
    induction r with
    | zero =>
      intro j hj hk
      by_cases q : 0 ≤ st j
      · exact q
      · have := hn j hj
        have h2 : canB G T st j = true := canB_iff.mpr ⟨by omega, fun i hi hg => by have := hr i j hi hj hg; omega⟩
        rw [h2] at this; cases this
    | succ r ih =>
      intro j hj hk
      by_cases q : 0 ≤ st j
      · exact q
      · have := hn j hj
        have h2 : canB G T st j = true := canB_iff.mpr ⟨by omega, fun i hi hg => ih i hi (by have := hr i j hi hj hg; omega)⟩
        rw [h2] at this; cases this
  exact fun j hj => key (rk j) j hj (Nat.le_refl _)
theorem SCH_plc {G : Nat → Nat → Int} {T : Nat} {L N late : Nat → Int} {cr : Int} (hac : ACY G T) : ∀ k, k ≤ T → k ≤ plc (SCH G T L N late cr k) T
  | 0, _ => Nat.zero_le _
  | k + 1, hk => by
    have ih := SCH_plc (L := L) (N := N) (late := late) (cr := cr) hac k (by omega)
    rw [SCH]
    cases ho : nxt late (canB G T (SCH G T L N late cr k)) T with
    | none =>
      have := nxt_ex hac ho
      show k + 1 ≤ plc (SCH G T L N late cr k) T
      have key : ∀ n, n ≤ T → plc (SCH G T L N late cr k) n = n := by
        intro n
        induction n with
        | zero => intro _; rfl
        | succ n ih2 => intro hn; rw [plc, ih2 (by omega), if_pos (this n (by omega))]
      rw [key T (Nat.le_refl T)]; exact hk
    | some t =>
      have hs := nxt_some ho
      have c := canB_iff.mp hs.2
      show k + 1 ≤ plc (upZ (SCH G T L N late cr k) t _) T
      rw [plc_up c.1 (by omega), if_pos hs.1]; omega
theorem SCH_all {G : Nat → Nat → Int} {T : Nat} {L N late : Nat → Int} {cr : Int} (hac : ACY G T) : ∀ j, j < T → 0 ≤ SCH G T L N late cr T j := plc_all (SCH_plc hac T (Nat.le_refl T))
def nOK (N : Nat → Int) (cr : Int) : Nat → Bool
  | 0 => true
  | n + 1 => nOK N cr n && decide (N n ≤ cr)
theorem nOK_iff {N : Nat → Int} {cr : Int} : ∀ {n}, nOK N cr n = true ↔ ∀ t, t < n → N t ≤ cr
  | 0 => by simp [nOK]
  | n + 1 => by
    rw [nOK, Bool.and_eq_true, nOK_iff, decide_eq_true_eq]
    constructor
    · rintro ⟨h1, h2⟩ t ht
      rcases Nat.lt_or_ge t n with q | q
      · exact h1 t q
      · have : t = n := by omega
        subst this; exact h2
    · intro h; exact ⟨fun t ht => h t (by omega), h n (by omega)⟩
