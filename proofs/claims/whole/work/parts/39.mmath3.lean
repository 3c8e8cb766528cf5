theorem cb_i1 {G : Nat → Nat → Int} {st : Nat → Int} {k : Nat} (h : st k < 0) : true = (decide (st k < 0) && allS G st k 0) := by rw [decide_eq_true h]; rfl
theorem cb_i0 {G : Nat → Nat → Int} {st : Nat → Int} {k : Nat} (h : ¬ st k < 0) : false = (decide (st k < 0) && allS G st k 0) := by rw [decide_eq_false h]; rfl
theorem cb_s1 {G : Nat → Nat → Int} {st : Nat → Int} {k u : Nat} {cb : Bool} (hcb : cb = (decide (st k < 0) && allS G st k u)) (h1 : cb = true) (h : G u k = -1 ∨ 0 ≤ st u) : true = (decide (st k < 0) && allS G st k (u + 1)) := by
  rw [h1] at hcb
  rw [allS, ← Bool.and_assoc, ← hcb]
  rcases h with h | h
  · rw [decide_eq_true h]; rfl
  · rw [decide_eq_true h]; simp
theorem cb_s0 {G : Nat → Nat → Int} {st : Nat → Int} {k u : Nat} (h : ¬ G u k = -1) (h2 : ¬ 0 ≤ st u) : false = (decide (st k < 0) && allS G st k (u + 1)) := by
  rw [allS, decide_eq_false h, decide_eq_false h2]; simp
theorem cb_can {G : Nat → Nat → Int} {T : Nat} {st : Nat → Int} {k u : Nat} {cb : Bool} (hcb : cb = (decide (st k < 0) && allS G st k u)) (hu : u ≤ T) (h : T ≤ u ∨ cb = false) : cb = canB G T st k := by
  rcases h with h | h
  · rw [hcb, show u = T by omega]; rfl
  · rw [h] at hcb ⊢
    cases hc : canB G T st k with
    | false => rfl
    | true =>
      have c := canB_iff.mp hc
      have a : allS G st k u = true := allS_iff.mpr (fun i hi hg => c.2 i (by omega) hg)
      rw [decide_eq_true c.1, a] at hcb; cases hcb
/-- a schedule's starts, k tasks having one -/
def CX (G : Nat → Nat → Int) (T : Nat) (L : Nat → Int) (k : Nat) (st : Nat → Int) : Prop :=
  (∀ i j, i < T → j < T → G i j ≠ -1 → 0 ≤ st j → 0 ≤ st i) ∧ (∀ t, t < T → -1 ≤ st t) ∧ (∀ t, t < T → st t + L t ≤ 39 * k + 30) ∧ (∀ t, t < T → 0 ≤ st t → st t + L t ≤ 39 * k)
theorem CX_CI {G : Nat → Nat → Int} {T : Nat} {L N : Nat → Int} {k : Nat} {st : Nat → Int} (h : CX G T L k st) : CI G T L N k st (fun t => if 0 ≤ st t then st t else bsP G L st t T) (fun x => bsy L N st (x : Int) T) (fun t => if 0 ≤ st t then -1 else cntP G st t T) (slE L st T) :=
  ⟨h.1, h.2.1, h.2.2.1, h.2.2.2, fun _ _ => rfl, fun _ _ => rfl, fun _ _ => rfl, rfl⟩
theorem CI_CX {G : Nat → Nat → Int} {T : Nat} {L N : Nat → Int} {k : Nat} {st sq wk wt : Nat → Int} {ln : Int} (h : CI G T L N k st sq wk wt ln) : CX G T L k st := ⟨h.1, h.2.1, h.2.2.1, h.2.2.2.1⟩
theorem CX_0 {G : Nat → Nat → Int} {T : Nat} {L : Nat → Int} (hL : L30 T L) : CX G T L 0 (fun _ => -1) := CI_CX (CI_0 (N := fun _ => 0) (wt := fun t => (cntB G t T : Int)) hL (fun _ _ => rfl))
theorem CX_step {G : Nat → Nat → Int} {T : Nat} {L N : Nat → Int} {cr : Int} {k : Nat} {st : Nat → Int} (h : CX G T L k st) (hT : T ≤ 20) (hG : GOK G) (hL : L30 T L) (hk : k < 20) {t : Nat} (ht : t < T) (hc : canB G T st t = true) (hd : FDW (fun x => bsy L N st (x : Int) T) (cr - N t) (L t).toNat (bsP G L st t T).toNat (fd G T L N cr st t)) (hdM : fd G T L N cr st t ≤ 39 * k + 9) : CX G T L (k + 1) (upZ st t (fd G T L N cr st t : Int)) :=
  CI_CX (CI_step (CX_CI (N := N) h) hT hG hL hk ht hc hd hdM)
theorem CX_free {G : Nat → Nat → Int} {T : Nat} {L N : Nat → Int} {k : Nat} {st : Nat → Int} (h : CX G T L k st) (hL : L30 T L) {x : Nat} (hx : 39 * k + 9 ≤ x) (hx2 : x < 1000) : bsy L N st (x : Int) T = 0 := CI_free (CX_CI (N := N) h) hL hx hx2
theorem bsP_s1 {G : Nat → Nat → Int} {L st : Nat → Int} {t n : Nat} {dz : Int} (h : dz = bsP G L st t n) (hg : G n t = -1) : dz = bsP G L st t (n + 1) := by rw [bsP, if_pos (Or.inl hg)]; exact h
theorem bsP_s2 {G : Nat → Nat → Int} {L st : Nat → Int} {t n : Nat} {dz x : Int} (h : dz = bsP G L st t n) (hg : ¬ G n t = -1) (hs : 0 ≤ st n) (hx : x = max dz (st n + L n + G n t)) : x = bsP G L st t (n + 1) := by rw [bsP, if_neg (by omega), ← h]; exact hx
theorem SCH_stop {G : Nat → Nat → Int} {T : Nat} {L N late : Nat → Int} {cr : Int} {k : Nat} (h : nxt late (canB G T (SCH G T L N late cr k)) T = none) : ∀ m, SCH G T L N late cr (k + m) = SCH G T L N late cr k
  | 0 => rfl
  | m + 1 => by
    have ih := SCH_stop h m
    show stpO G T L N cr (SCH G T L N late cr (k + m)) (nxt late (canB G T (SCH G T L N late cr (k + m))) T) = _
    rw [ih, h]; rfl
theorem SCH_lt {G : Nat → Nat → Int} {T : Nat} {L N late : Nat → Int} {cr : Int} {k t : Nat} (hac : ACY G T) (hk : k ≤ T) (h : nxt late (canB G T (SCH G T L N late cr k)) T = some t) : k < T := by
  by_cases q : k = T
  · have a := SCH_all (L := L) (N := N) (late := late) (cr := cr) hac t (nxt_some h).1
    have b := (canB_iff.mp (nxt_some h).2).1
    rw [q] at b; omega
  · omega
noncomputable def plR (G : Nat → Nat → Int) (T : Nat) (L N : Nat → Int) (C : Int) : Int := if nOK N C T = true then slE L (SCH G T L N (lst G T L) C T) T else -1
theorem nOK_all {N : Nat → Int} {C : Int} {T : Nat} (h : ∀ t, t < T → N t ≤ C) : nOK N C T = true := nOK_iff.mpr h
