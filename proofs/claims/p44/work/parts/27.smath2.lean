/-- the search of the least start, at a day -/
def LSs (wk : Nat → Int) (ot : Int) (n fr M day s : Nat) : Prop := fr ≤ s ∧ s ≤ day ∧ s ≤ M ∧ (∀ x, s ≤ x → x < day → wk x ≤ ot) ∧ ∀ d', fr ≤ d' → d' < s → ∃ k, k < n ∧ ot < wk (d' + k)
theorem LSs_0 {wk : Nat → Int} {ot : Int} {n fr M : Nat} (h : fr ≤ M) : LSs wk ot n fr M fr fr := ⟨Nat.le_refl _, Nat.le_refl _, h, fun x a b => by omega, fun d' a b => by omega⟩
theorem LSs_y {wk : Nat → Int} {ot : Int} {n fr M day s : Nat} (h : LSs wk ot n fr M day s) (hw : wk day ≤ ot) : LSs wk ot n fr M (day + 1) s :=
  ⟨h.1, by have := h.2.1; omega, h.2.2.1, fun x a b => by
    by_cases q : x = day
    · subst q; exact hw
    · exact h.2.2.2.1 x a (by omega), h.2.2.2.2⟩
theorem LSs_n {wk : Nat → Int} {ot : Int} {n fr M day s : Nat} (h : LSs wk ot n fr M day s) (hw : ot < wk day) (hd : day < s + n) (h10 : day < 1000) (hM : ∀ x, M ≤ x → x < 1000 → wk x ≤ ot) : LSs wk ot n fr M (day + 1) (day + 1) := by
  have a := h.1
  have b := h.2.1
  refine ⟨by omega, Nat.le_refl _, ?_, fun x p q => by omega, fun d' p q => ?_⟩
  · by_cases q : M ≤ day
    · have := hM day q h10; omega
    · omega
  · by_cases q2 : d' < s
    · exact h.2.2.2.2 d' p q2
    · exact ⟨day - d', by omega, by rw [show d' + (day - d') = day by omega]; exact hw⟩
theorem LSs_end {wk : Nat → Int} {ot : Int} {n fr M day s : Nat} (h : LSs wk ot n fr M day s) (hd : s + n ≤ day) : FDW wk ot n fr s ∧ s ≤ M :=
  ⟨⟨h.1, fun k hk => h.2.2.2.1 (s + k) (by omega) (by omega), h.2.2.2.2⟩, h.2.2.1⟩
theorem oZ_rng {o : Option Nat} {n : Nat} (h : ∀ t, o = some t → t < n) : -1 ≤ oZ o ∧ oZ o ≤ n := by
  cases o with
  | none => exact ⟨Int.le_refl _, by show (-1 : Int) ≤ _; omega⟩
  | some t => have := h t rfl; exact ⟨by show (-1 : Int) ≤ (t : Int); omega, by show (t : Int) ≤ _; omega⟩
theorem oZ_none {o : Option Nat} (h : oZ o = -1) : o = none := by
  cases o with
  | none => rfl
  | some t => have : (t : Int) = -1 := h; omega
theorem oZ_some {o : Option Nat} (h : ¬ oZ o = -1) : ∃ t, o = some t := by
  cases o with
  | none => exact absurd rfl h
  | some t => exact ⟨t, rfl⟩
theorem nxt_lt {l : Nat → Int} {c : Nat → Bool} {n : Nat} {o : Option Nat} (h : o = nxt l c n) : ∀ t, o = some t → t < n := fun t ht => (nxt_some (h.symm.trans ht)).1
theorem nxt_a {l : Nat → Int} {c : Nat → Bool} {k : Nat} {o : Option Nat} (h : c k = false) (ho : o = nxt l c k) : o = nxt l c (k + 1) := by rw [nxt, if_neg (by rw [h]; exact Bool.noConfusion)]; exact ho
theorem nxt_b {l : Nat → Int} {c : Nat → Bool} {k : Nat} {o : Option Nat} (h : c k = true) (ho : o = nxt l c k) (hn : o = none) : some k = nxt l c (k + 1) := by rw [nxt, if_pos h, ← ho, hn]
theorem nxt_c {l : Nat → Int} {c : Nat → Bool} {k m : Nat} (h : c k = true) (ho : some m = nxt l c k) (hm : l k < l m) : some k = nxt l c (k + 1) := by rw [nxt, if_pos h, ← ho]; exact (if_pos hm).symm
theorem nxt_d {l : Nat → Int} {c : Nat → Bool} {k m : Nat} (h : c k = true) (ho : some m = nxt l c k) (hm : ¬ l k < l m) : some m = nxt l c (k + 1) := by rw [nxt, if_pos h, ← ho]; exact (if_neg hm).symm
theorem CI_sq {G : Nat → Nat → Int} {T : Nat} {L N : Nat → Int} {k : Nat} {st sq wk wt : Nat → Int} {ln : Int} (h : CI G T L N k st sq wk wt ln) (hT : T ≤ 20) (hG : GOK G) (hL : L30 T L) {t : Nat} (ht : t < T) : 0 ≤ sq t ∧ sq t ≤ 39 * k + 39 := by
  have e := h.2.2.2.2.1 t ht
  rw [e]
  by_cases q : 0 ≤ st t
  · rw [if_pos q]; have := h.2.2.2.1 t ht q; have := hL t ht; omega
  · rw [if_neg q]
    refine ⟨bsP_0 T, bsP_le (by omega) (fun i hi hg => ?_)⟩
    have a := h.2.2.1 i hi
    have b := hG i t (by omega) (by omega)
    omega
theorem CI_wt {G : Nat → Nat → Int} {T : Nat} {L N : Nat → Int} {k : Nat} {st sq wk wt : Nat → Int} {ln : Int} (h : CI G T L N k st sq wk wt ln) {t : Nat} (ht : t < T) : -1 ≤ wt t ∧ wt t ≤ T := by
  rw [h.2.2.2.2.2.1 t ht]
  have a := cntP_0 (G := G) (st := st) (j := t) T
  have b := cntP_le (G := G) (st := st) (j := t) T
  split <;> omega
theorem CI_wk {G : Nat → Nat → Int} {T : Nat} {L N : Nat → Int} {k : Nat} {st sq wk wt : Nat → Int} {ln : Int} (h : CI G T L N k st sq wk wt ln) (hT : T ≤ 20) (hN : NOK T N) {x : Nat} (hx : x < 1000) : 0 ≤ wk x ∧ wk x ≤ 100 := by
  rw [h.2.2.2.2.2.2.1 x hx]
  have := bsy_rng (L := L) (st := st) (x := (x : Int)) (n := T) hN
  omega
theorem CI_ln {G : Nat → Nat → Int} {T : Nat} {L N : Nat → Int} {k : Nat} {st sq wk wt : Nat → Int} {ln : Int} (h : CI G T L N k st sq wk wt ln) : 0 ≤ ln ∧ ln ≤ 39 * k + 30 := by
  rw [h.2.2.2.2.2.2.2]
  exact slE_rng (by omega) h.2.2.1
theorem CI_can' {G : Nat → Nat → Int} {T : Nat} {L N late : Nat → Int} {k : Nat} {st sq wk wt : Nat → Int} {ln : Int} (h : CI G T L N k st sq wk wt ln) : nxt late (fun j => decide (wt j = 0)) T = nxt late (canB G T st) T :=
  nxt_cong (fun j hj => ⟨rfl, CI_can h hj⟩)
/-- what stands in the schedule's rows when it is made -/
def SD (G : Nat → Nat → Int) (T : Nat) (L N late : Nat → Int) (cr : Int) (sq wk : Nat → Int) (ln : Int) : Prop :=
  (∀ t, t < T → sq t = SCH G T L N late cr T t) ∧ (∀ x : Nat, x < 1000 → wk x = bsy L N (SCH G T L N late cr T) (x : Int) T) ∧ ln = slE L (SCH G T L N late cr T) T ∧ 0 ≤ ln ∧ ln ≤ 39 * T ∧ (∀ t, t < T → SCH G T L N late cr T t + L t ≤ 39 * T)
theorem CI_SD {G : Nat → Nat → Int} {T : Nat} {L N late : Nat → Int} {cr : Int} {sq wk wt : Nat → Int} {ln : Int} (h : CI G T L N T (SCH G T L N late cr T) sq wk wt ln) (hac : ACY G T) : SD G T L N late cr sq wk ln := by
  have a := SCH_all (L := L) (N := N) (late := late) (cr := cr) hac
  have h9 : ∀ t, t < T → SCH G T L N late cr T t + L t ≤ 39 * T := fun t ht => h.2.2.2.1 t ht (a t ht)
  have b := h.2.2.2.2.2.2.2
  have c := slE_rng (M := 39 * T) (by omega) h9
  exact ⟨fun t ht => by rw [h.2.2.2.2.1 t ht, if_pos (a t ht)], h.2.2.2.2.2.2.1, b, by rw [b]; exact c.1, by rw [b]; exact c.2, h9⟩
def dsum (wk : Nat → Int) : Nat → Int
  | 0 => 0
  | n + 1 => dsum wk n + wk n
theorem nOK_s {N : Nat → Int} {cr : Int} {k : Nat} (h : nOK N cr k = true) (hk : N k ≤ cr) : nOK N cr (k + 1) = true := by rw [nOK, h, decide_eq_true hk]; rfl
theorem nOK_f {N : Nat → Int} {cr : Int} {k T : Nat} (hk : k < T) (h : cr < N k) : nOK N cr T = false := by
  cases hc : nOK N cr T
  · rfl
  · have := nOK_iff.mp hc k hk; omega
theorem has_none {T : Nat} : ∀ {o : Option Nat}, T ≤ 20 → (∀ t, o = some t → t < T) → hasB T (iZ (oZ o)) = false → o = none
  | none, _, _, _ => rfl
  | some t, hT, h, hh => by
    have e : iZ (oZ (some t)) = nI t := iZ_n t
    rw [e, hasB_t (h t rfl) hT] at hh; cases hh
theorem has_some {T : Nat} : ∀ {o : Option Nat}, hasB T (iZ (oZ o)) = true → ∃ t, o = some t
  | none, hh => by
    have : hasB T (iZ (-1)) = false := by unfold hasB; rw [show (iZ (-1)).toInt = -1 from by decide]; simp
    have e : hasB T (iZ (oZ none)) = hasB T (iZ (-1)) := rfl
    rw [e, this] at hh; cases hh
  | some t, _ => ⟨t, rfl⟩
