/-! delays: the plan's length when one task takes longer -/
theorem es_ge {G : Nat → Nat → Int} {T : Nat} {L : Nat → Int} (hac : ACY G T) {i j : Nat} (hi : i < T) (hj : j < T) (hg : G i j ≠ -1) : es G T L i + L i + G i j ≤ es G T L j := by
  have h := maxE_ge (e := es G T L) (L := L) hi hg
  rw [← es_fix hac hj] at h; exact h
theorem es_at {G : Nat → Nat → Int} {T : Nat} {L : Nat → Int} (hac : ACY G T) {j : Nat} (hj : j < T) : es G T L j = 0 ∨ ∃ i, i < T ∧ G i j ≠ -1 ∧ es G T L j = es G T L i + L i + G i j := by
  have h := maxE_at (G := G) (L := L) (e := es G T L) (j := j) T
  rw [← es_fix hac hj] at h; exact h
theorem es_thru {G : Nat → Nat → Int} {T : Nat} {L : Nat → Int} (hac : ACY G T) : ∀ t, t < T → es G T L t + L t + es (trG G) T L t ≤ span G T L := by
  have hac2 := ACY_tr hac
  obtain ⟨rk, hr⟩ := ACY_tr hac
  have key : ∀ n t, rk t < n → t < T → es G T L t + L t + es (trG G) T L t ≤ span G T L := by
    intro n
    induction n with
    | zero => intro t h; exact absurd h (Nat.not_lt_zero _)
    | succ n ih =>
      intro t hn ht
      rcases es_at (L := L) hac2 ht with h | ⟨i, hi, hg, h⟩
      · have a : es G T L t + L t ≤ span G T L := spE_ge ht
        omega
      · have d := hr i t hi ht hg
        have a := ih i (by omega) hi
        have b := es_ge (L := L) hac ht hi (show G t i ≠ -1 from hg)
        have c : trG G i t = G t i := rfl
        omega
  exact fun t ht => key (rk t + 1) t (by omega) ht
theorem es_own {G : Nat → Nat → Int} {T : Nat} {L : Nat → Int} (hac : ACY G T) {t : Nat} {x : Int} (ht : t < T) : es G T (upZ L t x) t = es G T L t := by
  have hac2 := hac
  obtain ⟨rk, hr⟩ := hac
  have key : ∀ n j, rk j < n → j < T → rk j ≤ rk t → es G T (upZ L t x) j = es G T L j := by
    intro n
    induction n with
    | zero => intro j h; exact absurd h (Nat.not_lt_zero _)
    | succ n ih =>
      intro j hn hj hle
      have hu : ∀ i, i < T → G i j ≠ -1 → es G T (upZ L t x) i = es G T L i ∧ upZ L t x i = L i := fun i hi hg => by
        have d := hr i j hi hj hg
        refine ⟨ih i (by omega) hi (by omega), upZ_n (fun h => ?_)⟩
        subst h; omega
      rw [es_fix hac2 hj]
      refine maxE_eq (es_0 j) (fun i hi hg => ?_) ?_
      · rw [(hu i hi hg).1, (hu i hi hg).2]; exact es_ge hac2 hi hj hg
      · rcases es_at (L := L) hac2 hj with h | ⟨i, hi, hg, h⟩
        · exact Or.inl h
        · exact Or.inr ⟨i, hi, hg, by rw [(hu i hi hg).1, (hu i hi hg).2]; exact h⟩
  exact key (rk t + 1) t (by omega) ht (Nat.le_refl _)
theorem es_mono {G : Nat → Nat → Int} {T : Nat} {L L' : Nat → Int} (hac : ACY G T) (h : ∀ j, j < T → L j ≤ L' j) : ∀ j, j < T → es G T L j ≤ es G T L' j := by
  have hac2 := hac
  obtain ⟨rk, hr⟩ := hac
  have key : ∀ n j, rk j < n → j < T → es G T L j ≤ es G T L' j := by
    intro n
    induction n with
    | zero => intro j h; exact absurd h (Nat.not_lt_zero _)
    | succ n ih =>
      intro j hn hj
      rcases es_at (L := L) hac2 hj with k | ⟨i, hi, hg, k⟩
      · have := es_0 (G := G) (T := T) (L := L') j; omega
      · have d := hr i j hi hj hg
        have a := ih i (by omega) hi
        have b := es_ge (L := L') hac2 hi hj hg
        have c := h i hi
        omega
  exact fun j hj => key (rk j + 1) j (by omega) hj
theorem span_up {G : Nat → Nat → Int} {T : Nat} {L : Nat → Int} (hac : ACY G T) {t : Nat} {x : Int} (ht : t < T) (hx : 0 ≤ x) : span G T (upZ L t (L t + x)) = max (span G T L) (es G T L t + L t + x + es (trG G) T L t) := by
  have hac2 := hac
  have o1 := es_own (L := L) (x := L t + x) hac ht
  have o2 := es_own (L := L) (x := L t + x) (ACY_tr hac) ht
  have u1 : upZ L t (L t + x) t = L t + x := upZ_s
  have u2 : ∀ j, j ≠ t → upZ L t (L t + x) j = L j := fun j h => upZ_n h
  generalize upZ L t (L t + x) = L' at o1 o2 u1 u2 ⊢
  have hle : ∀ j, j < T → L j ≤ L' j := fun j hj => by
    by_cases q : j = t
    · subst q; omega
    · have := u2 j q; omega
  have A : span G T L ≤ span G T L' := by
    rcases spE_at (L := L) (e := es G T L) T with h | ⟨i, hi, h⟩
    · have a : span G T L = 0 := h
      have := span_0 (G := G) (T := T) (L := L'); omega
    · have a : span G T L = es G T L i + L i := h
      have b := es_mono hac hle i hi
      have c := hle i hi
      have d : es G T L' i + L' i ≤ span G T L' := spE_ge hi
      omega
  have B := es_thru (L := L') hac t ht
  have C : ∀ j, j < T → es G T L' j + L' j + es (trG G) T L j ≤ max (span G T L) (es G T L t + L t + x + es (trG G) T L t) := by
    obtain ⟨rk, hr⟩ := hac
    have key : ∀ n j, rk j < n → j < T → es G T L' j + L' j + es (trG G) T L j ≤ max (span G T L) (es G T L t + L t + x + es (trG G) T L t) := by
      intro n
      induction n with
      | zero => intro j h; exact absurd h (Nat.not_lt_zero _)
      | succ n ih =>
        intro j hn hj
        by_cases q : j = t
        · subst q; omega
        · have uj := u2 j q
          have th := es_thru (L := L) hac2 j hj
          rcases es_at (L := L') hac2 hj with k | ⟨i, hi, hg, k⟩
          · have z := es_0 (G := G) (T := T) (L := L) j
            omega
          · have d := hr i j hi hj hg
            have a := ih i (by omega) hi
            have b := es_ge (L := L) (ACY_tr hac2) hj hi (show trG G j i ≠ -1 from hg)
            have c : trG G j i = G i j := rfl
            omega
    exact fun j hj => key (rk j + 1) j (by omega) hj
  have D : span G T L' ≤ max (span G T L) (es G T L t + L t + x + es (trG G) T L t) := by
    rcases spE_at (L := L') (e := es G T L') T with h | ⟨i, hi, h⟩
    · have a : span G T L' = 0 := h
      have := span_0 (G := G) (T := T) (L := L); omega
    · have a : span G T L' = es G T L' i + L' i := h
      have b := C i hi
      have c := es_0 (G := trG G) (T := T) (L := L) i
      omega
  omega
theorem dly_slack {G : Nat → Nat → Int} {T : Nat} {L : Nat → Int} (hac : ACY G T) {t : Nat} {x : Int} (ht : t < T) (hx : 0 ≤ x) : span G T (upZ L t (L t + x)) - span G T L = max 0 (x - (lst G T L t - es G T L t)) := by
  rw [span_up hac ht hx]; unfold lst; omega
theorem mvd_own {e f : Nat → Int} {t T : Nat} (h : e t = f t) : ∀ n, n ≤ T → mvdN e f T n = mvdN e f t n
  | 0, _ => rfl
  | n + 1, hn => by
    rw [mvdN, mvdN, mvd_own h n (by omega)]
    by_cases q : n = t
    · subst q; rw [if_neg (by omega), if_neg (by omega)]
    · by_cases q2 : e n < f n
      · rw [if_pos ⟨by omega, q2⟩, if_pos ⟨q, q2⟩]
      · rw [if_neg (fun k => q2 k.2), if_neg (fun k => q2 k.2)]
/-! the work by days -/
theorem dsum_add (f g : Nat → Int) : ∀ n, dsum (fun x => f x + g x) n = dsum f n + dsum g n
  | 0 => rfl
  | n + 1 => by rw [dsum, dsum, dsum, dsum_add f g n]; omega
theorem dsum_z : ∀ n, dsum (fun _ => 0) n = 0
  | 0 => rfl
  | n + 1 => by rw [dsum, dsum_z n]; rfl
theorem dsum_iv {s l v : Int} (hs : 0 ≤ s) (hl : 0 ≤ l) : ∀ n : Nat, dsum (fun x => if 0 ≤ s ∧ s ≤ (x : Int) ∧ (x : Int) < s + l then v else 0) n = (max 0 (min (n : Int) (s + l) - s)) * v
  | 0 => by rw [dsum, show max 0 (min ((0 : Nat) : Int) (s + l) - s) = 0 by omega, Int.zero_mul]
  | n + 1 => by
    rw [dsum, dsum_iv hs hl n]
    by_cases c : s ≤ (n : Int) ∧ (n : Int) < s + l
    · rw [if_pos ⟨hs, c⟩, show max 0 (min ((n + 1 : Nat) : Int) (s + l) - s) = max 0 (min (n : Int) (s + l) - s) + 1 by omega, Int.add_mul, Int.one_mul]
    · rw [if_neg (fun h => c h.2), show max 0 (min ((n + 1 : Nat) : Int) (s + l) - s) = max 0 (min (n : Int) (s + l) - s) by omega, Int.add_zero]
theorem slE_ge {L st : Nat → Int} {i : Nat} : ∀ {n}, i < n → 0 ≤ st i → st i + L i ≤ slE L st n
  | 0, h, _ => absurd h (Nat.not_lt_zero _)
  | n + 1, h, h0 => by
    rw [slE]
    by_cases q : i = n
    · subst q; rw [if_neg (by omega)]; omega
    · have ih := slE_ge (L := L) (n := n) (by omega) h0
      split <;> omega
theorem dsum_bsy {L N st : Nat → Int} {X : Nat} : ∀ n, (∀ i, i < n → 0 ≤ L i ∧ 0 ≤ st i ∧ st i + L i ≤ X) → dsum (fun x => bsy L N st (x : Int) n) X = sumW L N n
  | 0, _ => by
    rw [sumW, ← dsum_z X]; rfl
  | n + 1, h => by
    have e : (fun x : Nat => bsy L N st (x : Int) (n + 1)) = fun x : Nat => bsy L N st (x : Int) n + (if 0 ≤ st n ∧ st n ≤ (x : Int) ∧ (x : Int) < st n + L n then N n else 0) := rfl
    have a := h n (by omega)
    rw [e, dsum_add (fun x : Nat => bsy L N st (x : Int) n), dsum_bsy n (fun i hi => h i (by omega)), dsum_iv a.2.1 a.1, sumW, show max 0 (min ((X : Nat) : Int) (st n + L n) - st n) = L n by omega]
theorem dsum_sch {G : Nat → Nat → Int} {T : Nat} {L N late : Nat → Int} {C : Int} (hac : ACY G T) (hL : L30 T L) : dsum (fun x => bsy L N (SCH G T L N late C T) (x : Int) T) (slE L (SCH G T L N late C T) T).toNat = sumW L N T := by
  refine dsum_bsy T (fun i hi => ?_)
  have a := SCH_all (L := L) (N := N) (late := late) (cr := C) hac i hi
  have b := slE_ge (L := L) hi a
  have c := hL i hi
  omega
theorem bsy_cong {L N st st' : Nat → Int} {x : Int} : ∀ {n}, (∀ i, i < n → st i = st' i) → bsy L N st x n = bsy L N st' x n
  | 0, _ => rfl
  | n + 1, h => by rw [bsy, bsy, bsy_cong (fun i hi => h i (by omega)), h n (by omega)]
/-! ends of chains -/
def eG (b : Bool) (G : Nat → Nat → Int) : Nat → Nat → Int := if b = true then G else trG G
theorem eG_t {b : Bool} {G : Nat → Nat → Int} {i j : Nat} (h : b = true) : eG b G i j = G i j := by unfold eG; rw [if_pos h]
theorem eG_f {b : Bool} {G : Nat → Nat → Int} {i j : Nat} (h : b = false) : eG b G i j = G j i := by unfold eG; rw [if_neg (by rw [h]; exact Bool.noConfusion)]; rfl
theorem ie_0 {X : Nat → Nat → Int} {t k : Nat} {is : Bool} (h : is = decide (cntB X t k = 0)) (h2 : is = false) : false = decide (cntB X t (k + 1) = 0) := by
  rw [h2] at h
  have := of_decide_eq_false h.symm
  exact (decide_eq_false (by rw [cntB]; omega)).symm
theorem ie_1 {X : Nat → Nat → Int} {t k : Nat} {is : Bool} (h : is = decide (cntB X t k = 0)) (h2 : is = true) (hg : X k t = -1) : true = decide (cntB X t (k + 1) = 0) := by
  rw [h2] at h
  have := of_decide_eq_true h.symm
  exact (decide_eq_true (by rw [cntB, if_pos hg, this])).symm
theorem ie_2 {X : Nat → Nat → Int} {t k : Nat} (hg : ¬ X k t = -1) : false = decide (cntB X t (k + 1) = 0) := (decide_eq_false (by rw [cntB, if_neg hg]; omega)).symm
/-! chains that grow -/
def grN (q j : Nat) : Nat := (q + 19 - j) / 20
def GRW (G : Nat → Nat → Int) (T : Nat) (L e : Nat → Int) (cs : Nat → Int64) (q : Nat) (g : Nat → Int64) : Prop := ∀ j, j < T → g j = smL (fun i => tw G L e i j (cs i)) (grN q j)
theorem GRW_0 {G : Nat → Nat → Int} {T : Nat} {L e : Nat → Int} {cs g : Nat → Int64} (hT : T ≤ 20) {k : Nat} (hk : 20 ≤ k) (h : ∀ j, j < k → g j = 0) : GRW G T L e cs 0 g := fun j hj => by
  rw [h j (by omega), show grN 0 j = 0 by unfold grN; omega]; rfl
theorem GRW_s {G : Nat → Nat → Int} {T : Nat} {L e : Nat → Int} {cs g : Nat → Int64} {q : Nat} {x : Int64} (hT : T ≤ 20) (h : GRW G T L e cs q g) (hx : x = tw G L e (q / 20) (q % 20) (cs (q / 20))) : GRW G T L e cs (q + 1) (vp_updL g (q % 20) (g (q % 20) + x)) := fun j hj => by
  by_cases c : j = q % 20
  · have e1 : vp_updL g (q % 20) (g (q % 20) + x) j = g (q % 20) + x := by rw [c]; exact pk_uLs
    rw [e1, ← c, h j hj, hx, ← c, show grN (q + 1) j = grN q j + 1 by unfold grN; omega, smL, show grN q j = q / 20 by unfold grN; omega]
  · have e1 : vp_updL g (q % 20) (g (q % 20) + x) j = g j := pk_uLn c
    rw [e1, h j hj, show grN (q + 1) j = grN q j by unfold grN; omega]
theorem GRW_e {G : Nat → Nat → Int} {T : Nat} {L e : Nat → Int} {cs g : Nat → Int64} {q : Nat} (hT : T ≤ 20) (hGo : ∀ i j, i < 20 → j < 20 → G i j ≠ -1 → i < T ∧ j < T) (h : GRW G T L e cs q g) (hq : q = 400) : ∀ j, j < T → g j = smL (fun i => tw G L e i j (cs i)) T := fun j hj => by
  rw [h j hj, show grN q j = T + (20 - T) by unfold grN; omega, smL_split]
  have z : smL (fun k => tw G L e (T + k) j (cs (T + k))) (20 - T) = 0 := by
    rw [← smL_0 (20 - T)]
    refine smL_cong (fun k hk => ?_)
    unfold tw
    rw [if_pos]
    by_cases hg : G (T + k) j = -1
    · exact hg
    · have := hGo (T + k) j (by omega) (by omega) hg; omega
  rw [z, Int64.add_zero]
theorem tw_y {G : Nat → Nat → Int} {L e : Nat → Int} {i j : Nat} {x : Int64} (hg : ¬ G i j = -1) (h : e j = e i + L i + G i j) : x = tw G L e i j x := by unfold tw; rw [if_neg hg, if_pos h]
theorem tw_n1 {G : Nat → Nat → Int} {L e : Nat → Int} {i j : Nat} {x : Int64} (hg : G i j = -1) : (0 : Int64) = tw G L e i j x := by unfold tw; rw [if_pos hg]
theorem tw_n2 {G : Nat → Nat → Int} {L e : Nat → Int} {i j : Nat} {x : Int64} (h : ¬ e j = e i + L i + G i j) : (0 : Int64) = tw G L e i j x := by
  unfold tw
  by_cases q : G i j = -1
  · rw [if_pos q]
  · rw [if_neg q, if_neg h]
theorem fin_add {G : Nat → Nat → Int} {T : Nat} {L e : Nat → Int} {s : Int} {c : Nat} {x y : Int64} : fin G T L e s c (x + y) = fin G T L e s c x + fin G T L e s c y := by
  unfold fin
  split
  · rfl
  · rfl
theorem fin_sm {G : Nat → Nat → Int} {T : Nat} {L e : Nat → Int} {s : Int} {c : Nat} {f : Nat → Int64} : ∀ n, fin G T L e s c (smL f n) = smL (fun k => fin G T L e s c (f k)) n
  | 0 => by rw [smL, smL]; unfold fin; split <;> rfl
  | n + 1 => by rw [smL, smL, fin_add, fin_sm n]
theorem chains_rd {G : Nat → Nat → Int} {T : Nat} {L e : Nat → Int} {s : Int} : smL (fun k => smL (fun c => fin G T L e s c (chN G T L e k c)) T) T = chains G T L e s := by
  rw [smL_swap]
  unfold chains
  refine smL_cong (fun c hc => ?_)
  unfold cc
  exact (fin_sm T).symm
theorem src_t {G : Nat → Nat → Int} {T j : Nat} (h : decide (cntB (eG true G) j T = 0) = true) : (1 : Int64) = src G T j := by
  have : cntB G j T = 0 := of_decide_eq_true h
  unfold src; rw [if_pos this]
theorem src_f {G : Nat → Nat → Int} {T j : Nat} (h : decide (cntB (eG true G) j T = 0) = false) : (0 : Int64) = src G T j := by
  have : ¬ cntB G j T = 0 := of_decide_eq_false h
  unfold src; rw [if_neg this]
theorem fin_y {G : Nat → Nat → Int} {T : Nat} {L e : Nat → Int} {s : Int} {c : Nat} {x : Int64} (h : decide (cntB (eG false G) c T = 0) = true) (h2 : e c + L c = s) : x = fin G T L e s c x := by
  have : cntB (trG G) c T = 0 := of_decide_eq_true h
  unfold fin; rw [if_pos ⟨this, h2⟩]
theorem fin_n1 {G : Nat → Nat → Int} {T : Nat} {L e : Nat → Int} {s : Int} {c : Nat} {x : Int64} (h : decide (cntB (eG false G) c T = 0) = false) : (0 : Int64) = fin G T L e s c x := by
  have : ¬ cntB (trG G) c T = 0 := of_decide_eq_false h
  unfold fin; rw [if_neg (fun k => this k.1)]
theorem fin_n2 {G : Nat → Nat → Int} {T : Nat} {L e : Nat → Int} {s : Int} {c : Nat} {x : Int64} (h2 : ¬ e c + L c = s) : (0 : Int64) = fin G T L e s c x := by
  unfold fin; rw [if_neg (fun k => h2 k.2)]
/-- the least crews, or none -/
def kO : Option Nat → Nat
  | none => 1
  | some _ => 0
theorem kDly_z {T : Nat} {t p : Int32} (h : kDly T t p = 0) : hasB T t = true ∧ 0 ≤ p.toInt ∧ p.toInt ≤ 99 := by
  cases c : hasB T t with
  | false => rw [kDly_1 c] at h; cases h
  | true =>
    refine ⟨rfl, ?_⟩
    by_cases q : 0 ≤ p.toInt ∧ p.toInt ≤ 99
    · exact q
    · rw [kDly_2 c q] at h; cases h
theorem mul_rng2 {a c : Int} (ha : 0 ≤ a ∧ a ≤ 900) (hc : 1 ≤ c ∧ c ≤ 9) : 0 ≤ a * c ∧ a * c ≤ 8100 ∧ (a * c = 0 ↔ a = 0) := by
  have h1 : 0 ≤ a * c := Int.mul_nonneg ha.1 (by omega)
  have h2 : a * c ≤ 900 * 9 := Int.mul_le_mul ha.2 hc.2 (by omega) (by omega)
  refine ⟨h1, by omega, fun h => ?_, fun h => by rw [h, Int.zero_mul]⟩
  rcases Int.mul_eq_zero.mp h with h3 | h3
  · exact h3
  · omega
theorem kDly_le (T : Nat) (t p : Int32) : kDly T t p ≤ 2 := by unfold kDly; split; (omega); split <;> omega
