/-! the earliest starts: es, as the fixed point of 'the greatest of the ends of the tasks in front, plus the lags' -/
def LOK (T : Nat) (L : Nat → Int) : Prop := ∀ i, i < T → 0 ≤ L i ∧ L i ≤ 129
def maxE (G : Nat → Nat → Int) (L e : Nat → Int) (j : Nat) : Nat → Int
  | 0 => 0
  | n + 1 => if G n j = -1 then maxE G L e j n else max (maxE G L e j n) (e n + L n + G n j)
def ESn (G : Nat → Nat → Int) (T : Nat) (L : Nat → Int) : Nat → Nat → Int
  | 0, _ => 0
  | k + 1, j => maxE G L (ESn G T L k) j T
def es (G : Nat → Nat → Int) (T : Nat) (L : Nat → Int) : Nat → Int := ESn G T L T
theorem maxE_0 {G : Nat → Nat → Int} {L e : Nat → Int} {j : Nat} : ∀ n, 0 ≤ maxE G L e j n
  | 0 => Int.le_refl 0
  | n + 1 => by have := maxE_0 (G := G) (L := L) (e := e) (j := j) n; rw [maxE]; split <;> omega
theorem maxE_ge {G : Nat → Nat → Int} {L e : Nat → Int} {j i : Nat} : ∀ {n : Nat}, i < n → G i j ≠ -1 → e i + L i + G i j ≤ maxE G L e j n
  | 0, h, _ => absurd h (Nat.not_lt_zero _)
  | n + 1, h, hg => by
    rw [maxE]
    rcases Nat.lt_or_ge i n with q | q
    · have := maxE_ge (e := e) (L := L) q hg
      split <;> omega
    · have : i = n := by omega
      subst this
      rw [if_neg hg]; omega
theorem maxE_at {G : Nat → Nat → Int} {L e : Nat → Int} {j : Nat} : ∀ n, maxE G L e j n = 0 ∨ ∃ i, i < n ∧ G i j ≠ -1 ∧ maxE G L e j n = e i + L i + G i j
  | 0 => Or.inl rfl
  | n + 1 => by
    rw [maxE]
    have ih := maxE_at (G := G) (L := L) (e := e) (j := j) n
    split
    · rcases ih with h | ⟨i, h1, h2, h3⟩
      · exact Or.inl h
      · exact Or.inr ⟨i, by omega, h2, h3⟩
    · rename_i hg
      by_cases hm : maxE G L e j n ≤ e n + L n + G n j
      · exact Or.inr ⟨n, by omega, hg, by omega⟩
      · rcases ih with h | ⟨i, h1, h2, h3⟩
        · exact Or.inl (by omega)
        · exact Or.inr ⟨i, by omega, h2, by omega⟩
theorem maxE_cong {G : Nat → Nat → Int} {L e e' : Nat → Int} {j : Nat} : ∀ {n : Nat}, (∀ i, i < n → G i j ≠ -1 → e i = e' i) → maxE G L e j n = maxE G L e' j n
  | 0, _ => rfl
  | n + 1, h => by
    rw [maxE, maxE, maxE_cong (fun i hi hg => h i (by omega) hg)]
    split
    · rfl
    · rename_i hg; rw [h n (by omega) hg]
/-- the greatest is the one number that is not less than any, and one of them (or 0) -/
theorem maxE_eq {G : Nat → Nat → Int} {L e : Nat → Int} {j n : Nat} {x : Int} (h0 : 0 ≤ x) (h1 : ∀ i, i < n → G i j ≠ -1 → e i + L i + G i j ≤ x) (h2 : x = 0 ∨ ∃ i, i < n ∧ G i j ≠ -1 ∧ x = e i + L i + G i j) : maxE G L e j n = x := by
  have a := maxE_0 (G := G) (L := L) (e := e) (j := j) n
  have b := maxE_at (G := G) (L := L) (e := e) (j := j) n
  rcases b with b | ⟨i, b1, b2, b3⟩
  · rcases h2 with h2 | ⟨i, c1, c2, c3⟩
    · omega
    · have := maxE_ge (L := L) (e := e) c1 c2; omega
  · have d := h1 i b1 b2
    rcases h2 with h2 | ⟨k, c1, c2, c3⟩
    · omega
    · have := maxE_ge (L := L) (e := e) c1 c2; omega
theorem ESn_0 {G : Nat → Nat → Int} {T : Nat} {L : Nat → Int} : ∀ k j, 0 ≤ ESn G T L k j
  | 0, _ => Int.le_refl 0
  | k + 1, j => maxE_0 T
theorem ESn_le {G : Nat → Nat → Int} {T : Nat} {L : Nat → Int} (hT : T ≤ 20) (hG : GOK G) (hL : LOK T L) : ∀ k j, j < T → ESn G T L k j ≤ 200 * k
  | 0, j, _ => by simp [ESn]
  | k + 1, j, hj => by
    rw [ESn]
    rcases maxE_at (G := G) (L := L) (e := ESn G T L k) (j := j) T with h | ⟨i, h1, h2, h3⟩
    · omega
    · have a := ESn_le hT hG hL k i h1
      have b := hG i j (by omega) (by omega)
      have c := hL i h1
      omega
/-- a rank below T -/
def rkN (rk : Nat → Nat) (j : Nat) : Nat → Nat
  | 0 => 0
  | n + 1 => rkN rk j n + if rk n < rk j then 1 else 0
theorem rkN_le (rk : Nat → Nat) (j : Nat) : ∀ n, rkN rk j n ≤ n
  | 0 => Nat.le_refl 0
  | n + 1 => by have := rkN_le rk j n; rw [rkN]; split <;> omega
theorem rkN_mono {rk : Nat → Nat} {i j : Nat} (h : rk i < rk j) : ∀ n, rkN rk i n ≤ rkN rk j n
  | 0 => Nat.le_refl 0
  | n + 1 => by have := rkN_mono h n; rw [rkN, rkN]; split <;> split <;> omega
theorem rkN_lt {rk : Nat → Nat} {i j : Nat} (h : rk i < rk j) : ∀ {n}, i < n → rkN rk i n < rkN rk j n
  | 0, hi => absurd hi (Nat.not_lt_zero _)
  | n + 1, hi => by
    rw [rkN, rkN]
    rcases Nat.lt_or_ge i n with q | q
    · have := rkN_lt h q; split <;> split <;> omega
    · have : i = n := by omega
      subst this
      have := rkN_mono h i
      rw [if_neg (Nat.lt_irrefl _), if_pos h]; omega
theorem rkN_self {rk : Nat → Nat} {j : Nat} : ∀ {n}, j < n → rkN rk j n < n
  | 0, hi => absurd hi (Nat.not_lt_zero _)
  | n + 1, hi => by
    rw [rkN]
    rcases Nat.lt_or_ge j n with q | q
    · have := rkN_self (rk := rk) q; split <;> omega
    · have : j = n := by omega
      subst this
      have := rkN_le rk j j
      rw [if_neg (Nat.lt_irrefl _)]; omega
theorem ACY_norm {G : Nat → Nat → Int} {T : Nat} (h : ACY G T) : ∃ rk : Nat → Nat, (∀ j, j < T → rk j < T) ∧ ∀ i j, i < T → j < T → G i j ≠ -1 → rk i < rk j := by
  obtain ⟨rk, h⟩ := h
  exact ⟨fun j => rkN rk j T, fun j hj => rkN_self hj, fun i j hi hj hg => rkN_lt (h i j hi hj hg) hi⟩
theorem ESn_st {G : Nat → Nat → Int} {T : Nat} {L : Nat → Int} {rk : Nat → Nat} (h : ∀ i j, i < T → j < T → G i j ≠ -1 → rk i < rk j) : ∀ r j k, j < T → rk j ≤ r → rk j < k → ESn G T L k j = ESn G T L (rk j + 1) j := by
  intro r
  induction r with
  | zero =>
    intro j k hj hr hk
    cases k with
    | zero => omega
    | succ k =>
      rw [ESn, ESn]
      exact maxE_cong (fun i hi hg => by have := h i j hi hj hg; omega)
  | succ r ih =>
    intro j k hj hr hk
    cases k with
    | zero => omega
    | succ k =>
      rw [ESn, ESn]
      refine maxE_cong (fun i hi hg => ?_)
      have hlt := h i j hi hj hg
      rw [ih i k hi (by omega) (by omega), ih i (rk j) hi (by omega) (by omega)]
theorem es_fix {G : Nat → Nat → Int} {T : Nat} {L : Nat → Int} (hac : ACY G T) {j : Nat} (hj : j < T) : es G T L j = maxE G L (es G T L) j T := by
  obtain ⟨rk, h1, h2⟩ := ACY_norm hac
  have a := ESn_st (L := L) h2 T j T hj (by have := h1 j hj; omega) (h1 j hj)
  have b := ESn_st (L := L) h2 T j (T + 1) hj (by have := h1 j hj; omega) (by have := h1 j hj; omega)
  show ESn G T L T j = maxE G L (ESn G T L T) j T
  rw [a, ← b, ESn]
theorem es_0 {G : Nat → Nat → Int} {T : Nat} {L : Nat → Int} (j : Nat) : 0 ≤ es G T L j := ESn_0 T j
theorem es_le {G : Nat → Nat → Int} {T : Nat} {L : Nat → Int} (hT : T ≤ 20) (hG : GOK G) (hL : LOK T L) {j : Nat} (hj : j < T) : es G T L j ≤ 4000 := by
  have := ESn_le hT hG hL T j hj
  unfold es; omega
/-- it is the only fixed point -/
theorem es_uniq {G : Nat → Nat → Int} {T : Nat} {L e : Nat → Int} (hac : ACY G T) (he : ∀ j, j < T → e j = maxE G L e j T) : ∀ j, j < T → e j = es G T L j := by
  obtain ⟨rk, h2⟩ := id hac
  have key : ∀ r j, j < T → rk j ≤ r → e j = es G T L j := by
    intro r
    induction r with
    | zero =>
      intro j hj hr
      rw [he j hj, es_fix hac hj]
      exact maxE_cong (fun i hi hg => by have := h2 i j hi hj hg; omega)
    | succ r ih =>
      intro j hj hr
      rw [he j hj, es_fix hac hj]
      exact maxE_cong (fun i hi hg => ih i hi (by have := h2 i j hi hj hg; omega))
  exact fun j hj => key (rk j) j hj (Nat.le_refl _)
/-- the greatest end -/
def spE (L e : Nat → Int) : Nat → Int
  | 0 => 0
  | n + 1 => max (spE L e n) (e n + L n)
def span (G : Nat → Nat → Int) (T : Nat) (L : Nat → Int) : Int := spE L (es G T L) T
theorem spE_0 {L e : Nat → Int} : ∀ n, 0 ≤ spE L e n
  | 0 => Int.le_refl 0
  | n + 1 => by have := spE_0 (L := L) (e := e) n; rw [spE]; omega
theorem spE_ge {L e : Nat → Int} {i : Nat} : ∀ {n}, i < n → e i + L i ≤ spE L e n
  | 0, h => absurd h (Nat.not_lt_zero _)
  | n + 1, h => by
    rw [spE]
    rcases Nat.lt_or_ge i n with q | q
    · have := spE_ge (L := L) (e := e) q; omega
    · have : i = n := by omega
      subst this; omega
theorem spE_at {L e : Nat → Int} : ∀ n, spE L e n = 0 ∨ ∃ i, i < n ∧ spE L e n = e i + L i
  | 0 => Or.inl rfl
  | n + 1 => by
    rw [spE]
    by_cases hm : spE L e n ≤ e n + L n
    · exact Or.inr ⟨n, by omega, by omega⟩
    · rcases spE_at (L := L) (e := e) n with h | ⟨i, h1, h2⟩
      · exact Or.inl (by omega)
      · exact Or.inr ⟨i, by omega, by omega⟩
theorem spE_cong {L L' e e' : Nat → Int} : ∀ {n}, (∀ i, i < n → e i + L i = e' i + L' i) → spE L e n = spE L' e' n
  | 0, _ => rfl
  | n + 1, h => by rw [spE, spE, spE_cong (fun i hi => h i (by omega)), h n (by omega)]
theorem span_0 {G : Nat → Nat → Int} {T : Nat} {L : Nat → Int} : 0 ≤ span G T L := spE_0 T
theorem span_le {G : Nat → Nat → Int} {T : Nat} {L : Nat → Int} (hT : T ≤ 20) (hG : GOK G) (hL : LOK T L) : span G T L ≤ 4200 := by
  unfold span
  rcases spE_at (L := L) (e := es G T L) T with h | ⟨i, h1, h2⟩
  · omega
  · have a := es_le hT hG hL h1
    have b := hL i h1
    omega
/-! what findEarliest has done when pl tasks of the order are through -/
def pmax (G : Nat → Nat → Int) (L e : Nat → Int) (od : Nat → Nat) (j : Nat) : Nat → Int
  | 0 => 0
  | n + 1 => if G (od n) j = -1 then pmax G L e od j n else max (pmax G L e od j n) (e (od n) + L (od n) + G (od n) j)
theorem pmax_0 {G : Nat → Nat → Int} {L e : Nat → Int} {od : Nat → Nat} {j : Nat} : ∀ n, 0 ≤ pmax G L e od j n
  | 0 => Int.le_refl 0
  | n + 1 => by have := pmax_0 (G := G) (L := L) (e := e) (od := od) (j := j) n; rw [pmax]; split <;> omega
theorem pmax_ge {G : Nat → Nat → Int} {L e : Nat → Int} {od : Nat → Nat} {j q : Nat} : ∀ {n : Nat}, q < n → G (od q) j ≠ -1 → e (od q) + L (od q) + G (od q) j ≤ pmax G L e od j n
  | 0, h, _ => absurd h (Nat.not_lt_zero _)
  | n + 1, h, hg => by
    rw [pmax]
    rcases Nat.lt_or_ge q n with r | r
    · have := pmax_ge (e := e) (L := L) r hg
      split <;> omega
    · have : q = n := by omega
      subst this
      rw [if_neg hg]; omega
theorem pmax_at {G : Nat → Nat → Int} {L e : Nat → Int} {od : Nat → Nat} {j : Nat} : ∀ n, pmax G L e od j n = 0 ∨ ∃ q, q < n ∧ G (od q) j ≠ -1 ∧ pmax G L e od j n = e (od q) + L (od q) + G (od q) j
  | 0 => Or.inl rfl
  | n + 1 => by
    rw [pmax]
    have ih := pmax_at (G := G) (L := L) (e := e) (od := od) (j := j) n
    split
    · rcases ih with h | ⟨i, h1, h2, h3⟩
      · exact Or.inl h
      · exact Or.inr ⟨i, by omega, h2, h3⟩
    · rename_i hg
      by_cases hm : pmax G L e od j n ≤ e (od n) + L (od n) + G (od n) j
      · exact Or.inr ⟨n, by omega, hg, by omega⟩
      · rcases ih with h | ⟨i, h1, h2, h3⟩
        · exact Or.inl (by omega)
        · exact Or.inr ⟨i, by omega, h2, by omega⟩
/-- a task all of whose tasks in front are through has its earliest start -/
theorem pmax_es {G : Nat → Nat → Int} {T : Nat} {L : Nat → Int} {od : Nat → Nat} (hac : ACY G T) (htp : TOPO G T od) {pl j : Nat} (hpl : pl ≤ T) (hj : j < T) (hall : ∀ i, i < T → G i j ≠ -1 → ∃ q, q < pl ∧ od q = i) : pmax G L (es G T L) od j pl = es G T L j := by
  rw [es_fix hac hj]
  refine (maxE_eq (pmax_0 pl) (fun i hi hg => ?_) ?_).symm
  · obtain ⟨q, h1, h2⟩ := hall i hi hg
    subst h2
    exact pmax_ge h1 hg
  · rcases pmax_at (G := G) (L := L) (e := es G T L) (od := od) (j := j) pl with h | ⟨q, h1, h2, h3⟩
    · exact Or.inl h
    · exact Or.inr ⟨od q, htp.1 q (by omega), h2, h3⟩
theorem pmax_od {G : Nat → Nat → Int} {T : Nat} {L : Nat → Int} {od : Nat → Nat} (hac : ACY G T) (htp : TOPO G T od) {pl : Nat} (hpl : pl < T) : pmax G L (es G T L) od (od pl) pl = es G T L (od pl) :=
  pmax_es hac htp (by omega) (htp.1 pl hpl) (fun i hi hg => htp.2.2 pl hpl i hi hg)
/-- each task is in the order -/
theorem TOPO_onto {G : Nat → Nat → Int} {T : Nat} {od : Nat → Nat} (h : TOPO G T od) {i : Nat} (hi : i < T) : ∃ q, q < T ∧ od q = i := by
  classical
  by_cases hx : ∃ q, q < T ∧ od q = i
  · exact hx
  · exfalso
    have := fb_holes T (T + 1) (upN od T i) (fun k hk => by
      by_cases q : k = T
      · subst q; rw [upN_s]; exact hi
      · rw [upN_n q]; exact h.1 k (by omega)) (fun k j hkj hj => by
      by_cases q : j = T
      · subst q; rw [upN_s, upN_n (by omega)]; intro he; exact hx ⟨k, by omega, he⟩
      · rw [upN_n q, upN_n (by omega)]
        intro he
        have := h.2.1 k j (by omega) (by omega) he
        omega)
    omega
theorem pmax_T {G : Nat → Nat → Int} {T : Nat} {L : Nat → Int} {od : Nat → Nat} (hac : ACY G T) (htp : TOPO G T od) {j : Nat} (hj : j < T) : pmax G L (es G T L) od j T = es G T L j :=
  pmax_es hac htp (Nat.le_refl T) hj (fun _ hi _ => TOPO_onto htp hi)
theorem pmax_le {G : Nat → Nat → Int} {T : Nat} {L : Nat → Int} {od : Nat → Nat} (hT : T ≤ 20) (hG : GOK G) (hL : LOK T L) (htp : TOPO G T od) {j n : Nat} (hj : j < T) (hn : n ≤ T) : pmax G L (es G T L) od j n ≤ 4200 := by
  rcases pmax_at (G := G) (L := L) (e := es G T L) (od := od) (j := j) n with h | ⟨q, h1, h2, h3⟩
  · omega
  · have a := htp.1 q (by omega)
    have b := es_le hT hG hL a
    have c := hL _ a
    have d := hG (od q) j (by omega) (by omega)
    omega
def spP (L e : Nat → Int) (od : Nat → Nat) : Nat → Int
  | 0 => 0
  | n + 1 => max (spP L e od n) (e (od n) + L (od n))
theorem spP_eq {L e : Nat → Int} {od : Nat → Nat} : ∀ n, spP L e od n = spE (fun q => L (od q)) (fun q => e (od q)) n
  | 0 => rfl
  | n + 1 => by rw [spP, spE, spP_eq n]
theorem spP_T {G : Nat → Nat → Int} {T : Nat} {L e : Nat → Int} {od : Nat → Nat} (htp : TOPO G T od) : spP L e od T = spE L e T := by
  rw [spP_eq]
  have a1 := spE_0 (L := fun q => L (od q)) (e := fun q => e (od q)) T
  have a2 := spE_0 (L := L) (e := e) T
  have hle : spE (fun q => L (od q)) (fun q => e (od q)) T ≤ spE L e T := by
    rcases spE_at (L := fun q => L (od q)) (e := fun q => e (od q)) T with h | ⟨i, h1, h2⟩
    · omega
    · have := spE_ge (L := L) (e := e) (htp.1 i h1); omega
  have hge : spE L e T ≤ spE (fun q => L (od q)) (fun q => e (od q)) T := by
    rcases spE_at (L := L) (e := e) T with h | ⟨i, h1, h2⟩
    · omega
    · obtain ⟨q, h3, h4⟩ := TOPO_onto htp h1
      have := spE_ge (L := fun q => L (od q)) (e := fun q => e (od q)) h3
      rw [h2]
      simp only [h4] at this
      exact this
  omega
theorem spP_le {G : Nat → Nat → Int} {T : Nat} {L : Nat → Int} {od : Nat → Nat} (hT : T ≤ 20) (hG : GOK G) (hL : LOK T L) (htp : TOPO G T od) : ∀ {n}, n ≤ T → 0 ≤ spP L (es G T L) od n ∧ spP L (es G T L) od n ≤ 4200
  | 0, _ => ⟨Int.le_refl 0, by simp [spP]⟩
  | n + 1, hn => by
    have ih := spP_le hT hG hL htp (n := n) (by omega)
    have a := htp.1 n (by omega)
    have b := es_le hT hG hL a
    have c := hL _ a
    have d := es_0 (G := G) (T := T) (L := L) (od n)
    rw [spP]; omega
/-! the other way round -/
def trG (G : Nat → Nat → Int) : Nat → Nat → Int := fun i j => G j i
theorem trG_ok {G : Nat → Nat → Int} (h : GOK G) : GOK (trG G) := fun i j hi hj => h j i hj hi
theorem ACY_tr {G : Nat → Nat → Int} {T : Nat} (h : ACY G T) : ACY (trG G) T := by
  obtain ⟨rk, h1, h2⟩ := ACY_norm h
  exact ⟨fun j => T - rk j, fun i j hi hj hg => by have a := h2 j i hj hi hg; have b := h1 i hi; have c := h1 j hj; show T - rk i < T - rk j; omega⟩
/-- the latest start -/
def lst (G : Nat → Nat → Int) (T : Nat) (L : Nat → Int) (i : Nat) : Int := span G T L - L i - es (trG G) T L i
theorem lst_rng {G : Nat → Nat → Int} {T : Nat} {L : Nat → Int} (hT : T ≤ 20) (hG : GOK G) (hL : LOK T L) {i : Nat} (hi : i < T) : -5000 ≤ lst G T L i ∧ lst G T L i ≤ 5000 := by
  have a := span_le hT hG hL
  have b := span_0 (G := G) (T := T) (L := L)
  have c := es_le hT (trG_ok hG) hL hi
  have d := es_0 (G := trG G) (T := T) (L := L) i
  have f := hL i hi
  unfold lst; omega
