/-! the text: sg its signs, tl how many, p the place -/
def rdC (sg : Nat → Int) (tl p z lo hi : Nat) : Bool := decide (p < tl ∧ (lo : Int) ≤ sg p - (z : Int) ∧ sg p - (z : Int) ≤ (hi : Int))
def rdV (sg : Nat → Int) (tl p z lo hi : Nat) : Int := if rdC sg tl p z lo hi = true then sg p - (z : Int) else -1
def rdP (sg : Nat → Int) (tl p z lo hi : Nat) : Nat := if rdC sg tl p z lo hi = true then p + 1 else p
theorem rd_f {sg : Nat → Int} {tl p z lo hi : Nat} (h : ¬ (p < tl ∧ (lo : Int) ≤ sg p - (z : Int) ∧ sg p - (z : Int) ≤ (hi : Int))) : iZ (-1) = iZ (rdV sg tl p z lo hi) ∧ p = rdP sg tl p z lo hi := by
  have : rdC sg tl p z lo hi = false := decide_eq_false h
  unfold rdV rdP; rw [this]; exact ⟨rfl, rfl⟩
theorem rd_t {sg : Nat → Int} {tl p z lo hi : Nat} (h : p < tl ∧ (lo : Int) ≤ sg p - (z : Int) ∧ sg p - (z : Int) ≤ (hi : Int)) : iZ (sg p - (z : Int)) = iZ (rdV sg tl p z lo hi) ∧ p + 1 = rdP sg tl p z lo hi := by
  have : rdC sg tl p z lo hi = true := decide_eq_true h
  unfold rdV rdP; rw [this]; exact ⟨rfl, rfl⟩
theorem rdP_t {sg : Nat → Int} {tl p z lo hi : Nat} (h : rdC sg tl p z lo hi = true) : rdP sg tl p z lo hi = p + 1 := if_pos h
theorem rdP_f {sg : Nat → Int} {tl p z lo hi : Nat} (h : rdC sg tl p z lo hi = false) : rdP sg tl p z lo hi = p := if_neg (by rw [h]; exact Bool.noConfusion)
theorem rdV_f {sg : Nat → Int} {tl p z lo hi : Nat} (h : rdC sg tl p z lo hi = false) : rdV sg tl p z lo hi = -1 := if_neg (by rw [h]; exact Bool.noConfusion)
theorem rdV_rng (sg : Nat → Int) (tl p z lo hi : Nat) : rdV sg tl p z lo hi = -1 ∨ ((lo : Int) ≤ rdV sg tl p z lo hi ∧ rdV sg tl p z lo hi ≤ hi ∧ rdC sg tl p z lo hi = true) := by
  unfold rdV
  by_cases h : rdC sg tl p z lo hi = true
  · rw [if_pos h]; have := (decide_eq_true_iff).mp h; exact Or.inr ⟨this.2.1, this.2.2, h⟩
  · rw [if_neg h]; exact Or.inl rfl
theorem rdP_le (sg : Nat → Int) (tl p z lo hi : Nat) : p ≤ rdP sg tl p z lo hi ∧ rdP sg tl p z lo hi ≤ p + 1 ∧ (p ≤ tl → rdP sg tl p z lo hi ≤ tl) := by
  unfold rdP
  by_cases h : rdC sg tl p z lo hi = true
  · rw [if_pos h]; have := (decide_eq_true_iff).mp h; omega
  · rw [if_neg h]; omega
theorem rd0 {sg : Nat → Int} {tl p z : Nat} : rdV sg tl p z 0 0 = 0 ↔ rdC sg tl p z 0 0 = true := by
  rcases rdV_rng sg tl p z 0 0 with h | ⟨h1, h2, h3⟩
  · constructor
    · intro h0; omega
    · intro h0; unfold rdV at h; rw [if_pos h0] at h; have := (decide_eq_true_iff).mp h0; omega
  · exact ⟨fun _ => h3, fun _ => by omega⟩
theorem rd0_t {sg : Nat → Int} {tl p z : Nat} (h : rdV sg tl p z 0 0 = 0) : nI 1 = bI (rdC sg tl p z 0 0) := by rw [rd0.mp h]; rfl
theorem rd0_f {sg : Nat → Int} {tl p z : Nat} (h : ¬ rdV sg tl p z 0 0 = 0) : nI 0 = bI (rdC sg tl p z 0 0) := by
  cases hc : rdC sg tl p z 0 0
  · rfl
  · exact absurd (rd0.mpr hc) h
theorem c16 {k : Nat} (h : k < 65536) : ((nI k).toUInt32 % 65536).toInt32 = nI k := by
  rw [pk_char]
  have : (nI k).toBitVec.toNat = k := by
    show (BitVec.ofNat 32 k).toNat = k
    rw [BitVec.toNat_ofNat]; omega
  rw [this, Nat.mod_eq_of_lt h]
/-- a length -/
def lnV (sg : Nat → Int) (tl p : Nat) : Int :=
  if rdV sg tl p 48 0 9 < 1 ∨ 3 < rdV sg tl p 48 0 9 then rdV sg tl p 48 0 9
  else if rdV sg tl (rdP sg tl p 48 0 9) 48 0 (if rdV sg tl p 48 0 9 = 3 then 0 else 9) = -1 then rdV sg tl p 48 0 9
  else rdV sg tl p 48 0 9 * 10 + rdV sg tl (rdP sg tl p 48 0 9) 48 0 (if rdV sg tl p 48 0 9 = 3 then 0 else 9)
def lnP (sg : Nat → Int) (tl p : Nat) : Nat :=
  if rdV sg tl p 48 0 9 < 1 ∨ 3 < rdV sg tl p 48 0 9 then rdP sg tl p 48 0 9
  else rdP sg tl (rdP sg tl p 48 0 9) 48 0 (if rdV sg tl p 48 0 9 = 3 then 0 else 9)
theorem lnV_rng (sg : Nat → Int) (tl p : Nat) : -1 ≤ lnV sg tl p ∧ lnV sg tl p ≤ 30 := by
  unfold lnV
  have h1 := rdV_rng sg tl p 48 0 9
  by_cases q0 : rdV sg tl p 48 0 9 < 1 ∨ 3 < rdV sg tl p 48 0 9
  · rw [if_pos q0]; omega
  · rw [if_neg q0]
    obtain ⟨hi, hh, h9, h3⟩ : ∃ hi : Nat, (if rdV sg tl p 48 0 9 = 3 then 0 else 9) = hi ∧ hi ≤ 9 ∧ (rdV sg tl p 48 0 9 = 3 → hi = 0) := ⟨_, rfl, by split <;> omega, fun h => if_pos h⟩
    rw [hh]
    have h2 := rdV_rng sg tl (rdP sg tl p 48 0 9) 48 0 hi
    by_cases q : rdV sg tl (rdP sg tl p 48 0 9) 48 0 hi = -1
    · rw [if_pos q]; omega
    · rw [if_neg q]
      by_cases q3 : rdV sg tl p 48 0 9 = 3
      · have := h3 q3; omega
      · omega
theorem ln_a {sg : Nat → Int} {tl p p1 : Nat} (h : rdV sg tl p 48 0 9 < 1 ∨ 3 < rdV sg tl p 48 0 9) (hp : p1 = rdP sg tl p 48 0 9) : iZ (rdV sg tl p 48 0 9) = iZ (lnV sg tl p) ∧ p1 = lnP sg tl p := by
  unfold lnV lnP; rw [if_pos h, if_pos h]; exact ⟨rfl, hp⟩
theorem ln_b {sg : Nat → Int} {tl p p1 p2 hi : Nat} (h : ¬ (rdV sg tl p 48 0 9 < 1 ∨ 3 < rdV sg tl p 48 0 9)) (hp : p1 = rdP sg tl p 48 0 9) (hh : hi = if rdV sg tl p 48 0 9 = 3 then 0 else 9) (hp2 : p2 = rdP sg tl p1 48 0 hi) (hw : rdV sg tl p1 48 0 hi = -1) : iZ (rdV sg tl p 48 0 9) = iZ (lnV sg tl p) ∧ p2 = lnP sg tl p := by
  subst hp; subst hh
  unfold lnV lnP; rw [if_neg h, if_neg h, if_pos hw]; exact ⟨rfl, hp2⟩
theorem ln_c {sg : Nat → Int} {tl p p1 p2 hi : Nat} (h : ¬ (rdV sg tl p 48 0 9 < 1 ∨ 3 < rdV sg tl p 48 0 9)) (hp : p1 = rdP sg tl p 48 0 9) (hh : hi = if rdV sg tl p 48 0 9 = 3 then 0 else 9) (hp2 : p2 = rdP sg tl p1 48 0 hi) (hw : ¬ rdV sg tl p1 48 0 hi = -1) : iZ (rdV sg tl p 48 0 9 * 10 + rdV sg tl p1 48 0 hi) = iZ (lnV sg tl p) ∧ p2 = lnP sg tl p := by
  subst hp; subst hh
  unfold lnV lnP; rw [if_neg h, if_neg h, if_neg hw]; exact ⟨rfl, hp2⟩
/-- how many dependencies there are -/
def lnkN (G : Nat → Nat → Int) : Nat → Int
  | 0 => 0
  | n + 1 => lnkN G n + isD G (n / 20) (n % 20)
def lnk (G : Nat → Nat → Int) : Int := lnkN G 400
theorem lnkN_up {G : Nat → Nat → Int} {i j : Nat} {x : Int} (hj : j < 20) : ∀ n, lnkN (upG G i j x) n = lnkN G n + if i * 20 + j < n then (if x = -1 then 0 else 1) - isD G i j else 0
  | 0 => by rw [if_neg (by omega)]; rfl
  | n + 1 => by
    rw [lnkN, lnkN, lnkN_up hj n]
    by_cases q : i * 20 + j = n
    · have e1 : n / 20 = i := by omega
      have e2 : n % 20 = j := by omega
      rw [e1, e2]
      have e4 : upG G i j x i j = x := if_pos ⟨rfl, rfl⟩
      have e3 : isD (upG G i j x) i j = if x = -1 then 0 else 1 := by unfold isD; rw [e4]
      rw [e3, if_neg (show ¬ i * 20 + j < n by omega), if_pos (show i * 20 + j < n + 1 by omega)]; omega
    · have e4 : upG G i j x (n / 20) (n % 20) = G (n / 20) (n % 20) := if_neg (show ¬ (n / 20 = i ∧ n % 20 = j) by omega)
      have e3 : isD (upG G i j x) (n / 20) (n % 20) = isD G (n / 20) (n % 20) := by unfold isD; rw [e4]
      rw [e3]
      by_cases q2 : i * 20 + j < n
      · rw [if_pos q2, if_pos (show i * 20 + j < n + 1 by omega)]; omega
      · rw [if_neg q2, if_neg (show ¬ i * 20 + j < n + 1 by omega)]; omega
theorem lnk_up {G : Nat → Nat → Int} {i j : Nat} {x : Int} (hi : i < 20) (hj : j < 20) : lnk (upG G i j x) = lnk G + ((if x = -1 then 0 else 1) - isD G i j) := by
  unfold lnk; rw [lnkN_up hj, if_pos (show i * 20 + j < 400 by omega)]
theorem lnk_put {G : Nat → Nat → Int} {i j : Nat} {x E E1 : Int} (hi : i < 20) (hj : j < 20) (hx : x ≠ -1) (hE : E = lnk G) (h : E1 = E + (1 - isD G i j)) : E1 = lnk (upG G i j x) := by
  rw [lnk_up hi hj, if_neg hx, h, hE]
theorem lnk_cut {G : Nat → Nat → Int} {i j : Nat} {E E1 : Int} (hi : i < 20) (hj : j < 20) (hE : E = lnk G) (h : E1 = E - isD G i j) : E1 = lnk (upG G i j (-1)) := by
  rw [lnk_up hi hj, if_pos rfl, h, hE]; omega
theorem lnk_0 : lnk noG = 0 := by
  have : ∀ n, lnkN noG n = 0 := by
    intro n
    induction n with
    | zero => rfl
    | succ n ih => rw [lnkN, ih]; rfl
  exact this 400
theorem upG_ok2 {G : Nat → Nat → Int} (h : GOK G) {i j : Nat} {x : Int} (hx : -1 ≤ x ∧ x ≤ 9) : GOK (upG G i j x) := by
  intro a b ha hb
  unfold upG
  split
  · exact hx
  · exact h a b ha hb
/-- the predecessors of task t: l is the least that may come; the fuel is t -/
def pdN (sg : Nat → Int) (tl t : Nat) : Nat → Nat → Nat → (Nat → Nat → Int) → Bool × Nat × (Nat → Nat → Int)
  | 0, _, p, G => (false, p, G)
  | f + 1, l, p, G =>
    if rdV sg tl p 97 l (t - 1) = -1 then (false, rdP sg tl p 97 l (t - 1), G)
    else if (rdV sg tl p 97 l (t - 1)).toNat + 1 = t ∨ rdC sg tl (rdP sg tl (rdP sg tl p 97 l (t - 1)) 48 0 9) 43 0 0 = false then (true, rdP sg tl (rdP sg tl p 97 l (t - 1)) 48 0 9, upG G (rdV sg tl p 97 l (t - 1)).toNat t (max 0 (rdV sg tl (rdP sg tl p 97 l (t - 1)) 48 0 9)))
    else pdN sg tl t f ((rdV sg tl p 97 l (t - 1)).toNat + 1) (rdP sg tl (rdP sg tl p 97 l (t - 1)) 48 0 9 + 1) (upG G (rdV sg tl p 97 l (t - 1)).toNat t (max 0 (rdV sg tl (rdP sg tl p 97 l (t - 1)) 48 0 9)))
theorem pd_a {sg : Nat → Int} {tl t f l p : Nat} {G : Nat → Nat → Int} (h : rdV sg tl p 97 l (t - 1) = -1) : pdN sg tl t (f + 1) l p G = (false, rdP sg tl p 97 l (t - 1), G) := by rw [pdN, if_pos h]
theorem pd_b {sg : Nat → Int} {tl t f l p p1 p2 : Nat} {G : Nat → Nat → Int} (h : ¬ rdV sg tl p 97 l (t - 1) = -1) (h1 : p1 = rdP sg tl p 97 l (t - 1)) (h2 : p2 = rdP sg tl p1 48 0 9) (h3 : (rdV sg tl p 97 l (t - 1)).toNat + 1 = t ∨ rdC sg tl p2 43 0 0 = false) : pdN sg tl t (f + 1) l p G = (true, p2, upG G (rdV sg tl p 97 l (t - 1)).toNat t (max 0 (rdV sg tl p1 48 0 9))) := by
  subst h1; subst h2
  rw [pdN, if_neg h, if_pos h3]
theorem pd_c {sg : Nat → Int} {tl t f l p p1 p2 : Nat} {G : Nat → Nat → Int} (h : ¬ rdV sg tl p 97 l (t - 1) = -1) (h1 : p1 = rdP sg tl p 97 l (t - 1)) (h2 : p2 = rdP sg tl p1 48 0 9) (h3 : ¬ (rdV sg tl p 97 l (t - 1)).toNat + 1 = t) (h4 : rdC sg tl p2 43 0 0 = true) : pdN sg tl t (f + 1) l p G = pdN sg tl t f ((rdV sg tl p 97 l (t - 1)).toNat + 1) (p2 + 1) (upG G (rdV sg tl p 97 l (t - 1)).toNat t (max 0 (rdV sg tl p1 48 0 9))) := by
  subst h1; subst h2
  rw [pdN, if_neg h, if_neg]
  rintro (q | q)
  · exact h3 q
  · rw [h4] at q; cases q
/-- one task: ok, the place behind, its length, its need, the lags -/
def ndV (sg : Nat → Int) (tl p : Nat) : Int := if rdC sg tl p 42 0 0 = true then rdV sg tl (p + 1) 48 0 5 else 1
def ndP (sg : Nat → Int) (tl p : Nat) : Nat := if rdC sg tl p 42 0 0 = true then rdP sg tl (p + 1) 48 0 5 else p
def tkN (sg : Nat → Int) (tl t p : Nat) (G : Nat → Nat → Int) : Bool × Nat × Int × Int × (Nat → Nat → Int) :=
  if rdC sg tl p (97 + t) 0 0 = false then (false, p, 0, 0, G)
  else if lnV sg tl (p + 1) = -1 then (false, lnP sg tl (p + 1), 0, 0, G)
  else if ndV sg tl (lnP sg tl (p + 1)) = -1 then (false, ndP sg tl (lnP sg tl (p + 1)), 0, 0, G)
  else if t = 0 ∨ rdC sg tl (ndP sg tl (lnP sg tl (p + 1))) 60 0 0 = false then (true, ndP sg tl (lnP sg tl (p + 1)), lnV sg tl (p + 1), ndV sg tl (lnP sg tl (p + 1)), G)
  else ((pdN sg tl t t 0 (ndP sg tl (lnP sg tl (p + 1)) + 1) G).1, (pdN sg tl t t 0 (ndP sg tl (lnP sg tl (p + 1)) + 1) G).2.1, lnV sg tl (p + 1), ndV sg tl (lnP sg tl (p + 1)), (pdN sg tl t t 0 (ndP sg tl (lnP sg tl (p + 1)) + 1) G).2.2)
theorem bne {b : Bool} (h : b = true) : ¬ b = false := by rw [h]; exact Bool.noConfusion
theorem tk_a {sg : Nat → Int} {tl t p : Nat} {G : Nat → Nat → Int} (h : rdC sg tl p (97 + t) 0 0 = false) : tkN sg tl t p G = (false, p, 0, 0, G) := by unfold tkN; rw [if_pos h]
theorem tk_b {sg : Nat → Int} {tl t p p1 : Nat} {G : Nat → Nat → Int} (h : rdC sg tl p (97 + t) 0 0 = true) (h1 : lnV sg tl (p + 1) = -1) (hp : p1 = lnP sg tl (p + 1)) : tkN sg tl t p G = (false, p1, 0, 0, G) := by
  subst hp; unfold tkN; rw [if_neg (bne h), if_pos h1]
theorem tk_c {sg : Nat → Int} {tl t p p1 p2 : Nat} {G : Nat → Nat → Int} (h : rdC sg tl p (97 + t) 0 0 = true) (h1 : ¬ lnV sg tl (p + 1) = -1) (hp : p1 = lnP sg tl (p + 1)) (h2 : ndV sg tl p1 = -1) (hp2 : p2 = ndP sg tl p1) : tkN sg tl t p G = (false, p2, 0, 0, G) := by
  subst hp; subst hp2; unfold tkN; rw [if_neg (bne h), if_neg h1, if_pos h2]
theorem tk_d {sg : Nat → Int} {tl t p p1 p2 : Nat} {v w : Int} {G : Nat → Nat → Int} (h : rdC sg tl p (97 + t) 0 0 = true) (h1 : ¬ v = -1) (hv : v = lnV sg tl (p + 1)) (hp : p1 = lnP sg tl (p + 1)) (h2 : ¬ w = -1) (hw : w = ndV sg tl p1) (hp2 : p2 = ndP sg tl p1) (h3 : t = 0 ∨ rdC sg tl p2 60 0 0 = false) : tkN sg tl t p G = (true, p2, v, w, G) := by
  subst hp; subst hp2; subst hv; subst hw; unfold tkN; rw [if_neg (bne h), if_neg h1, if_neg h2, if_pos h3]
theorem tk_e {sg : Nat → Int} {tl t p p1 p2 : Nat} {v w : Int} {G : Nat → Nat → Int} (h : rdC sg tl p (97 + t) 0 0 = true) (h1 : ¬ v = -1) (hv : v = lnV sg tl (p + 1)) (hp : p1 = lnP sg tl (p + 1)) (h2 : ¬ w = -1) (hw : w = ndV sg tl p1) (hp2 : p2 = ndP sg tl p1) (h3 : ¬ t = 0) (h4 : rdC sg tl p2 60 0 0 = true) : tkN sg tl t p G = ((pdN sg tl t t 0 (p2 + 1) G).1, (pdN sg tl t t 0 (p2 + 1) G).2.1, v, w, (pdN sg tl t t 0 (p2 + 1) G).2.2) := by
  subst hp; subst hp2; subst hv; subst hw; unfold tkN; rw [if_neg (bne h), if_neg h1, if_neg h2, if_neg]
  rintro (q | q)
  · exact h3 q
  · exact bne h4 q
theorem nd_t {sg : Nat → Int} {tl p : Nat} (h : rdC sg tl p 42 0 0 = true) : rdV sg tl (p + 1) 48 0 5 = ndV sg tl p ∧ rdP sg tl (p + 1) 48 0 5 = ndP sg tl p := by unfold ndV ndP; rw [if_pos h, if_pos h]; exact ⟨rfl, rfl⟩
theorem nd_f {sg : Nat → Int} {tl p : Nat} (h : rdC sg tl p 42 0 0 = false) : 1 = ndV sg tl p ∧ p = ndP sg tl p := by unfold ndV ndP; rw [h]; exact ⟨rfl, rfl⟩
theorem ndV_rng (sg : Nat → Int) (tl p : Nat) : -1 ≤ ndV sg tl p ∧ ndV sg tl p ≤ 5 := by
  unfold ndV
  split
  · have := rdV_rng sg tl (p + 1) 48 0 5; omega
  · omega
/-- the tasks from t on: ok, the place, how many tasks, lengths, needs, lags -/
def rdN (sg : Nat → Int) (tl : Nat) : Nat → Nat → Nat → (Nat → Int) → (Nat → Int) → (Nat → Nat → Int) → Bool × Nat × Nat × (Nat → Int) × (Nat → Int) × (Nat → Nat → Int)
  | 0, t, p, L, N, G => (false, p, t, L, N, G)
  | f + 1, t, p, L, N, G =>
    if (tkN sg tl t p G).1 = false then (false, (tkN sg tl t p G).2.1, t, L, N, G)
    else if t = 19 ∨ rdC sg tl (tkN sg tl t p G).2.1 59 0 0 = false then (decide ((tkN sg tl t p G).2.1 = tl), (tkN sg tl t p G).2.1, t + 1, upZ L t (tkN sg tl t p G).2.2.1, upZ N t (tkN sg tl t p G).2.2.2.1, (tkN sg tl t p G).2.2.2.2)
    else rdN sg tl f (t + 1) ((tkN sg tl t p G).2.1 + 1) (upZ L t (tkN sg tl t p G).2.2.1) (upZ N t (tkN sg tl t p G).2.2.2.1) (tkN sg tl t p G).2.2.2.2
def prs (sg : Nat → Int) (tl : Nat) : Bool × Nat × Nat × (Nat → Int) × (Nat → Int) × (Nat → Nat → Int) := rdN sg tl 20 0 0 (fun _ => 0) (fun _ => 0) noG
theorem rn_a {sg : Nat → Int} {tl f t p p1 : Nat} {L N : Nat → Int} {G : Nat → Nat → Int} (h : (tkN sg tl t p G).1 = false) (hp : p1 = (tkN sg tl t p G).2.1) : rdN sg tl (f + 1) t p L N G = (false, p1, t, L, N, G) := by rw [rdN, if_pos h, hp]
theorem rn_b {sg : Nat → Int} {tl f t p p1 : Nat} {L N : Nat → Int} {G : Nat → Nat → Int} (h : (tkN sg tl t p G).1 = true) (hp : p1 = (tkN sg tl t p G).2.1) (h3 : t = 19 ∨ rdC sg tl p1 59 0 0 = false) : rdN sg tl (f + 1) t p L N G = (decide (p1 = tl), p1, t + 1, upZ L t (tkN sg tl t p G).2.2.1, upZ N t (tkN sg tl t p G).2.2.2.1, (tkN sg tl t p G).2.2.2.2) := by
  subst hp; rw [rdN, if_neg (bne h), if_pos h3]
theorem rn_c {sg : Nat → Int} {tl f t p p1 : Nat} {L N : Nat → Int} {G : Nat → Nat → Int} (h : (tkN sg tl t p G).1 = true) (hp : p1 = (tkN sg tl t p G).2.1) (h3 : ¬ t = 19) (h4 : rdC sg tl p1 59 0 0 = true) : rdN sg tl (f + 1) t p L N G = rdN sg tl f (t + 1) (p1 + 1) (upZ L t (tkN sg tl t p G).2.2.1) (upZ N t (tkN sg tl t p G).2.2.2.1) (tkN sg tl t p G).2.2.2.2 := by
  subst hp; rw [rdN, if_neg (bne h), if_neg]
  rintro (q | q)
  · exact h3 q
  · exact bne h4 q
/-- dependencies lead from earlier tasks to later ones, below t alone -/
def FWD (G : Nat → Nat → Int) (t : Nat) : Prop := GOK G ∧ ∀ i j, G i j ≠ -1 → i < j ∧ j < t
theorem FWD_0 : FWD noG 0 := ⟨fun i j _ _ => by unfold noG; omega, fun i j h => absurd rfl h⟩
theorem FWD_mono {G : Nat → Nat → Int} {t : Nat} (h : FWD G t) : FWD G (t + 1) := ⟨h.1, fun i j hg => by have := h.2 i j hg; omega⟩
theorem FWD_up {G : Nat → Nat → Int} {t i : Nat} {x : Int} (h : FWD G (t + 1)) (hi : i < t) (hx : 0 ≤ x ∧ x ≤ 9) : FWD (upG G i t x) (t + 1) := by
  refine ⟨upG_ok2 h.1 ⟨by omega, hx.2⟩, fun a b hg => ?_⟩
  unfold upG at hg
  by_cases q : a = i ∧ b = t
  · omega
  · rw [if_neg q] at hg; exact h.2 a b hg
theorem pd_fwd {sg : Nat → Int} {tl t : Nat} (ht : 1 ≤ t) : ∀ {f l p G}, FWD G (t + 1) → FWD (pdN sg tl t f l p G).2.2 (t + 1)
  | 0, l, p, G, h => h
  | f + 1, l, p, G, h => by
    have a := rdV_rng sg tl p 97 l (t - 1)
    have b := rdV_rng sg tl (rdP sg tl p 97 l (t - 1)) 48 0 9
    rw [pdN]
    by_cases q1 : rdV sg tl p 97 l (t - 1) = -1
    · rw [if_pos q1]; exact h
    · rw [if_neg q1]
      have u : FWD (upG G (rdV sg tl p 97 l (t - 1)).toNat t (max 0 (rdV sg tl (rdP sg tl p 97 l (t - 1)) 48 0 9))) (t + 1) := FWD_up h (by omega) (by omega)
      split
      · exact u
      · exact pd_fwd ht u
theorem tk_fwd {sg : Nat → Int} {tl t p : Nat} {G : Nat → Nat → Int} (h : FWD G t) : FWD (tkN sg tl t p G).2.2.2.2 (t + 1) := by
  have h1 := FWD_mono h
  unfold tkN
  by_cases q1 : rdC sg tl p (97 + t) 0 0 = false
  · rw [if_pos q1]; exact h1
  · rw [if_neg q1]
    by_cases q2 : lnV sg tl (p + 1) = -1
    · rw [if_pos q2]; exact h1
    · rw [if_neg q2]
      by_cases q3 : ndV sg tl (lnP sg tl (p + 1)) = -1
      · rw [if_pos q3]; exact h1
      · rw [if_neg q3]
        by_cases q4 : t = 0 ∨ rdC sg tl (ndP sg tl (lnP sg tl (p + 1))) 60 0 0 = false
        · rw [if_pos q4]; exact h1
        · rw [if_neg q4]; exact pd_fwd (by omega) h1
theorem tk_rng {sg : Nat → Int} {tl t p : Nat} {G : Nat → Nat → Int} (h : (tkN sg tl t p G).1 = true) : (0 ≤ (tkN sg tl t p G).2.2.1 ∧ (tkN sg tl t p G).2.2.1 ≤ 30) ∧ 0 ≤ (tkN sg tl t p G).2.2.2.1 ∧ (tkN sg tl t p G).2.2.2.1 ≤ 5 := by
  have a := lnV_rng sg tl (p + 1)
  have b := ndV_rng sg tl (lnP sg tl (p + 1))
  unfold tkN at h ⊢
  by_cases q1 : rdC sg tl p (97 + t) 0 0 = false
  · rw [if_pos q1] at h; cases h
  · rw [if_neg q1] at h ⊢
    by_cases q2 : lnV sg tl (p + 1) = -1
    · rw [if_pos q2] at h; cases h
    · rw [if_neg q2] at h ⊢
      by_cases q3 : ndV sg tl (lnP sg tl (p + 1)) = -1
      · rw [if_pos q3] at h; cases h
      · rw [if_neg q3] at h ⊢
        split
        · exact ⟨⟨by show 0 ≤ lnV sg tl (p + 1); omega, a.2⟩, by show 0 ≤ ndV sg tl (lnP sg tl (p + 1)); omega, b.2⟩
        · exact ⟨⟨by show 0 ≤ lnV sg tl (p + 1); omega, a.2⟩, by show 0 ≤ ndV sg tl (lnP sg tl (p + 1)); omega, b.2⟩
theorem rd_fwd {sg : Nat → Int} {tl : Nat} : ∀ {f t p L N G}, t + f = 20 → FWD G t → L30 t L → NOK t N → (rdN sg tl f t p L N G).1 = true → 1 ≤ (rdN sg tl f t p L N G).2.2.1 ∧ (rdN sg tl f t p L N G).2.2.1 ≤ 20 ∧ L30 (rdN sg tl f t p L N G).2.2.1 (rdN sg tl f t p L N G).2.2.2.1 ∧ NOK (rdN sg tl f t p L N G).2.2.1 (rdN sg tl f t p L N G).2.2.2.2.1 ∧ FWD (rdN sg tl f t p L N G).2.2.2.2.2 (rdN sg tl f t p L N G).2.2.1
  | 0, t, p, L, N, G, _, _, _, _, h => by cases h
  | f + 1, t, p, L, N, G, htf, hF, hL, hN, h => by
    have uL : (tkN sg tl t p G).1 = true → L30 (t + 1) (upZ L t (tkN sg tl t p G).2.2.1) := fun k j hj => by
      by_cases q : j = t
      · rw [q, upZ_s]; exact (tk_rng k).1
      · rw [upZ_n q]; exact hL j (by omega)
    have uN : (tkN sg tl t p G).1 = true → NOK (t + 1) (upZ N t (tkN sg tl t p G).2.2.2.1) := fun k j hj => by
      by_cases q : j = t
      · rw [q, upZ_s]; exact (tk_rng k).2
      · rw [upZ_n q]; exact hN j (by omega)
    have uF := tk_fwd (sg := sg) (tl := tl) (p := p) hF
    rw [rdN] at h ⊢
    by_cases q1 : (tkN sg tl t p G).1 = false
    · rw [if_pos q1] at h; cases h
    · have k1 : (tkN sg tl t p G).1 = true := by
        cases hc : (tkN sg tl t p G).1
        · exact absurd hc q1
        · rfl
      rw [if_neg q1] at h ⊢
      by_cases q2 : t = 19 ∨ rdC sg tl (tkN sg tl t p G).2.1 59 0 0 = false
      · rw [if_pos q2]
        exact ⟨by show 1 ≤ t + 1; omega, by show t + 1 ≤ 20; omega, uL k1, uN k1, uF⟩
      · rw [if_neg q2] at h ⊢
        exact rd_fwd (by omega) uF (uL k1) (uN k1) h
theorem FWD_acy {G : Nat → Nat → Int} {t : Nat} (h : FWD G t) : ACY G t := ⟨fun i => i, fun i j _ _ hg => (h.2 i j hg).1⟩
theorem lnP_le (sg : Nat → Int) (tl p : Nat) (h : p ≤ tl) : p ≤ lnP sg tl p ∧ lnP sg tl p ≤ tl := by
  have a := rdP_le sg tl p 48 0 9
  unfold lnP
  split
  · omega
  · obtain ⟨hi, hh⟩ : ∃ hi : Nat, (if rdV sg tl p 48 0 9 = 3 then 0 else 9) = hi := ⟨_, rfl⟩
    rw [hh]
    have b := rdP_le sg tl (rdP sg tl p 48 0 9) 48 0 hi
    omega
theorem ndP_le (sg : Nat → Int) (tl p : Nat) (h : p ≤ tl) : p ≤ ndP sg tl p ∧ ndP sg tl p ≤ tl := by
  unfold ndP
  by_cases q : rdC sg tl p 42 0 0 = true
  · rw [if_pos q]; have c := (decide_eq_true_iff).mp q; have b := rdP_le sg tl (p + 1) 48 0 5; omega
  · rw [if_neg q]; omega
theorem pdP_le {sg : Nat → Int} {tl t : Nat} : ∀ {f l p G}, p ≤ tl → (pdN sg tl t f l p G).2.1 ≤ tl
  | 0, l, p, G, h => h
  | f + 1, l, p, G, h => by
    have a := rdP_le sg tl p 97 l (t - 1)
    have b := rdP_le sg tl (rdP sg tl p 97 l (t - 1)) 48 0 9
    rw [pdN]
    by_cases q1 : rdV sg tl p 97 l (t - 1) = -1
    · rw [if_pos q1]; exact a.2.2 h
    · rw [if_neg q1]
      by_cases q2 : (rdV sg tl p 97 l (t - 1)).toNat + 1 = t ∨ rdC sg tl (rdP sg tl (rdP sg tl p 97 l (t - 1)) 48 0 9) 43 0 0 = false
      · rw [if_pos q2]; exact b.2.2 (a.2.2 h)
      · rw [if_neg q2]
        have c : rdC sg tl (rdP sg tl (rdP sg tl p 97 l (t - 1)) 48 0 9) 43 0 0 = true := by
          cases hc : rdC sg tl (rdP sg tl (rdP sg tl p 97 l (t - 1)) 48 0 9) 43 0 0
          · exact absurd (Or.inr hc) q2
          · rfl
        have c2 := (decide_eq_true_iff).mp c
        exact pdP_le (by omega)
theorem tkP_le (sg : Nat → Int) (tl t p : Nat) (G : Nat → Nat → Int) (h : p ≤ tl) : (tkN sg tl t p G).2.1 ≤ tl := by
  unfold tkN
  by_cases q1 : rdC sg tl p (97 + t) 0 0 = false
  · rw [if_pos q1]; exact h
  · have c : rdC sg tl p (97 + t) 0 0 = true := by
      cases hc : rdC sg tl p (97 + t) 0 0
      · exact absurd hc q1
      · rfl
    have c2 := (decide_eq_true_iff).mp c
    have d := lnP_le sg tl (p + 1) (by omega)
    have e := ndP_le sg tl (lnP sg tl (p + 1)) d.2
    rw [if_neg q1]
    by_cases q2 : lnV sg tl (p + 1) = -1
    · rw [if_pos q2]; exact d.2
    · rw [if_neg q2]
      by_cases q3 : ndV sg tl (lnP sg tl (p + 1)) = -1
      · rw [if_pos q3]; exact e.2
      · rw [if_neg q3]
        by_cases q4 : t = 0 ∨ rdC sg tl (ndP sg tl (lnP sg tl (p + 1))) 60 0 0 = false
        · rw [if_pos q4]; exact e.2
        · rw [if_neg q4]
          have f : rdC sg tl (ndP sg tl (lnP sg tl (p + 1))) 60 0 0 = true := by
            cases hc : rdC sg tl (ndP sg tl (lnP sg tl (p + 1))) 60 0 0
            · exact absurd (Or.inr hc) q4
            · rfl
          have f2 := (decide_eq_true_iff).mp f
          exact pdP_le (by omega)
theorem zF_upc (f : Nat → Int) (k : Nat) {c : Nat} (h : c < 65536) (j : Nat) : upd (zF f) k (vp_nar .char (nI c)) j = zF (upZ f k (c : Int)) j := by
  have : vp_nar .char (nI c) = nI c := by unfold vp_nar; rw [(pk_charN h).1]
  rw [this]; exact zF_upn f k c j
theorem ag_s {L M N Q : Nat → Int} {k : Nat} {v w : Int} (h : ∀ j, j < k → L j = M j ∧ N j = Q j) : ∀ j, j < k + 1 → upZ L k v j = upZ M k v j ∧ upZ N k w j = upZ Q k w j := by
  intro j hj
  by_cases q : j = k
  · subst q; rw [upZ_s, upZ_s, upZ_s, upZ_s]; exact ⟨rfl, rfl⟩
  · rw [upZ_n q, upZ_n q, upZ_n q, upZ_n q]; exact h j (by omega)
