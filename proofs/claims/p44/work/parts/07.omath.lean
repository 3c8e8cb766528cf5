/-! the order of the tasks -/
theorem fb_holes : ∀ (m n : Nat) (f : Nat → Nat), (∀ i, i < n → f i < m) → (∀ i j, i < j → j < n → f i ≠ f j) → n ≤ m := by
  intro m
  induction m with
  | zero =>
    intro n f h _
    rcases Nat.eq_zero_or_pos n with q | q
    · omega
    · exact absurd (h 0 q) (Nat.not_lt_zero _)
  | succ m ih =>
    intro n f h h2
    cases n with
    | zero => omega
    | succ n =>
      have hlast := h n (Nat.lt_succ_self n)
      -- without the last one, and with f n's place given to m
      have key := ih n (fun i => if f i = m then f n else f i) (fun i hi => by
        have h1 := h i (by omega)
        have h3 := h2 i n hi (Nat.lt_succ_self n)
        show (if f i = m then f n else f i) < m
        split
        · rename_i e; omega
        · omega) (fun i j hij hj => by
        have h3 := h2 i j hij (by omega)
        have h4 := h2 i n (by omega) (Nat.lt_succ_self n)
        have h5 := h2 j n hj (Nat.lt_succ_self n)
        show (if f i = m then f n else f i) ≠ (if f j = m then f n else f j)
        split <;> split <;> omega)
      omega
def ACY (G : Nat → Nat → Int) (T : Nat) : Prop := ∃ rk : Nat → Nat, ∀ i j, i < T → j < T → G i j ≠ -1 → rk i < rk j
def TOPO (G : Nat → Nat → Int) (T : Nat) (od : Nat → Nat) : Prop := (∀ p, p < T → od p < T) ∧ (∀ p q, p < T → q < T → od p = od q → p = q) ∧ ∀ p, p < T → ∀ i, i < T → G i (od p) ≠ -1 → ∃ q, q < p ∧ od q = i
def inq (od : Nat → Nat) (i : Nat) : Nat → Bool
  | 0 => false
  | n + 1 => inq od i n || od n == i
theorem inq_iff {od : Nat → Nat} {i : Nat} : ∀ {n : Nat}, inq od i n = true ↔ ∃ q, q < n ∧ od q = i
  | 0 => by simp [inq]
  | n + 1 => by
    rw [inq, Bool.or_eq_true, inq_iff, beq_iff_eq]
    constructor
    · rintro (⟨q, h1, h2⟩ | h)
      · exact ⟨q, by omega, h2⟩
      · exact ⟨n, by omega, h⟩
    · rintro ⟨q, h1, h2⟩
      rcases Nat.lt_or_ge q n with h | h
      · exact Or.inl ⟨q, h, h2⟩
      · have : q = n := by omega
        subst this; exact Or.inr h2
theorem inq_cong {od od' : Nat → Nat} {i : Nat} : ∀ {n : Nat}, (∀ q, q < n → od q = od' q) → inq od i n = inq od' i n
  | 0, _ => rfl
  | n + 1, h => by rw [inq, inq, inq_cong (fun q hq => h q (by omega)), h n (by omega)]
def cntU (G : Nat → Nat → Int) (od : Nat → Nat) (pl j : Nat) : Nat → Nat
  | 0 => 0
  | n + 1 => cntU G od pl j n + if G n j = -1 ∨ inq od n pl = true then 0 else 1
theorem cntU_cong {G : Nat → Nat → Int} {od od' : Nat → Nat} {pl j : Nat} (h : ∀ q, q < pl → od q = od' q) : ∀ n, cntU G od pl j n = cntU G od' pl j n
  | 0 => rfl
  | n + 1 => by rw [cntU, cntU, cntU_cong h n, inq_cong h]
theorem cntU_0 {G : Nat → Nat → Int} {od : Nat → Nat} {j : Nat} : ∀ n, cntU G od 0 j n = cntB G j n
  | 0 => rfl
  | n + 1 => by
    rw [cntU, cntB, cntU_0 n]
    by_cases h : G n j = -1
    · rw [if_pos (Or.inl h), if_pos h]
    · rw [if_neg (by simp [inq, h]), if_neg h]
theorem cntB_le (G : Nat → Nat → Int) (j : Nat) : ∀ n, cntB G j n ≤ n
  | 0 => Nat.le_refl 0
  | n + 1 => by have := cntB_le G j n; rw [cntB]; split <;> omega
theorem cntU_le (G : Nat → Nat → Int) (od : Nat → Nat) (pl j : Nat) : ∀ n, cntU G od pl j n ≤ n
  | 0 => Nat.le_refl 0
  | n + 1 => by have := cntU_le G od pl j n; rw [cntU]; split <;> omega
theorem cntU_zero {G : Nat → Nat → Int} {od : Nat → Nat} {pl j : Nat} : ∀ {n : Nat}, cntU G od pl j n = 0 ↔ ∀ i, i < n → G i j ≠ -1 → inq od i pl = true
  | 0 => by simp [cntU]
  | n + 1 => by
    rw [cntU]
    constructor
    · intro h i hi hg
      have h1 : cntU G od pl j n = 0 := by omega
      rcases Nat.lt_or_ge i n with q | q
      · exact cntU_zero.mp h1 i q hg
      · have : i = n := by omega
        subst this
        rw [h1] at h
        split at h
        · rename_i e; rcases e with e | e
          · exact absurd e hg
          · exact e
        · omega
    · intro h
      rw [cntU_zero.mpr (fun i hi => h i (by omega)), if_pos]
      by_cases hg : G n j = -1
      · exact Or.inl hg
      · exact Or.inr (h n (by omega) hg)
theorem cntU_step {G : Nat → Nat → Int} {od : Nat → Nat} {pl j : Nat} (hn : inq od (od pl) pl = false) : ∀ n, cntU G od pl j n = cntU G od (pl + 1) j n + if od pl < n ∧ G (od pl) j ≠ -1 then 1 else 0
  | 0 => by simp [cntU]
  | n + 1 => by
    rw [cntU, cntU, cntU_step hn n]
    have e : inq od n (pl + 1) = (inq od n pl || od pl == n) := rfl
    by_cases h1 : od pl = n
    · subst h1
      rw [e, hn]
      by_cases h2 : G (od pl) j = -1
      · simp [h2]
      · simp [h2]
    · have h3 : (od pl == n) = false := by simp [h1]
      rw [e, h3, Bool.or_false]
      by_cases h4 : od pl < n
      · have h5 : od pl < n + 1 := by omega
        simp only [h4, h5]; omega
      · have h5 : ¬ od pl < n + 1 := by omega
        simp only [h4, h5]; simp
/-- the first loop: k tasks are looked at -/
def KA (G : Nat → Nat → Int) (T k z : Nat) (od : Nat → Nat) (wt : Nat → Int) : Prop := z ≤ k ∧ (∀ p, p < z → od p < k) ∧ (∀ p q, p < z → q < z → od p = od q → p = q) ∧ (∀ j, j < k → wt j = (cntB G j T : Int)) ∧ ∀ j, j < k → (wt j = 0 ↔ inq od j z = true)
theorem KA_0 (G : Nat → Nat → Int) (T : Nat) (od : Nat → Nat) (wt : Nat → Int) : KA G T 0 0 od wt := ⟨by omega, fun p h => by omega, fun p q h => by omega, fun j h => by omega, fun j h => by omega⟩
theorem KA_skip {G : Nat → Nat → Int} {T k z : Nat} {od : Nat → Nat} {wt : Nat → Int} (h : KA G T k z od wt) (h2 : ¬ ((cntB G k T : Nat) : Int) = 0) : KA G T (k + 1) z od (upZ wt k (cntB G k T : Int)) := by
  obtain ⟨a, b, c, d, e⟩ := h
  refine ⟨by omega, fun p hp => by have := b p hp; omega, c, fun j hj => ?_, fun j hj => ?_⟩
  · by_cases q : j = k
    · subst q; exact upZ_s
    · rw [upZ_n q]; exact d j (by omega)
  · by_cases q : j = k
    · subst q
      rw [upZ_s]
      refine ⟨fun h => absurd h h2, fun h => ?_⟩
      obtain ⟨p, hp, e⟩ := inq_iff.mp h
      have := b p hp
      omega
    · rw [upZ_n q]; exact e j (by omega)
theorem KA_put {G : Nat → Nat → Int} {T k z : Nat} {od : Nat → Nat} {wt : Nat → Int} (h : KA G T k z od wt) (h2 : ((cntB G k T : Nat) : Int) = 0) : KA G T (k + 1) (z + 1) (upN od z k) (upZ wt k (cntB G k T : Int)) := by
  obtain ⟨a, b, c, d, e⟩ := h
  have ag : ∀ q, q < z → upN od z k q = od q := fun q hq => upN_n (by omega)
  refine ⟨by omega, fun p hp => ?_, fun p q hp hq he => ?_, fun j hj => ?_, fun j hj => ?_⟩
  · by_cases q : p = z
    · subst q; rw [upN_s]; omega
    · rw [upN_n q]; have := b p (by omega); omega
  · by_cases q1 : p = z <;> by_cases q2 : q = z
    · omega
    · subst q1; rw [upN_s, upN_n q2] at he; have := b q (by omega); omega
    · subst q2; rw [upN_s, upN_n q1] at he; have := b p (by omega); omega
    · rw [upN_n q1, upN_n q2] at he; exact c p q (by omega) (by omega) he
  · by_cases q : j = k
    · subst q; exact upZ_s
    · rw [upZ_n q]; exact d j (by omega)
  · rw [inq, inq_cong ag, upN_s]
    by_cases q : j = k
    · subst q
      rw [upZ_s]
      simp [h2]
    · rw [upZ_n q, e j (by omega)]
      have : (k == j) = false := by simp; omega
      rw [this, Bool.or_false]
/-- the second loop: pl of the z tasks in the order are looked at -/
def KI (G : Nat → Nat → Int) (T pl z : Nat) (od : Nat → Nat) (wt : Nat → Int) : Prop := pl ≤ z ∧ z ≤ T ∧ (∀ p, p < z → od p < T) ∧ (∀ p q, p < z → q < z → od p = od q → p = q) ∧ (∀ j, j < T → wt j = (cntU G od pl j T : Int)) ∧ (∀ j, j < T → (wt j = 0 ↔ inq od j z = true)) ∧ ∀ p, p < z → ∀ i, i < T → G i (od p) ≠ -1 → ∃ q, q < p ∧ od q = i
theorem KA_KI {G : Nat → Nat → Int} {T z : Nat} {od : Nat → Nat} {wt : Nat → Int} (h : KA G T T z od wt) : KI G T 0 z od wt := by
  obtain ⟨a, b, c, d, e⟩ := h
  refine ⟨by omega, a, b, c, fun j hj => by rw [cntU_0]; exact d j hj, e, fun p hp i hi hg => ?_⟩
  have h1 := b p hp
  have h2 : wt (od p) = 0 := (e _ h1).mpr (inq_iff.mpr ⟨p, hp, rfl⟩)
  rw [d _ h1] at h2
  have h3 : cntU G od 0 (od p) T = 0 := by rw [cntU_0]; omega
  have h4 := cntU_zero.mp h3 i hi hg
  simp [inq] at h4
def KJ (G : Nat → Nat → Int) (T pl t z : Nat) (od : Nat → Nat) (wt : Nat → Int) : Prop := pl < z ∧ z ≤ T ∧ (∀ p, p < z → od p < T) ∧ (∀ p q, p < z → q < z → od p = od q → p = q) ∧ (∀ j, j < T → wt j = (cntU G od (if j < t then pl + 1 else pl) j T : Int)) ∧ (∀ j, j < T → (wt j = 0 ↔ inq od j z = true)) ∧ ∀ p, p < z → ∀ i, i < T → G i (od p) ≠ -1 → ∃ q, q < p ∧ od q = i
theorem KI_KJ {G : Nat → Nat → Int} {T pl z : Nat} {od : Nat → Nat} {wt : Nat → Int} (h : KI G T pl z od wt) (hp : pl < z) : KJ G T pl 0 z od wt := by
  obtain ⟨a, b, c, d, e, f, g⟩ := h
  exact ⟨hp, b, c, d, fun j hj => by rw [if_neg (by omega)]; exact e j hj, f, g⟩
theorem KJ_KI {G : Nat → Nat → Int} {T pl z : Nat} {od : Nat → Nat} {wt : Nat → Int} (h : KJ G T pl T z od wt) : KI G T (pl + 1) z od wt := by
  obtain ⟨a, b, c, d, e, f, g⟩ := h
  exact ⟨by omega, b, c, d, fun j hj => by have := e j hj; rw [if_pos hj] at this; exact this, f, g⟩
theorem KJ_od {G : Nat → Nat → Int} {T pl t z : Nat} {od : Nat → Nat} {wt : Nat → Int} (h : KJ G T pl t z od wt) : od pl < T := h.2.2.1 pl h.1
theorem KJ_wt {G : Nat → Nat → Int} {T pl t z : Nat} {od : Nat → Nat} {wt : Nat → Int} (h : KJ G T pl t z od wt) (hT : T ≤ 20) {j : Nat} (hj : j < T) : 0 ≤ wt j ∧ wt j ≤ 20 := by
  have h1 := h.2.2.2.2.1 j hj
  have h2 := cntU_le G od (if j < t then pl + 1 else pl) j T
  omega
theorem KJ_nq {G : Nat → Nat → Int} {T pl t z : Nat} {od : Nat → Nat} {wt : Nat → Int} (h : KJ G T pl t z od wt) : inq od (od pl) pl = false := by
  cases hq : inq od (od pl) pl with
  | false => rfl
  | true =>
    obtain ⟨q, h1, h2⟩ := inq_iff.mp hq
    have := h.2.2.2.1 q pl (by have := h.1; omega) h.1 h2
    omega
theorem KJ_skip {G : Nat → Nat → Int} {T pl t z : Nat} {od : Nat → Nat} {wt : Nat → Int} (h : KJ G T pl t z od wt) (hg : G (od pl) t = -1) : KJ G T pl (t + 1) z od wt := by
  have hq := KJ_nq h
  obtain ⟨a, b, c, d, e, f, g⟩ := h
  refine ⟨a, b, c, d, fun j hj => ?_, f, g⟩
  rw [e j hj]
  by_cases q : j = t
  · subst q
    rw [if_neg (by omega), if_pos (by omega), cntU_step hq, if_neg (by simp [hg])]
    simp
  · by_cases q2 : j < t
    · rw [if_pos q2, if_pos (by omega)]
    · rw [if_neg q2, if_neg (by omega)]
theorem KJ_pos {G : Nat → Nat → Int} {T pl t z : Nat} {od : Nat → Nat} {wt : Nat → Int} (h : KJ G T pl t z od wt) (ht : t < T) (hg : ¬ G (od pl) t = -1) : wt t = (cntU G od (pl + 1) t T : Int) + 1 := by
  have hq := KJ_nq h
  have ho := KJ_od h
  rw [h.2.2.2.2.1 t ht, if_neg (by omega), cntU_step hq, if_pos ⟨ho, hg⟩]
  omega
theorem KJ_dec {G : Nat → Nat → Int} {T pl t z : Nat} {od : Nat → Nat} {wt : Nat → Int} (h : KJ G T pl t z od wt) (ht : t < T) (hg : ¬ G (od pl) t = -1) (hw : ¬ wt t - 1 = 0) : KJ G T pl (t + 1) z od (upZ wt t (wt t - 1)) := by
  have h1 := KJ_pos h ht hg
  obtain ⟨a, b, c, d, e, f, g⟩ := h
  refine ⟨a, b, c, d, fun j hj => ?_, fun j hj => ?_, g⟩
  · by_cases q : j = t
    · subst q
      rw [upZ_s, if_pos (by omega), h1]; omega
    · rw [upZ_n q, e j hj]
      by_cases q2 : j < t
      · rw [if_pos q2, if_pos (by omega)]
      · rw [if_neg q2, if_neg (by omega)]
  · by_cases q : j = t
    · subst q
      rw [upZ_s]
      refine ⟨fun h => absurd h hw, fun h => ?_⟩
      have := (f j hj).mpr h
      omega
    · rw [upZ_n q]; exact f j hj
theorem KJ_new {G : Nat → Nat → Int} {T pl t z : Nat} {od : Nat → Nat} {wt : Nat → Int} (h : KJ G T pl t z od wt) (ht : t < T) (hg : ¬ G (od pl) t = -1) : ∀ p, p < z → od p ≠ t := by
  intro p hp he
  have h1 := KJ_pos h ht hg
  have := (h.2.2.2.2.2.1 t ht).mpr (inq_iff.mpr ⟨p, hp, he⟩)
  omega
theorem KJ_z {G : Nat → Nat → Int} {T pl t z : Nat} {od : Nat → Nat} {wt : Nat → Int} (h : KJ G T pl t z od wt) (ht : t < T) (hg : ¬ G (od pl) t = -1) : z < T := by
  have hn := KJ_new h ht hg
  obtain ⟨a, b, c, d, e, f, g⟩ := h
  have := fb_holes T (z + 1) (upN od z t) (fun i hi => by
    by_cases q : i = z
    · subst q; rw [upN_s]; exact ht
    · rw [upN_n q]; exact c i (by omega)) (fun i j hij hj => by
    by_cases q : j = z
    · subst q; rw [upN_s, upN_n (by omega)]; exact hn i (by omega)
    · rw [upN_n q, upN_n (by omega)]
      intro he
      have := d i j (by omega) (by omega) he
      omega)
  omega
theorem KJ_put {G : Nat → Nat → Int} {T pl t z : Nat} {od : Nat → Nat} {wt : Nat → Int} (h : KJ G T pl t z od wt) (ht : t < T) (hg : ¬ G (od pl) t = -1) (hw : wt t - 1 = 0) : KJ G T pl (t + 1) (z + 1) (upN od z t) (upZ wt t (wt t - 1)) := by
  have h1 := KJ_pos h ht hg
  have hz := KJ_z h ht hg
  have hn := KJ_new h ht hg
  obtain ⟨a, b, c, d, e, f, g⟩ := h
  have ag : ∀ q, q < z → upN od z t q = od q := fun q hq => upN_n (by omega)
  refine ⟨by omega, by omega, fun p hp => ?_, fun p q hp hq he => ?_, fun j hj => ?_, fun j hj => ?_, fun p hp i hi hgi => ?_⟩
  · by_cases q : p = z
    · subst q; rw [upN_s]; exact ht
    · rw [upN_n q]; exact c p (by omega)
  · by_cases q1 : p = z <;> by_cases q2 : q = z
    · omega
    · subst q1; rw [upN_s, upN_n q2] at he; exact absurd he.symm (hn q (by omega))
    · subst q2; rw [upN_s, upN_n q1] at he; exact absurd he (hn p (by omega))
    · rw [upN_n q1, upN_n q2] at he; exact d p q (by omega) (by omega) he
  · have cg : ∀ x, cntU G (upN od z t) (if j < x then pl + 1 else pl) j T = cntU G od (if j < x then pl + 1 else pl) j T := fun x => cntU_cong (fun q hq => ag q (by split at hq <;> omega)) T
    rw [cg]
    by_cases q : j = t
    · subst q
      rw [upZ_s, if_pos (by omega), h1]; omega
    · rw [upZ_n q, e j hj]
      by_cases q2 : j < t
      · rw [if_pos q2, if_pos (by omega)]
      · rw [if_neg q2, if_neg (by omega)]
  · rw [inq, inq_cong ag, upN_s]
    by_cases q : j = t
    · subst q
      rw [upZ_s]
      simp [hw]
    · rw [upZ_n q, f j hj]
      have : (t == j) = false := by simp; omega
      rw [this, Bool.or_false]
  · by_cases q : p = z
    · subst q
      rw [upN_s] at hgi
      have h3 : cntU G od (pl + 1) t T = 0 := by omega
      obtain ⟨q, h4, h5⟩ := inq_iff.mp (cntU_zero.mp h3 i hi hgi)
      exact ⟨q, by omega, by rw [ag q (by omega)]; exact h5⟩
    · rw [upN_n q] at hgi
      obtain ⟨q', h4, h5⟩ := g p (by omega) i hi hgi
      exact ⟨q', h4, by rw [ag q' (by omega)]; exact h5⟩
theorem KI_done {G : Nat → Nat → Int} {T z : Nat} {od : Nat → Nat} {wt : Nat → Int} (h : KI G T z z od wt) (hac : ACY G T) : z = T ∧ TOPO G T od := by
  obtain ⟨rk, hrk⟩ := hac
  obtain ⟨a, b, c, d, e, f, g⟩ := h
  have all : ∀ r j, j < T → rk j ≤ r → inq od j z = true := by
    intro r
    induction r with
    | zero =>
      intro j hj hr
      rw [← f j hj, e j hj]
      have : cntU G od z j T = 0 := cntU_zero.mpr (fun i hi hg => by have := hrk i j hi hj hg; omega)
      omega
    | succ r ih =>
      intro j hj hr
      rw [← f j hj, e j hj]
      have : cntU G od z j T = 0 := cntU_zero.mpr (fun i hi hg => ih i hi (by have := hrk i j hi hj hg; omega))
      omega
  have ex : ∀ j, j < T → ∃ q, q < z ∧ od q = j := fun j hj => inq_iff.mp (all (rk j) j hj (Nat.le_refl _))
  have hzT : T ≤ z := by
    classical
    refine fb_holes z T (fun j => if h : ∃ q, q < z ∧ od q = j then Classical.choose h else 0) (fun j hj => ?_) (fun i j hij hj => ?_)
    · have h := ex j hj
      simp only [dif_pos h]
      exact (Classical.choose_spec h).1
    · have h1 := ex i (by omega)
      have h2 := ex j hj
      simp only [dif_pos h1, dif_pos h2]
      intro he
      have e1 := (Classical.choose_spec h1).2
      have e2 := (Classical.choose_spec h2).2
      rw [he, e2] at e1
      omega
  have hz : z = T := by omega
  subst hz
  exact ⟨rfl, c, d, g⟩
theorem KI_end {G : Nat → Nat → Int} {T pl z : Nat} {od : Nat → Nat} {wt : Nat → Int} (h : KI G T pl z od wt) (hz : z ≤ pl) (hac : ACY G T) : z = T ∧ TOPO G T od := by
  have e : pl = z := by have := h.1; omega
  subst e
  exact KI_done h hac
