/-! what is ahead of what -/
def RCH (G : Nat → Nat → Int) (T t j : Nat) : Prop := ∃ (n : Nat) (f : Nat → Nat), f 0 = t ∧ f n = j ∧ ∀ k, k < n → f k < T ∧ f (k + 1) < T ∧ G (f k) (f (k + 1)) ≠ -1
theorem RCH_0 {G : Nat → Nat → Int} {T t : Nat} : RCH G T t t := ⟨0, fun _ => t, rfl, rfl, fun k h => by omega⟩
theorem RCH_s {G : Nat → Nat → Int} {T t i j : Nat} (h : RCH G T t i) (hi : i < T) (hj : j < T) (hg : ¬ G i j = -1) : RCH G T t j := by
  obtain ⟨n, f, h1, h2, h3⟩ := h
  have e1 : (if n ≤ n then f n else j) = f n := if_pos (Nat.le_refl n)
  have e2 : (if n + 1 ≤ n then f (n + 1) else j) = j := if_neg (by omega)
  refine ⟨n + 1, fun k => if k ≤ n then f k else j, by simp [h1], e2, fun k hk => ?_⟩
  by_cases q : k = n
  · subst q
    show (if k ≤ k then f k else j) < T ∧ (if k + 1 ≤ k then f (k + 1) else j) < T ∧ G (if k ≤ k then f k else j) (if k + 1 ≤ k then f (k + 1) else j) ≠ -1
    rw [e1, e2, h2]; exact ⟨hi, hj, hg⟩
  · have := h3 k (by omega)
    show (if k ≤ n then f k else j) < T ∧ (if k + 1 ≤ n then f (k + 1) else j) < T ∧ G (if k ≤ n then f k else j) (if k + 1 ≤ n then f (k + 1) else j) ≠ -1
    rw [if_pos (show k ≤ n by omega), if_pos (show k + 1 ≤ n by omega)]; exact this
theorem RCH_min {G : Nat → Nat → Int} {T t j : Nat} (p : Nat → Prop) (h : RCH G T t j) (ht : p t) (hs : ∀ i j, i < T → j < T → p i → G i j ≠ -1 → p j) : p j := by
  obtain ⟨n, f, h1, h2, h3⟩ := h
  have key : ∀ k, k ≤ n → p (f k) := by
    intro k
    induction k with
    | zero => intro _; rw [h1]; exact ht
    | succ k ih => intro hk; have a := h3 k (by omega); exact hs _ _ a.1 a.2.1 (ih (by omega)) a.2.2
  rw [← h2]; exact key n (Nat.le_refl n)
noncomputable def ahB (G : Nat → Nat → Int) (T i j : Nat) : Bool := @decide (i ≠ j ∧ RCH G T i j) (Classical.propDecidable _)
theorem ahB_iff {G : Nat → Nat → Int} {T i j : Nat} : ahB G T i j = true ↔ i ≠ j ∧ RCH G T i j := by unfold ahB; simp
def LD (G : Nat → Nat → Int) (T : Nat) (od : Nat → Nat) (t pl u : Nat) (rb : Nat → Bool) : Prop := rb t = true ∧ (∀ j, j < T → rb j = true → RCH G T t j) ∧ ∀ q j, j < T → (q < pl ∨ (q = pl ∧ j < u)) → rb (od q) = true → G (od q) j ≠ -1 → rb j = true
def ini (t : Nat) (rb : Nat → Bool) (k : Nat) : Nat → Bool := fun j => if j < k then j == t else rb j
theorem ini_s (t : Nat) (rb : Nat → Bool) (k : Nat) : upB (ini t rb k) k (k == t) = ini t rb (k + 1) := by
  funext j
  unfold upB ini
  by_cases q : j = k
  · subst q; rw [if_pos rfl, if_pos (by omega)]
  · rw [if_neg q]
    by_cases q2 : j < k
    · rw [if_pos q2, if_pos (by omega)]
    · rw [if_neg q2, if_neg (by omega)]
theorem LD_0 {G : Nat → Nat → Int} {T : Nat} {od : Nat → Nat} {t : Nat} {rb : Nat → Bool} (hT : T ≤ 20) (ht : t < T) : LD G T od t 0 0 (ini t rb 20) := by
  have e : ∀ j, j < T → ini t rb 20 j = (j == t) := fun j hj => if_pos (by omega)
  refine ⟨by rw [e t ht]; simp, fun j hj hr => ?_, fun q j _ h => by omega⟩
  rw [e j hj] at hr
  have : j = t := by simpa using hr
  subst this; exact RCH_0
theorem LD_nx {G : Nat → Nat → Int} {T : Nat} {od : Nat → Nat} {t pl u : Nat} {rb : Nat → Bool} (h : LD G T od t pl u rb) (hu : T ≤ u) : LD G T od t (pl + 1) 0 rb := ⟨h.1, h.2.1, fun q j hj hc => h.2.2 q j hj (by omega)⟩
theorem LD_no {G : Nat → Nat → Int} {T : Nat} {od : Nat → Nat} {t pl u : Nat} {rb : Nat → Bool} (h : LD G T od t pl u rb) (hn : rb (od pl) = false ∨ G (od pl) u = -1) : LD G T od t pl (u + 1) rb := ⟨h.1, h.2.1, fun q j hj hc hr hg => by
  by_cases c : q = pl ∧ j = u
  · rw [c.1] at hr hg; rw [c.2] at hg
    rcases hn with hn | hn
    · rw [hn] at hr; cases hr
    · exact absurd hn hg
  · exact h.2.2 q j hj (by omega) hr hg⟩
theorem LD_up {G : Nat → Nat → Int} {T : Nat} {od : Nat → Nat} {t pl u : Nat} {rb : Nat → Bool} (h : LD G T od t pl u rb) (htp : TOPO G T od) (hpl : pl < T) (hu : u < T) (hr : rb (od pl) = true) (hg : ¬ G (od pl) u = -1) : LD G T od t pl (u + 1) (upB rb u true) := by
  have hne : ∀ q, q ≤ pl → od q ≠ u := by
    intro q hq he
    obtain ⟨q', h1, h2⟩ := htp.2.2 q (by omega) (od pl) (htp.1 pl hpl) (by rw [he]; exact hg)
    have := htp.2.1 q' pl (by omega) hpl h2
    omega
  refine ⟨?_, fun j hj hj2 => ?_, fun q j hj hc hq hgq => ?_⟩
  · by_cases q : t = u
    · subst q; exact upB_s
    · rw [upB_n q]; exact h.1
  · by_cases q : j = u
    · subst q; exact RCH_s (h.2.1 _ (htp.1 pl hpl) hr) (htp.1 pl hpl) hu hg
    · rw [upB_n q] at hj2; exact h.2.1 j hj hj2
  · by_cases c : j = u
    · subst c; exact upB_s
    · rw [upB_n c]
      rw [upB_n (hne q (by omega))] at hq
      exact h.2.2 q j hj (by omega) hq hgq
theorem LD_end {G : Nat → Nat → Int} {T : Nat} {od : Nat → Nat} {t pl : Nat} {rb : Nat → Bool} (h : LD G T od t pl 0 rb) (htp : TOPO G T od) (hpl : T ≤ pl) {j : Nat} (hj : j < T) (hne : t ≠ j) : rb j = ahB G T t j := by
  have key : rb j = true ↔ ahB G T t j = true := by
    rw [ahB_iff]
    refine ⟨fun hr => ⟨hne, h.2.1 j hj hr⟩, fun hr => ?_⟩
    refine RCH_min (fun j => rb j = true) hr.2 h.1 (fun i j hi hj hp hg => ?_)
    obtain ⟨q, h1, h2⟩ := TOPO_onto htp hi
    subst h2
    exact h.2.2 q j hj (Or.inl (by omega)) hp hg
  cases h1 : rb j <;> cases h2 : ahB G T t j <;> simp_all
theorem ahB_self {G : Nat → Nat → Int} {T t : Nat} : ahB G T t t = false := by
  cases h : ahB G T t t with
  | false => rfl
  | true => exact absurd rfl (ahB_iff.mp h).1
/-! longest chains -/
def mxB (G : Nat → Nat → Int) (w : Nat → Int) (j : Nat) : Nat → Int
  | 0 => 0
  | n + 1 => if G n j = -1 then mxB G w j n else max (mxB G w j n) (w n + G n j)
theorem mxB_E {G : Nat → Nat → Int} {w e L : Nat → Int} {j : Nat} : ∀ {n}, (∀ i, i < n → G i j ≠ -1 → w i = e i + L i) → mxB G w j n = maxE G L e j n
  | 0, _ => rfl
  | n + 1, h => by
    rw [mxB, maxE, mxB_E (fun i hi hg => h i (by omega) hg)]
    split
    · rfl
    · rename_i hg; rw [h n (by omega) hg]
theorem mxB_rng {G : Nat → Nat → Int} {w : Nat → Int} {j : Nat} : ∀ {n}, n ≤ 20 → j < 20 → GOK G → (∀ i, i < n → G i j ≠ -1 → w i ≤ 8400) → 0 ≤ mxB G w j n ∧ mxB G w j n ≤ 8409
  | 0, _, _, _, _ => ⟨Int.le_refl 0, by simp [mxB]⟩
  | n + 1, hn, hj, hG, h => by
    have ih := mxB_rng (n := n) (by omega) hj hG (fun i hi hg => h i (by omega) hg)
    have g := hG n j (by omega) hj
    rw [mxB]
    split
    · exact ih
    · rename_i hg; have := h n (by omega) hg; omega
/-! counting chains -/
def smL (f : Nat → Int64) : Nat → Int64
  | 0 => 0
  | n + 1 => smL f n + f n
theorem smL_cong {f g : Nat → Int64} : ∀ {n}, (∀ i, i < n → f i = g i) → smL f n = smL g n
  | 0, _ => rfl
  | n + 1, h => by rw [smL, smL, smL_cong (fun i hi => h i (by omega)), h n (by omega)]
theorem smL_add (f g : Nat → Int64) : ∀ n, smL (fun i => f i + g i) n = smL f n + smL g n
  | 0 => rfl
  | n + 1 => by
    rw [smL, smL, smL, smL_add f g n, Int64.add_assoc, Int64.add_assoc]
    congr 1
    rw [← Int64.add_assoc, ← Int64.add_assoc, Int64.add_comm (smL g n)]
theorem smL_0 : ∀ n, smL (fun _ => 0) n = 0
  | 0 => rfl
  | n + 1 => by rw [smL, smL_0 n]; rfl
theorem smL_swap (f : Nat → Nat → Int64) (m : Nat) : ∀ n, smL (fun i => smL (fun j => f i j) m) n = smL (fun j => smL (fun i => f i j) n) m
  | 0 => by rw [smL]; exact (smL_0 m).symm
  | n + 1 => by
    rw [smL, smL_swap f m n, ← smL_add]
    exact smL_cong (fun j _ => rfl)
theorem smL_point (f : Nat → Int64) (k : Nat) : ∀ n, smL (fun j => if j = k then f j else 0) n = if k < n then f k else 0
  | 0 => by rw [if_neg (by omega)]; rfl
  | n + 1 => by
    rw [smL, smL_point f k n]
    by_cases h : n = k
    · subst h; rw [if_neg (by omega), if_pos rfl, if_pos (by omega)]; exact Int64.zero_add _
    · rw [if_neg h, Int64.add_zero]
      by_cases h2 : k < n
      · rw [if_pos h2, if_pos (by omega)]
      · rw [if_neg h2, if_neg (by omega)]
/-- a sum in the order's order -/
theorem smL_od {G : Nat → Nat → Int} {T : Nat} {od : Nat → Nat} (htp : TOPO G T od) (g : Nat → Int64) : smL (fun q => g (od q)) T = smL g T := by
  have key : ∀ n, n ≤ T → smL (fun q => g (od q)) n = smL (fun j => if inq od j n = true then g j else 0) T := by
    intro n
    induction n with
    | zero => intro _; rw [smL]; exact (smL_0 T).symm.trans (smL_cong (fun j _ => by simp [inq]))
    | succ n ih =>
      intro hn
      rw [smL, ih (by omega)]
      have hp : g (od n) = smL (fun j => if j = od n then g j else 0) T := by rw [smL_point, if_pos (htp.1 n (by omega))]
      rw [hp, ← smL_add]
      refine smL_cong (fun j _ => ?_)
      rw [inq]
      by_cases h1 : j = od n
      · have h2 : inq od j n = false := by
          cases hq : inq od j n with
          | false => rfl
          | true =>
            obtain ⟨q, a, b⟩ := inq_iff.mp hq
            have := htp.2.1 q n (by omega) (by omega) (b.trans h1)
            omega
        rw [h2, if_pos h1]
        simp [h1]
      · have h3 : (od n == j) = false := by simp; omega
        rw [if_neg h1, h3, Bool.or_false, Int64.add_zero]
  rw [key T (Nat.le_refl T)]
  exact smL_cong (fun j hj => by rw [if_pos (inq_iff.mpr (TOPO_onto htp hj))])
def src (G : Nat → Nat → Int) (T j : Nat) : Int64 := if cntB G j T = 0 then 1 else 0
/-- a chain may go on from i to j without waiting -/
def tgt (G : Nat → Nat → Int) (L e : Nat → Int) (i j : Nat) : Prop := G i j ≠ -1 ∧ e j = e i + L i + G i j
/-- what comes to j from i: x, if a chain may go on so -/
def tw (G : Nat → Nat → Int) (L e : Nat → Int) (i j : Nat) (x : Int64) : Int64 := if G i j = -1 then 0 else if e j = e i + L i + G i j then x else 0
theorem tw_add (G : Nat → Nat → Int) (L e : Nat → Int) (i j : Nat) (x y : Int64) : tw G L e i j (x + y) = tw G L e i j x + tw G L e i j y := by
  unfold tw
  split
  · rfl
  · split
    · rfl
    · rfl
theorem tw_0 (G : Nat → Nat → Int) (L e : Nat → Int) (i j : Nat) : tw G L e i j 0 = 0 := by
  unfold tw
  split
  · rfl
  · split <;> rfl
theorem tw_sm (G : Nat → Nat → Int) (L e : Nat → Int) (i j : Nat) (f : Nat → Int64) : ∀ n, tw G L e i j (smL f n) = smL (fun k => tw G L e i j (f k)) n
  | 0 => tw_0 G L e i j
  | n + 1 => by rw [smL, smL, tw_add, tw_sm G L e i j f n]
/-- chains with k + 1 tasks that come to j -/
def chN (G : Nat → Nat → Int) (T : Nat) (L e : Nat → Int) : Nat → Nat → Int64
  | 0, j => src G T j
  | k + 1, j => smL (fun i => tw G L e i j (chN G T L e k i)) T
def cc (G : Nat → Nat → Int) (T : Nat) (L e : Nat → Int) (j : Nat) : Int64 := smL (fun k => chN G T L e k j) T
theorem chN_far {G : Nat → Nat → Int} {T : Nat} {L e : Nat → Int} {rk : Nat → Nat} (h : ∀ i j, i < T → j < T → G i j ≠ -1 → rk i < rk j) : ∀ k j, j < T → rk j < k → chN G T L e k j = 0
  | 0, j, _, h => by omega
  | k + 1, j, hj, hk => by
    rw [chN, ← smL_0 T]
    refine smL_cong (fun i hi => ?_)
    by_cases hg : G i j = -1
    · unfold tw; rw [if_pos hg]
    · rw [chN_far h k i hi (by have := h i j hi hj hg; omega), tw_0]
theorem smL_first (f : Nat → Int64) : ∀ n, smL f (n + 1) = f 0 + smL (fun k => f (k + 1)) n
  | 0 => by rw [smL, smL, smL, Int64.zero_add, Int64.add_zero]
  | n + 1 => by rw [smL, smL_first f n, smL, Int64.add_assoc]
theorem cc_fix {G : Nat → Nat → Int} {T : Nat} {L e : Nat → Int} (hac : ACY G T) {j : Nat} (hj : j < T) : cc G T L e j = src G T j + smL (fun i => tw G L e i j (cc G T L e i)) T := by
  obtain ⟨rk, h1, h2⟩ := ACY_norm hac
  have h3 : smL (fun k => chN G T L e k j) (T + 1) = cc G T L e j := by
    rw [smL, chN_far h2 T j hj (h1 j hj), Int64.add_zero]; rfl
  rw [← h3, smL_first]
  congr 1
  have e1 : smL (fun k => chN G T L e (k + 1) j) T = smL (fun k => smL (fun i => tw G L e i j (chN G T L e k i)) T) T := smL_cong (fun k _ => rfl)
  rw [e1, smL_swap]
  exact smL_cong (fun i _ => (tw_sm G L e i j _ T).symm)
/-- the counts when pl tasks of the order are through -/
def pcc (G : Nat → Nat → Int) (T : Nat) (L e : Nat → Int) (od : Nat → Nat) (j : Nat) : Nat → Int64
  | 0 => src G T j
  | n + 1 => pcc G T L e od j n + tw G L e (od n) j (cc G T L e (od n))
theorem pcc_sm {G : Nat → Nat → Int} {T : Nat} {L e : Nat → Int} {od : Nat → Nat} {j : Nat} : ∀ n, pcc G T L e od j n = src G T j + smL (fun q => tw G L e (od q) j (cc G T L e (od q))) n
  | 0 => by rw [pcc, smL, Int64.add_zero]
  | n + 1 => by rw [pcc, pcc_sm n, smL, Int64.add_assoc]
theorem smL_split (f : Nat → Int64) (a : Nat) : ∀ b, smL f (a + b) = smL f a + smL (fun k => f (a + k)) b
  | 0 => by rw [smL]; exact (Int64.add_zero _).symm
  | b + 1 => by rw [← Nat.add_assoc, smL, smL_split f a b, smL, Int64.add_assoc]
theorem pcc_od {G : Nat → Nat → Int} {T : Nat} {L e : Nat → Int} {od : Nat → Nat} (hac : ACY G T) (htp : TOPO G T od) {pl : Nat} (hpl : pl < T) : pcc G T L e od (od pl) pl = cc G T L e (od pl) := by
  rw [cc_fix hac (htp.1 pl hpl), pcc_sm]
  congr 1
  rw [← smL_od htp (fun i => tw G L e i (od pl) (cc G T L e i))]
  have hT : T = pl + (T - pl) := by omega
  rw [hT, smL_split]
  have z : smL (fun k => tw G L e (od (pl + k)) (od pl) (cc G (pl + (T - pl)) L e (od (pl + k)))) (T - pl) = 0 := by
    rw [← smL_0 (T - pl)]
    refine smL_cong (fun k hk => ?_)
    unfold tw
    rw [if_pos]
    by_cases hg : G (od (pl + k)) (od pl) = -1
    · exact hg
    · obtain ⟨q, h1, h2⟩ := htp.2.2 pl hpl (od (pl + k)) (htp.1 _ (by omega)) hg
      have := htp.2.1 q (pl + k) (by omega) (by omega) h2
      omega
  rw [z, Int64.add_zero]
def PC (G : Nat → Nat → Int) (T : Nat) (L e : Nat → Int) (od : Nat → Nat) (pl t : Nat) (ct : Nat → Int64) : Prop := ∀ j, j < T → ct j = pcc G T L e od j (if j < t then pl + 1 else pl)
theorem PC_nx {G : Nat → Nat → Int} {T : Nat} {L e : Nat → Int} {od : Nat → Nat} {pl t : Nat} {ct : Nat → Int64} (h : PC G T L e od pl t ct) (ht : T ≤ t) : PC G T L e od (pl + 1) 0 ct := fun j hj => by have := h j hj; rw [if_pos (by omega)] at this; rw [if_neg (by omega)]; exact this
theorem PC_skip {G : Nat → Nat → Int} {T : Nat} {L e : Nat → Int} {od : Nat → Nat} {pl t : Nat} {ct : Nat → Int64} (h : PC G T L e od pl t ct) (hg : G (od pl) t = -1) : PC G T L e od pl (t + 1) ct := fun j hj => by
  rw [h j hj]
  by_cases q : j = t
  · subst q
    rw [if_neg (by omega), if_pos (by omega), pcc]
    unfold tw; rw [if_pos hg, Int64.add_zero]
  · by_cases q2 : j < t
    · rw [if_pos q2, if_pos (by omega)]
    · rw [if_neg q2, if_neg (by omega)]
theorem PC_step {G : Nat → Nat → Int} {T : Nat} {L e : Nat → Int} {od : Nat → Nat} {pl t : Nat} {ct : Nat → Int64} {x : Int64} (h : PC G T L e od pl t ct) (ht : t < T) (hg : ¬ G (od pl) t = -1) (hx : x = if e t = e (od pl) + L (od pl) + G (od pl) t then cc G T L e (od pl) else 0) : PC G T L e od pl (t + 1) (vp_updL ct t (ct t + x)) := fun j hj => by
  by_cases q : j = t
  · subst q
    have e1 : vp_updL ct j (ct j + x) j = ct j + x := pk_uLs
    rw [e1, h j hj, if_neg (by omega), if_pos (by omega), pcc, hx]
    unfold tw; rw [if_neg hg]
  · have e1 : vp_updL ct t (ct t + x) j = ct j := pk_uLn q
    rw [e1, h j hj]
    by_cases q2 : j < t
    · rw [if_pos q2, if_pos (by omega)]
    · rw [if_neg q2, if_neg (by omega)]
/-- the chains that end with c, when they are as long as the plan -/
def fin (G : Nat → Nat → Int) (T : Nat) (L e : Nat → Int) (s : Int) (c : Nat) (x : Int64) : Int64 := if cntB (trG G) c T = 0 ∧ e c + L c = s then x else 0
def chains (G : Nat → Nat → Int) (T : Nat) (L e : Nat → Int) (s : Int) : Int64 := smL (fun c => fin G T L e s c (cc G T L e c)) T
theorem cntB_pos {G : Nat → Nat → Int} {j t : Nat} (hg : ¬ G t j = -1) : ∀ {n}, t < n → cntB G j n ≠ 0
  | 0, h => absurd h (Nat.not_lt_zero _)
  | n + 1, h => by
    rw [cntB]
    rcases Nat.lt_or_ge t n with q | q
    · have := cntB_pos hg q; omega
    · have : t = n := by omega
      subst this; rw [if_neg hg]; omega
