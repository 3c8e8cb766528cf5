theorem ini_f {t k : Nat} {rb : Nat → Bool} (h : ¬ ((k : Nat) : Int) = ((t : Nat) : Int)) : upB (ini t rb k) k false = ini t rb (k + 1) := by
  rw [← ini_s, show (k == t) = false by simp; omega]
theorem ini_t {t k : Nat} {rb : Nat → Bool} (h : ((k : Nat) : Int) = ((t : Nat) : Int)) : upB (ini t rb k) k true = ini t rb (k + 1) := by
  rw [← ini_s, show (k == t) = true by simp; omega]
/-- longestTo, when the tasks below place pl stand -/
def LT1 (G : Nat → Nat → Int) (T : Nat) (L : Nat → Int) (od : Nat → Nat) (pl : Nat) (w : Nat → Int) : Prop := ∀ q, q < pl → w (od q) = es G T L (od q) + L (od q)
theorem LT1_0 {G : Nat → Nat → Int} {T : Nat} {L : Nat → Int} {od : Nat → Nat} {w : Nat → Int} : LT1 G T L od 0 w := fun q h => by omega
theorem LT1_pre {G : Nat → Nat → Int} {T : Nat} {L : Nat → Int} {od : Nat → Nat} {pl : Nat} {w : Nat → Int} (h : LT1 G T L od pl w) (htp : TOPO G T od) (hpl : pl < T) : ∀ i, i < T → G i (od pl) ≠ -1 → w i = es G T L i + L i := fun i hi hg => by
  obtain ⟨q, h1, h2⟩ := htp.2.2 pl hpl i hi hg
  rw [← h2]; exact h q h1
theorem LT1_val {G : Nat → Nat → Int} {T : Nat} {L : Nat → Int} {od : Nat → Nat} {pl : Nat} {w : Nat → Int} (hac : ACY G T) (h : LT1 G T L od pl w) (htp : TOPO G T od) (hpl : pl < T) : mxB G w (od pl) T = es G T L (od pl) := by
  rw [mxB_E (LT1_pre h htp hpl), ← es_fix hac (htp.1 pl hpl)]
theorem LT1_s {G : Nat → Nat → Int} {T : Nat} {L : Nat → Int} {od : Nat → Nat} {pl : Nat} {w : Nat → Int} {x : Int} (h : LT1 G T L od pl w) (htp : TOPO G T od) (hpl : pl < T) (hx : x = es G T L (od pl) + L (od pl)) : LT1 G T L od (pl + 1) (upZ w (od pl) x) := fun q hq => by
  by_cases c : q = pl
  · subst c; rw [upZ_s]; exact hx
  · rw [upZ_n (fun he => c (htp.2.1 q pl (by omega) hpl he))]; exact h q (by omega)
theorem LT1_T {G : Nat → Nat → Int} {T : Nat} {L : Nat → Int} {od : Nat → Nat} {pl : Nat} {w : Nat → Int} (h : LT1 G T L od pl w) (htp : TOPO G T od) (hpl : T ≤ pl) {j : Nat} (hj : j < T) : w j = es G T L j + L j := by
  obtain ⟨q, h1, h2⟩ := TOPO_onto htp hj
  rw [← h2]; exact h q (by omega)
/-- longestFrom, when the tasks from place q on stand -/
def LT2 (G : Nat → Nat → Int) (T : Nat) (L : Nat → Int) (od : Nat → Nat) (q : Nat) (w : Nat → Int) : Prop := ∀ p, q ≤ p → p < T → w (od p) = es (trG G) T L (od p) + L (od p)
theorem LT2_0 {G : Nat → Nat → Int} {T : Nat} {L : Nat → Int} {od : Nat → Nat} {w : Nat → Int} : LT2 G T L od T w := fun p h1 h2 => by omega
theorem LT2_pre {G : Nat → Nat → Int} {T : Nat} {L : Nat → Int} {od : Nat → Nat} {k : Nat} {w : Nat → Int} (h : LT2 G T L od (k + 1) w) (htp : TOPO G T od) (hk : k < T) : ∀ i, i < T → trG G i (od k) ≠ -1 → w i = es (trG G) T L i + L i := fun i hi hg => by
  obtain ⟨p, h1, h2⟩ := TOPO_onto htp hi
  subst h2
  obtain ⟨q, h3, h4⟩ := htp.2.2 p h1 (od k) (htp.1 k hk) hg
  have := htp.2.1 q k (by omega) hk h4
  exact h p (by omega) h1
theorem LT2_val {G : Nat → Nat → Int} {T : Nat} {L : Nat → Int} {od : Nat → Nat} {k : Nat} {w : Nat → Int} (hac : ACY G T) (h : LT2 G T L od (k + 1) w) (htp : TOPO G T od) (hk : k < T) : mxB (trG G) w (od k) T = es (trG G) T L (od k) := by
  rw [mxB_E (LT2_pre h htp hk), ← es_fix (ACY_tr hac) (htp.1 k hk)]
theorem LT2_s {G : Nat → Nat → Int} {T : Nat} {L : Nat → Int} {od : Nat → Nat} {k : Nat} {w : Nat → Int} {x : Int} (h : LT2 G T L od (k + 1) w) (htp : TOPO G T od) (hk : k < T) (hx : x = es (trG G) T L (od k) + L (od k)) : LT2 G T L od k (upZ w (od k) x) := fun p h1 h2 => by
  by_cases c : p = k
  · subst c; rw [upZ_s]; exact hx
  · rw [upZ_n (fun he => c (htp.2.1 p k h2 hk he))]; exact h p (by omega) h2
theorem LT2_T {G : Nat → Nat → Int} {T : Nat} {L : Nat → Int} {od : Nat → Nat} {w : Nat → Int} (h : LT2 G T L od 0 w) (htp : TOPO G T od) {j : Nat} (hj : j < T) : w j = es (trG G) T L j + L j := by
  obtain ⟨p, h1, h2⟩ := TOPO_onto htp hj
  rw [← h2]; exact h p (Nat.zero_le p) h1
def srcF (G : Nat → Nat → Int) (T k : Nat) (ct : Nat → Int64) : Nat → Int64 := fun j => if j < k then src G T j else ct j
theorem srcF_s {G : Nat → Nat → Int} {T k : Nat} {ct : Nat → Int64} {x : Int64} (hx : x = src G T k) : vp_updL (srcF G T k ct) k x = srcF G T (k + 1) ct := by
  funext j
  unfold vp_updL srcF
  by_cases q : j = k
  · subst q; rw [if_pos rfl, if_pos (by omega), hx]
  · rw [if_neg q]
    by_cases q2 : j < k
    · rw [if_pos q2, if_pos (by omega)]
    · rw [if_neg q2, if_neg (by omega)]
theorem srcF_0 {G : Nat → Nat → Int} {T : Nat} {ct : Nat → Int64} : ct = srcF G T 0 ct := by funext j; exact (if_neg (Nat.not_lt_zero j)).symm
theorem PC_0 {G : Nat → Nat → Int} {T k : Nat} {L e : Nat → Int} {od : Nat → Nat} {ct : Nat → Int64} (hk : T ≤ k) : PC G T L e od 0 0 (srcF G T k ct) := fun j hj => by
  rw [if_neg (Nat.not_lt_zero j), pcc]; exact if_pos (by omega)
def finP (G : Nat → Nat → Int) (T : Nat) (L e : Nat → Int) (s : Int) (od : Nat → Nat) (n : Nat) : Int64 := smL (fun q => fin G T L e s (od q) (cc G T L e (od q))) n
theorem finP_T {G : Nat → Nat → Int} {T : Nat} {L e : Nat → Int} {s : Int} {od : Nat → Nat} (htp : TOPO G T od) {n : Nat} (h1 : n ≤ T) (h2 : T ≤ n) : finP G T L e s od n = chains G T L e s := by
  have e1 : n = T := by omega
  subst e1
  exact smL_od htp (fun c => fin G n L e s c (cc G n L e c))
theorem PC_od {G : Nat → Nat → Int} {T : Nat} {L e : Nat → Int} {od : Nat → Nat} {pl t : Nat} {ct : Nat → Int64} (hac : ACY G T) (htp : TOPO G T od) (hpl : pl < T) (h : PC G T L e od pl t ct) : ct (od pl) = cc G T L e (od pl) := by
  rw [h _ (htp.1 pl hpl)]
  by_cases q : od pl < t
  · rw [if_pos q, pcc, pcc_od hac htp hpl]
    have : tw G L e (od pl) (od pl) (cc G T L e (od pl)) = 0 := by
      unfold tw
      by_cases hg : G (od pl) (od pl) = -1
      · rw [if_pos hg]
      · obtain ⟨q', h1, h2⟩ := htp.2.2 pl hpl (od pl) (htp.1 pl hpl) hg
        have := htp.2.1 q' pl (by omega) hpl h2
        omega
    rw [this, Int64.add_zero]
  · rw [if_neg q, pcc_od hac htp hpl]
theorem finP_s {G : Nat → Nat → Int} {T : Nat} {L e : Nat → Int} {s : Int} {od : Nat → Nat} {n : Nat} {q x : Int64} (hq : q = finP G T L e s od n) (hx : x = fin G T L e s (od n) (cc G T L e (od n))) : q + x = finP G T L e s od (n + 1) := by
  rw [hq, hx]; rfl
