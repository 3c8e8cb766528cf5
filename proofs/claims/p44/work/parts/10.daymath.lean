def FE (G : Nat → Nat → Int) (T : Nat) (L : Nat → Int) (od : Nat → Nat) (pl t : Nat) (e : Nat → Int) : Prop := ∀ j, j < T → e j = pmax G L (es G T L) od j (if j < t then pl + 1 else pl)
def FO (G : Nat → Nat → Int) (T : Nat) (L : Nat → Int) (od : Nat → Nat) (pl : Nat) (e : Nat → Int) : Prop := ∀ j, j < T → e j = pmax G L (es G T L) od j pl
theorem FO_0 {G : Nat → Nat → Int} {T : Nat} {L : Nat → Int} {od : Nat → Nat} : FO G T L od 0 (fun _ => 0) := fun _ _ => rfl
theorem FO_FE {G : Nat → Nat → Int} {T : Nat} {L : Nat → Int} {od : Nat → Nat} {pl : Nat} {e : Nat → Int} (h : FO G T L od pl e) : FE G T L od pl 0 e := fun j hj => by rw [if_neg (by omega)]; exact h j hj
theorem FE_FO {G : Nat → Nat → Int} {T t : Nat} {L : Nat → Int} {od : Nat → Nat} {pl : Nat} {e : Nat → Int} (h : FE G T L od pl t e) (ht : T ≤ t) : FO G T L od (pl + 1) e := fun j hj => by have := h j hj; rw [if_pos (by omega)] at this; exact this
theorem FE_skip {G : Nat → Nat → Int} {T t : Nat} {L : Nat → Int} {od : Nat → Nat} {pl : Nat} {e : Nat → Int} (h : FE G T L od pl t e) (hg : G (od pl) t = -1) : FE G T L od pl (t + 1) e := fun j hj => by
  rw [h j hj]
  by_cases q : j = t
  · subst q
    rw [if_neg (by omega), if_pos (by omega), pmax, if_pos hg]
  · by_cases q2 : j < t
    · rw [if_pos q2, if_pos (by omega)]
    · rw [if_neg q2, if_neg (by omega)]
theorem FE_step {G : Nat → Nat → Int} {T t : Nat} {L : Nat → Int} {od : Nat → Nat} {pl : Nat} {e : Nat → Int} (h : FE G T L od pl t e) (ht : t < T) (hg : ¬ G (od pl) t = -1) : FE G T L od pl (t + 1) (upZ e t (max (e t) (es G T L (od pl) + L (od pl) + G (od pl) t))) := fun j hj => by
  by_cases q : j = t
  · subst q
    rw [upZ_s, h j hj, if_neg (by omega), if_pos (by omega), pmax, if_neg hg]
  · rw [upZ_n q, h j hj]
    by_cases q2 : j < t
    · rw [if_pos q2, if_pos (by omega)]
    · rw [if_neg q2, if_neg (by omega)]
theorem FE_rng {G : Nat → Nat → Int} {T t : Nat} {L : Nat → Int} {od : Nat → Nat} {pl : Nat} {e : Nat → Int} (h : FE G T L od pl t e) (hT : T ≤ 20) (hG : GOK G) (hL : LOK T L) (htp : TOPO G T od) (hpl : pl < T) {j : Nat} (hj : j < T) : 0 ≤ e j ∧ e j ≤ 4200 := by
  rw [h j hj]
  exact ⟨pmax_0 _, pmax_le hT hG hL htp hj (by split <;> omega)⟩
theorem FE_end {G : Nat → Nat → Int} {T : Nat} {L : Nat → Int} {od : Nat → Nat} {pl : Nat} {e : Nat → Int} {s : Int} (hac : ACY G T) (htp : TOPO G T od) (h : FO G T L od pl e) (hs : s = spP L (es G T L) od pl) (h1 : pl ≤ T) (h2 : T ≤ pl) : (∀ j, j < T → e j = es G T L j) ∧ s = span G T L := by
  have e1 : pl = T := by omega
  subst e1
  exact ⟨fun j hj => by rw [h j hj]; exact pmax_T hac htp hj, by rw [hs]; exact spP_T htp⟩
/-- the latest starts of the tasks from place q on stand -/
def FL (G : Nat → Nat → Int) (T : Nat) (L : Nat → Int) (od : Nat → Nat) (q : Nat) (f : Nat → Int) : Prop := ∀ p, q ≤ p → p < T → f (od p) = lst G T L (od p)
theorem FL_T {G : Nat → Nat → Int} {T : Nat} {L : Nat → Int} {od : Nat → Nat} {f : Nat → Int} : FL G T L od T f := fun p h1 h2 => by omega
theorem FL_at {G : Nat → Nat → Int} {T k t : Nat} {L : Nat → Int} {od : Nat → Nat} {f : Nat → Int} (h : FL G T L od (k + 1) f) (htp : TOPO G T od) (hk : k < T) (ht : t < T) (hg : ¬ G (od k) t = -1) : f t = lst G T L t := by
  obtain ⟨p, h1, h2⟩ := TOPO_onto htp ht
  subst h2
  obtain ⟨q, h3, h4⟩ := htp.2.2 p h1 (od k) (htp.1 k hk) hg
  have := htp.2.1 q k (by omega) hk h4
  exact h p (by omega) h1
theorem FL_step {G : Nat → Nat → Int} {T k : Nat} {L : Nat → Int} {od : Nat → Nat} {f : Nat → Int} {x : Int} (h : FL G T L od (k + 1) f) (htp : TOPO G T od) (hk : k < T) (hx : x = lst G T L (od k)) : FL G T L od k (upZ f (od k) x) := fun p h1 h2 => by
  by_cases q : p = k
  · subst q; rw [upZ_s]; exact hx
  · rw [upZ_n (fun he => q (htp.2.1 p k h2 hk he))]
    exact h p (by omega) h2
theorem FL_all {G : Nat → Nat → Int} {T : Nat} {L : Nat → Int} {od : Nat → Nat} {f : Nat → Int} (h : FL G T L od 0 f) (htp : TOPO G T od) : ∀ j, j < T → f j = lst G T L j := fun j hj => by
  obtain ⟨p, h1, h2⟩ := TOPO_onto htp hj
  subst h2
  exact h p (Nat.zero_le p) h1
/-- the latest end that the tasks behind c (those below t) leave to it -/
def enF (G : Nat → Nat → Int) (T : Nat) (L : Nat → Int) (c t : Nat) : Int := span G T L - maxE (trG G) L (es (trG G) T L) c t
theorem enF_0 {G : Nat → Nat → Int} {T : Nat} {L : Nat → Int} {c : Nat} : enF G T L c 0 = span G T L := by unfold enF; rw [maxE]; omega
theorem enF_skip {G : Nat → Nat → Int} {T : Nat} {L : Nat → Int} {c t : Nat} (hg : G c t = -1) : enF G T L c (t + 1) = enF G T L c t := by
  unfold enF; rw [maxE, if_pos (show trG G t c = -1 from hg)]
theorem enF_step {G : Nat → Nat → Int} {T : Nat} {L : Nat → Int} {c t : Nat} (hg : ¬ G c t = -1) : enF G T L c (t + 1) = min (enF G T L c t) (lst G T L t - G c t) := by
  unfold enF; rw [maxE, if_neg (show ¬ trG G t c = -1 from hg)]
  show span G T L - max _ (es (trG G) T L t + L t + G c t) = min _ (span G T L - L t - es (trG G) T L t - G c t)
  omega
theorem enF_T {G : Nat → Nat → Int} {T : Nat} {L : Nat → Int} {c : Nat} (hac : ACY G T) (hc : c < T) : enF G T L c T - L c = lst G T L c := by
  unfold enF lst; rw [← es_fix (ACY_tr hac) hc]; omega
theorem enF_rng {G : Nat → Nat → Int} {T : Nat} {L : Nat → Int} (hT : T ≤ 20) (hG : GOK G) (hL : LOK T L) {c t : Nat} (hc : c < T) (ht : t ≤ T) : -5000 ≤ enF G T L c t ∧ enF G T L c t ≤ 5000 := by
  have a := span_le hT hG hL
  have b := span_0 (G := G) (T := T) (L := L)
  have c0 := maxE_0 (G := trG G) (L := L) (e := es (trG G) T L) (j := c) t
  have c1 : maxE (trG G) L (es (trG G) T L) c t ≤ 4200 := by
    rcases maxE_at (G := trG G) (L := L) (e := es (trG G) T L) (j := c) t with h | ⟨i, h1, h2, h3⟩
    · omega
    · have d := es_le hT (trG_ok hG) hL (show i < T by omega)
      have f := hL i (by omega)
      have g := trG_ok hG i c (by omega) (by omega)
      omega
  unfold enF; omega
/-- the free slack of c, as the tasks below t leave it -/
def frF (G : Nat → Nat → Int) (T : Nat) (L : Nat → Int) (c : Nat) : Nat → Int
  | 0 => span G T L - (es G T L c + L c)
  | t + 1 => if G c t = -1 then frF G T L c t else min (frF G T L c t) (es G T L t - G c t - (es G T L c + L c))
theorem frF_rng {G : Nat → Nat → Int} {T : Nat} {L : Nat → Int} (hT : T ≤ 20) (hG : GOK G) (hL : LOK T L) {c : Nat} (hc : c < T) : ∀ t, t ≤ T → -20000 ≤ frF G T L c t ∧ frF G T L c t ≤ 20000
  | 0, _ => by
    have a := span_le hT hG hL
    have b := span_0 (G := G) (T := T) (L := L)
    have d := es_le hT hG hL hc
    have d0 := es_0 (G := G) (T := T) (L := L) c
    have f := hL c hc
    rw [frF]; omega
  | t + 1, ht => by
    have ih := frF_rng hT hG hL hc t (by omega)
    have d := es_le hT hG hL hc
    have d0 := es_0 (G := G) (T := T) (L := L) c
    have f := hL c hc
    have g := es_le hT hG hL (show t < T by omega)
    have g0 := es_0 (G := G) (T := T) (L := L) t
    have k := hG c t (by omega) (by omega)
    rw [frF]
    split <;> omega
theorem frF_cong {G : Nat → Nat → Int} {T : Nat} {L L' : Nat → Int} {c : Nat} : True := trivial
theorem nI_dec (n : Nat) : nI n + Int32.ofInt (-1) = iZ ((n : Int) - 1) := by rw [iZ_n]; exact iZ_add _ _
