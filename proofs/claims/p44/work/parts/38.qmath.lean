/-! the plan, as the law looks at it: sums and links -/
theorem dsum_le {f g : Nat → Int} : ∀ {n}, (∀ i, i < n → f i ≤ g i) → dsum f n ≤ dsum g n
  | 0, _ => Int.le_refl 0
  | n + 1, h => by
    have a := dsum_le (n := n) (fun i hi => h i (by omega))
    have b := h n (by omega)
    rw [dsum, dsum]; omega
theorem dsum_nn {f : Nat → Int} : ∀ {n}, (∀ i, i < n → 0 ≤ f i) → 0 ≤ dsum f n
  | 0, _ => Int.le_refl 0
  | n + 1, h => by
    have a := dsum_nn (n := n) (fun i hi => h i (by omega))
    have b := h n (by omega)
    rw [dsum]; omega
theorem dsum_at {f : Nat → Int} {k : Nat} : ∀ {n}, (∀ i, i < n → 0 ≤ f i) → k < n → f k ≤ dsum f n
  | 0, _, h => absurd h (Nat.not_lt_zero _)
  | n + 1, h, hk => by
    have b := h n (by omega)
    rw [dsum]
    by_cases q : k = n
    · subst q
      have a := dsum_nn (n := k) (fun i hi => h i (by omega))
      omega
    · have a := dsum_at (n := n) (fun i hi => h i (by omega)) (show k < n by omega)
      omega
theorem dsum_cut {f : Nat → Int} {n : Nat} : ∀ {m}, n ≤ m → (∀ i, n ≤ i → i < m → f i = 0) → dsum f m = dsum f n
  | 0, h, _ => by rw [show n = 0 by omega]
  | m + 1, h, hz => by
    by_cases q : n = m + 1
    · rw [q]
    · rw [dsum, dsum_cut (m := m) (by omega) (fun i a b => hz i a (by omega)), hz m (by omega) (by omega)]; omega
theorem dsum_swap (f : Nat → Nat → Int) (m : Nat) : ∀ n, dsum (fun i => dsum (fun j => f i j) m) n = dsum (fun j => dsum (fun i => f i j) n) m
  | 0 => (dsum_z m).symm
  | n + 1 => by
    have e : (fun j => dsum (fun i => f i j) (n + 1)) = fun j => dsum (fun i => f i j) n + f n j := rfl
    rw [e, dsum_add, ← dsum_swap f m n, dsum]
theorem lnkN_blk (G : Nat → Nat → Int) : ∀ m k, k ≤ 20 → lnkN G (20 * m + k) = dsum (fun a => dsum (fun b => isD G a b) 20) m + dsum (fun b => isD G m b) k := by
  intro m
  induction m with
  | zero =>
    intro k
    induction k with
    | zero => intro _; rfl
    | succ k ih =>
      intro hk
      have a := ih (by omega)
      rw [show 20 * 0 + (k + 1) = (20 * 0 + k) + 1 by omega, lnkN, a, show (20 * 0 + k) / 20 = 0 by omega, show (20 * 0 + k) % 20 = k by omega]
      rw [show dsum (fun b => isD G 0 b) (k + 1) = dsum (fun b => isD G 0 b) k + isD G 0 k from rfl]; omega
  | succ m ihm =>
    intro k
    induction k with
    | zero =>
      intro _
      have a := ihm 20 (by omega)
      rw [show 20 * (m + 1) + 0 = 20 * m + 20 by omega, a]
      show _ = (dsum (fun a => dsum (fun b => isD G a b) 20) m + dsum (fun b => isD G m b) 20) + 0
      omega
    | succ k ih =>
      intro hk
      have a := ih (by omega)
      rw [show 20 * (m + 1) + (k + 1) = (20 * (m + 1) + k) + 1 by omega, lnkN, a, show (20 * (m + 1) + k) / 20 = m + 1 by omega, show (20 * (m + 1) + k) % 20 = k by omega]
      rw [show dsum (fun b => isD G (m + 1) b) (k + 1) = dsum (fun b => isD G (m + 1) b) k + isD G (m + 1) k from rfl]; omega
theorem cntB_ds (G : Nat → Nat → Int) (j : Nat) : ∀ n, ((cntB G j n : Nat) : Int) = dsum (fun i => isD G i j) n
  | 0 => rfl
  | n + 1 => by
    rw [cntB, dsum, ← cntB_ds G j n]
    unfold isD
    split <;> simp
/-- how many dependencies lead to the tasks below k -/
def lkS (G : Nat → Nat → Int) (T : Nat) : Nat → Nat
  | 0 => 0
  | n + 1 => lkS G T n + cntB G n T
theorem lkS_ds (G : Nat → Nat → Int) (T : Nat) : ∀ n, ((lkS G T n : Nat) : Int) = dsum (fun j => dsum (fun i => isD G i j) T) n
  | 0 => rfl
  | n + 1 => by
    rw [lkS, dsum, ← lkS_ds G T n, ← cntB_ds G n T]; omega
theorem lkS_T {G : Nat → Nat → Int} {T : Nat} (hT : T ≤ 20) (hGo : ∀ i j, i < 20 → j < 20 → G i j ≠ -1 → i < T ∧ j < T) : ((lkS G T T : Nat) : Int) = lnk G := by
  have z : ∀ i j, i < 20 → j < 20 → (T ≤ i ∨ T ≤ j) → isD G i j = 0 := fun i j hi hj hc => by
    unfold isD
    by_cases q : G i j = -1
    · rw [if_pos q]
    · have := hGo i j hi hj q; omega
  have b := lnkN_blk G 20 0 (by omega)
  unfold lnk
  rw [show (400 : Nat) = 20 * 20 + 0 from rfl, b, lkS_ds]
  show _ = dsum (fun a => dsum (fun b => isD G a b) 20) 20 + 0
  rw [dsum_swap (fun a b => isD G a b) 20 20]
  rw [dsum_cut (f := fun j => dsum (fun i => isD G i j) 20) hT (fun j h1 h2 => by
    rw [dsum_cut (f := fun i => isD G i j) (n := 0) (Nat.zero_le _) (fun i _ h => z i j h h2 (Or.inr h1))]; rfl)]
  rw [Int.add_zero]
  exact dsum_cong (fun j hj => (dsum_cut (f := fun i => isD G i j) hT (fun i h1 h2 => z i j h2 (by omega) (Or.inl h1))).symm)
theorem lkS_le {G : Nat → Nat → Int} {T : Nat} : ∀ n, lkS G T n ≤ T * n
  | 0 => Nat.zero_le _
  | n + 1 => by
    have a := lkS_le (G := G) (T := T) n
    have b := cntB_le G n T
    rw [lkS, Nat.mul_succ]; omega
theorem no_self {G : Nat → Nat → Int} {T : Nat} (hac : ACY G T) {k : Nat} (hk : k < T) : G k k = -1 := by
  obtain ⟨rk, h⟩ := hac
  by_cases q : G k k = -1
  · exact q
  · exact absurd (h k k hk hk q) (Nat.lt_irrefl _)
/-! one step of the law's inner loop -/
theorem due_s {G : Nat → Nat → Int} {L e : Nat → Int} {k j : Nat} {due dy : Int} (h1 : due = maxE G L e k j) (h2 : dy = if G j k = -1 then 0 else e j + L j + G j k) : max due dy = maxE G L e k (j + 1) := by
  have := maxE_0 (G := G) (L := L) (e := e) (j := k) j
  rw [maxE, h2, ← h1]
  rw [← h1] at this
  split <;> omega
theorem enF_le {G : Nat → Nat → Int} {T : Nat} {L : Nat → Int} {c t : Nat} : enF G T L c t ≤ span G T L := by
  have := maxE_0 (G := trG G) (L := L) (e := es (trG G) T L) (j := c) t
  unfold enF; omega
theorem last_s {G : Nat → Nat → Int} {T : Nat} {L : Nat → Int} {k j : Nat} {la bh : Int} (h1 : la = enF G T L k j) (h2 : bh = if G k j = -1 then span G T L else lst G T L j - G k j) : min la bh = enF G T L k (j + 1) := by
  by_cases q : G k j = -1
  · rw [if_pos q] at h2
    have := enF_le (G := G) (T := T) (L := L) (c := k) (t := j)
    rw [enF_skip q]; omega
  · rw [if_neg q] at h2
    rw [enF_step q, h1, h2]
theorem free_s {G : Nat → Nat → Int} {T : Nat} {L : Nat → Int} {k j : Nat} {fr gp : Int} (h1 : fr = frF G T L k j) (h2 : gp = if G k j = -1 then fr else es G T L j - G k j - (es G T L k + L k)) : min fr gp = frF G T L k (j + 1) := by
  rw [frF]
  split
  · rename_i q
    rw [if_pos q] at h2; omega
  · rename_i q
    rw [if_neg q] at h2; rw [h2, h1]
theorem slack_nn {G : Nat → Nat → Int} {T : Nat} {L : Nat → Int} (hac : ACY G T) {t : Nat} (ht : t < T) : 0 ≤ lst G T L t - es G T L t := by
  have := es_thru (L := L) hac t ht
  unfold lst; omega
/-! critical tasks, and their chains -/
theorem crtN_pos {e f : Nat → Int} {k : Nat} : ∀ {n}, k < n → f k - e k = 0 → 0 < crtN e f n
  | 0, h, _ => absurd h (Nat.not_lt_zero _)
  | n + 1, h, hz => by
    rw [crtN]
    by_cases q : k = n
    · subst q; rw [if_pos hz]; omega
    · have := crtN_pos (n := n) (by omega) hz; omega
theorem crit_ex {G : Nat → Nat → Int} {T : Nat} {L : Nat → Int} (hL : LOK T L) (h : 0 < T) : ∃ c, c < T ∧ es G T L c + L c = span G T L := by
  rcases spE_at (L := L) (e := es G T L) T with k | ⟨i, hi, k⟩
  · have a : span G T L = 0 := k
    have b : es G T L 0 + L 0 ≤ span G T L := spE_ge h
    have c := es_0 (G := G) (T := T) (L := L) 0
    have d := hL 0 h
    exact ⟨0, h, by omega⟩
  · exact ⟨i, hi, k.symm⟩
theorem crit_pos {G : Nat → Nat → Int} {T : Nat} {L : Nat → Int} (hac : ACY G T) (hL : LOK T L) (h : 0 < T) : 0 < crtN (es G T L) (lst G T L) T := by
  obtain ⟨c, hc, e⟩ := crit_ex (G := G) hL h
  refine crtN_pos hc ?_
  have a := slack_nn (L := L) hac hc
  have b := es_0 (G := trG G) (T := T) (L := L) c
  unfold lst at a ⊢; omega
theorem cntB_ex {G : Nat → Nat → Int} {j : Nat} : ∀ {n}, cntB G j n ≠ 0 → ∃ i, i < n ∧ G i j ≠ -1
  | 0, h => absurd rfl h
  | n + 1, h => by
    by_cases q : G n j = -1
    · rw [cntB, if_pos q] at h
      obtain ⟨i, hi, hg⟩ := cntB_ex (n := n) h
      exact ⟨i, by omega, hg⟩
    · exact ⟨n, by omega, q⟩
theorem sink_ex {G : Nat → Nat → Int} {T : Nat} {L : Nat → Int} (hT : T ≤ 20) (hG : GOK G) (hac : ACY G T) (hL : LOK T L) (h : 0 < T) : ∃ c, c < T ∧ cntB (trG G) c T = 0 ∧ es G T L c + L c = span G T L := by
  obtain ⟨rk, hr1, hr⟩ := ACY_norm hac
  have key : ∀ n c, c < T → T ≤ rk c + n → es G T L c + L c = span G T L → ∃ c, c < T ∧ cntB (trG G) c T = 0 ∧ es G T L c + L c = span G T L := by
    intro n
    induction n with
    | zero => intro c hc hn _; have := hr1 c hc; omega
    | succ n ih =>
      intro c hc hn he
      by_cases q : cntB (trG G) c T = 0
      · exact ⟨c, hc, q, he⟩
      · obtain ⟨j, hj, hg⟩ := cntB_ex q
        have hg2 : G c j ≠ -1 := hg
        have a := hr c j hc hj hg2
        have b := es_ge (L := L) hac hc hj hg2
        have d : es G T L j + L j ≤ span G T L := spE_ge hj
        have f := hL j hj
        have g := hG c j (by omega) (by omega)
        exact ih j hj (by omega) (by omega)
  obtain ⟨c, hc, e⟩ := crit_ex (G := G) hL h
  exact key T c hc (by omega) e
/-- powers of two -/
def pw : Nat → Int
  | 0 => 1
  | n + 1 => 2 * pw n
theorem pw_1 : ∀ n, 1 ≤ pw n
  | 0 => Int.le_refl 1
  | n + 1 => by have := pw_1 n; rw [pw]; omega
theorem pw_mono {m : Nat} : ∀ {n}, m ≤ n → pw m ≤ pw n
  | 0, h => by rw [show m = 0 by omega]; exact Int.le_refl _
  | n + 1, h => by
    by_cases q : m = n + 1
    · rw [q]; exact Int.le_refl _
    · have a := pw_mono (m := m) (n := n) (by omega)
      have b := pw_1 n
      rw [pw]; omega
theorem dsum_one {c : Nat → Prop} [DecidablePred c] {x : Int} (hx : 0 ≤ x) : ∀ {n}, (∀ i j, i < n → j < n → c i → c j → i = j) → dsum (fun i => if c i then x else 0) n ≤ x := by
  intro n
  have key : ∀ n, (∀ i j, i < n → j < n → c i → c j → i = j) → dsum (fun i => if c i then x else 0) n = 0 ∨ (dsum (fun i => if c i then x else 0) n = x ∧ ∃ i, i < n ∧ c i) := by
    intro n
    induction n with
    | zero => intro _; exact Or.inl rfl
    | succ n ih =>
      intro h
      have e : dsum (fun i => if c i then x else 0) (n + 1) = dsum (fun i => if c i then x else 0) n + (if c n then x else 0) := rfl
      rw [e]
      by_cases q : c n
      · rw [if_pos q]
        rcases ih (fun i j hi hj => h i j (by omega) (by omega)) with k | ⟨k, i, hi, hc⟩
        · exact Or.inr ⟨by omega, n, by omega, q⟩
        · have := h i n (by omega) (by omega) hc q; omega
      · rw [if_neg q]
        rcases ih (fun i j hi hj => h i j (by omega) (by omega)) with k | ⟨k, i, hi, hc⟩
        · exact Or.inl (by omega)
        · exact Or.inr ⟨by omega, i, by omega, hc⟩
  intro h
  rcases key n h with k | ⟨k, -⟩ <;> omega
theorem dsum_pw {r : Nat → Nat} {T : Nat} (hi : ∀ i j, i < T → j < T → r i = r j → i = j) : ∀ n, dsum (fun i => if r i < n then pw (r i) else 0) T ≤ pw n - 1
  | 0 => by
    rw [show (fun i => if r i < 0 then pw (r i) else 0) = fun _ => (0 : Int) from funext fun i => if_neg (Nat.not_lt_zero _), dsum_z]
    exact Int.le_refl 0
  | n + 1 => by
    have a := dsum_pw hi n
    have e : ∀ i, i < T → (if r i < n + 1 then pw (r i) else 0) = (if r i < n then pw (r i) else 0) + (if r i = n then pw n else 0) := fun i _ => by
      by_cases q : r i = n
      · rw [if_pos (by omega), if_neg (by omega), if_pos q, q]; omega
      · rw [if_neg q]
        by_cases q2 : r i < n
        · rw [if_pos (by omega), if_pos q2]; omega
        · rw [if_neg (by omega), if_neg q2]; omega
    rw [dsum_cong e, dsum_add]
    have b := dsum_one (c := fun i => r i = n) (x := pw n) (by have := pw_1 n; omega) (n := T) (fun i j h1 h2 h3 h4 => hi i j h1 h2 (h3.trans h4.symm))
    rw [pw]; omega
/-- an order of the tasks -/
theorem ACY_inj {G : Nat → Nat → Int} {T : Nat} (hT : T ≤ 20) (h : ACY G T) : ∃ r : Nat → Nat, (∀ j, j < T → r j < T) ∧ (∀ i j, i < T → j < T → r i = r j → i = j) ∧ ∀ i j, i < T → j < T → G i j ≠ -1 → r i < r j := by
  obtain ⟨rk, hr⟩ := h
  refine ⟨fun j => rkN (fun i => rk i * 20 + i) j T, fun j hj => rkN_self hj, fun i j hi hj he => ?_, fun i j hi hj hg => rkN_lt (by have := hr i j hi hj hg; omega) hi⟩
  have he : rkN (fun i => rk i * 20 + i) i T = rkN (fun i => rk i * 20 + i) j T := he
  by_cases q : rk i * 20 + i < rk j * 20 + j
  · have := rkN_lt (rk := fun i => rk i * 20 + i) q hi; omega
  · by_cases q2 : rk j * 20 + j < rk i * 20 + i
    · have := rkN_lt (rk := fun i => rk i * 20 + i) q2 hj; omega
    · omega
theorem smL_toI {f : Nat → Int64} : ∀ {n}, (∀ i, i < n → 0 ≤ (f i).toInt) → dsum (fun i => (f i).toInt) n < 2 ^ 62 → (smL f n).toInt = dsum (fun i => (f i).toInt) n
  | 0, _, _ => Int64.toInt_zero
  | n + 1, h, hb => by
    have e : dsum (fun i => (f i).toInt) (n + 1) = dsum (fun i => (f i).toInt) n + (f n).toInt := rfl
    have a := h n (by omega)
    have b := dsum_nn (f := fun i => (f i).toInt) (n := n) (fun i hi => h i (by omega))
    rw [e] at hb
    have ih := smL_toI (f := f) (n := n) (fun i hi => h i (by omega)) (by omega)
    rw [smL, e, Int64.toInt_add, ih]
    exact Int.bmod_eq_of_le (by omega) (by omega)
theorem tw_toI {G : Nat → Nat → Int} {L e : Nat → Int} {i j : Nat} {x : Int64} : (tw G L e i j x).toInt = if G i j ≠ -1 ∧ e j = e i + L i + G i j then x.toInt else 0 := by
  unfold tw
  by_cases q : G i j = -1
  · rw [if_pos q, if_neg (fun h => h.1 q)]; exact Int64.toInt_zero
  · rw [if_neg q]
    by_cases q2 : e j = e i + L i + G i j
    · rw [if_pos q2, if_pos ⟨q, q2⟩]
    · rw [if_neg q2, if_neg (fun h => q2 h.2)]; exact Int64.toInt_zero
theorem cc_rng {G : Nat → Nat → Int} {T : Nat} {L : Nat → Int} (hT : T ≤ 20) (hG : GOK G) (hac : ACY G T) (hL : LOK T L) {r : Nat → Nat} (hr1 : ∀ j, j < T → r j < T) (hi : ∀ i j, i < T → j < T → r i = r j → i = j) (hr : ∀ i j, i < T → j < T → G i j ≠ -1 → r i < r j) : ∀ j, j < T → 1 ≤ (cc G T L (es G T L) j).toInt ∧ (cc G T L (es G T L) j).toInt ≤ pw (r j) := by
  have key : ∀ n j, r j < n → j < T → 1 ≤ (cc G T L (es G T L) j).toInt ∧ (cc G T L (es G T L) j).toInt ≤ pw (r j) := by
    intro n
    induction n with
    | zero => intro j h; exact absurd h (Nat.not_lt_zero _)
    | succ n ih =>
      intro j hn hj
      have hp := pw_mono (m := r j) (n := 20) (by have := hr1 j hj; omega)
      have hp20 : pw 20 = 1048576 := by decide
      have hp1 := pw_1 (r j)
      have hterm : ∀ i, i < T → 0 ≤ (tw G L (es G T L) i j (cc G T L (es G T L) i)).toInt ∧ (tw G L (es G T L) i j (cc G T L (es G T L) i)).toInt ≤ (if r i < r j then pw (r i) else 0) := fun i hi2 => by
        rw [tw_toI]
        by_cases q : G i j ≠ -1 ∧ es G T L j = es G T L i + L i + G i j
        · have a := hr i j hi2 hj q.1
          have b := ih i (by omega) hi2
          rw [if_pos q, if_pos a]; omega
        · rw [if_neg q]
          have := pw_1 (r i)
          split <;> omega
      have hsum : dsum (fun i => (tw G L (es G T L) i j (cc G T L (es G T L) i)).toInt) T ≤ pw (r j) - 1 := by
        have a := dsum_le (n := T) (fun i hi2 => (hterm i hi2).2)
        have b := dsum_pw hi (r j)
        omega
      have hs := smL_toI (n := T) (fun i hi2 => (hterm i hi2).1) (by omega)
      have hnn := dsum_nn (n := T) (fun i hi2 => (hterm i hi2).1)
      have hadd : (cc G T L (es G T L) j).toInt = (src G T j).toInt + dsum (fun i => (tw G L (es G T L) i j (cc G T L (es G T L) i)).toInt) T := by
        have hsr : (src G T j).toInt = 0 ∨ (src G T j).toInt = 1 := by
          unfold src
          split
          · exact Or.inr (by decide)
          · exact Or.inl Int64.toInt_zero
        rw [cc_fix hac hj, Int64.toInt_add, hs]
        exact Int.bmod_eq_of_le (by omega) (by omega)
      rw [hadd]
      by_cases q : cntB G j T = 0
      · have s1 : (src G T j).toInt = 1 := by unfold src; rw [if_pos q]; decide
        have z : dsum (fun i => (tw G L (es G T L) i j (cc G T L (es G T L) i)).toInt) T = 0 := by
          rw [dsum_cong (g := fun _ => 0) (fun i hi2 => by
            rw [tw_toI, if_neg (fun h => cntB_pos h.1 hi2 q)]), dsum_z]
        rw [s1, z]; omega
      · have s0 : (src G T j).toInt = 0 := by unfold src; rw [if_neg q]; exact Int64.toInt_zero
        have ht : ∃ i, i < T ∧ G i j ≠ -1 ∧ es G T L j = es G T L i + L i + G i j := by
          rcases es_at (L := L) hac hj with h | h
          · obtain ⟨i, hi2, hg⟩ := cntB_ex q
            have a := es_ge (L := L) hac hi2 hj hg
            have b := es_0 (G := G) (T := T) (L := L) i
            have c := hL i hi2
            have d := hG i j (by omega) (by omega)
            exact ⟨i, hi2, hg, by omega⟩
          · exact h
        obtain ⟨i, hi2, hg, he⟩ := ht
        have a := dsum_at (k := i) (n := T) (fun i hi2 => (hterm i hi2).1) hi2
        have b : (tw G L (es G T L) i j (cc G T L (es G T L) i)).toInt = (cc G T L (es G T L) i).toInt := by rw [tw_toI, if_pos ⟨hg, he⟩]
        have c := (ih i (by have := hr i j hi2 hj hg; omega) hi2).1
        have a2 : (tw G L (es G T L) i j (cc G T L (es G T L) i)).toInt ≤ dsum (fun i => (tw G L (es G T L) i j (cc G T L (es G T L) i)).toInt) T := a
        rw [s0]; omega
  exact fun j hj => key (r j + 1) j (by omega) hj
theorem chains_pos {G : Nat → Nat → Int} {T : Nat} {L : Nat → Int} (hT : T ≤ 20) (hG : GOK G) (hac : ACY G T) (hL : LOK T L) (h : 0 < T) : (0 : Int64) < chains G T L (es G T L) (span G T L) := by
  obtain ⟨r, hr1, hi, hr⟩ := ACY_inj hT hac
  have hcc := cc_rng hT hG hac hL hr1 hi hr
  have hfin : ∀ c, (fin G T L (es G T L) (span G T L) c (cc G T L (es G T L) c)).toInt = if cntB (trG G) c T = 0 ∧ es G T L c + L c = span G T L then (cc G T L (es G T L) c).toInt else 0 := fun c => by
    unfold fin
    by_cases q : cntB (trG G) c T = 0 ∧ es G T L c + L c = span G T L
    · rw [if_pos q, if_pos q]
    · rw [if_neg q, if_neg q]; exact Int64.toInt_zero
  have hterm : ∀ c, c < T → 0 ≤ (fin G T L (es G T L) (span G T L) c (cc G T L (es G T L) c)).toInt ∧ (fin G T L (es G T L) (span G T L) c (cc G T L (es G T L) c)).toInt ≤ (if r c < T then pw (r c) else 0) := fun c hc => by
    have a := hcc c hc
    have b := hr1 c hc
    rw [hfin, if_pos b]
    split <;> omega
  have hsum : dsum (fun c => (fin G T L (es G T L) (span G T L) c (cc G T L (es G T L) c)).toInt) T ≤ pw T - 1 := by
    have a := dsum_le (n := T) (fun i hi2 => (hterm i hi2).2)
    have b := dsum_pw hi T
    omega
  have hp := pw_mono (m := T) (n := 20) hT
  have hp20 : pw 20 = 1048576 := by decide
  have hs := smL_toI (n := T) (fun i hi2 => (hterm i hi2).1) (by omega)
  obtain ⟨c, hc, h1, h2⟩ := sink_ex hT hG hac hL h
  have a := dsum_at (k := c) (n := T) (fun i hi2 => (hterm i hi2).1) hc
  have b := hfin c
  rw [if_pos ⟨h1, h2⟩] at b
  have d := (hcc c hc).1
  have a2 : (fin G T L (es G T L) (span G T L) c (cc G T L (es G T L) c)).toInt ≤ dsum (fun c => (fin G T L (es G T L) (span G T L) c (cc G T L (es G T L) c)).toInt) T := a
  rw [Int64.lt_iff_toInt_lt, Int64.toInt_zero]
  unfold chains
  rw [hs]; omega
/-! dependencies and lengths that change -/
theorem es_monoG {G G' : Nat → Nat → Int} {T : Nat} {L : Nat → Int} (hac : ACY G T) (hac' : ACY G' T) (h : ∀ i j, i < T → j < T → G i j ≠ -1 → G' i j = G i j) : ∀ j, j < T → es G T L j ≤ es G' T L j := by
  have hac2 := hac
  obtain ⟨rk, hr⟩ := hac
  have key : ∀ n j, rk j < n → j < T → es G T L j ≤ es G' T L j := by
    intro n
    induction n with
    | zero => intro j h; exact absurd h (Nat.not_lt_zero _)
    | succ n ih =>
      intro j hn hj
      rcases es_at (L := L) hac2 hj with k | ⟨i, hi, hg, k⟩
      · have := es_0 (G := G') (T := T) (L := L) j; omega
      · have d := hr i j hi hj hg
        have a := ih i (by omega) hi
        have e := h i j hi hj hg
        have b := es_ge (L := L) hac' hi hj (by rw [e]; exact hg)
        omega
  exact fun j hj => key (rk j + 1) j (by omega) hj
theorem span_new {G : Nat → Nat → Int} {T i j : Nat} {L : Nat → Int} {p : Int} (hac : ACY G T) (hac' : ACY (upG G i j p) T) (hg : G i j = -1) : span G T L ≤ span (upG G i j p) T L := by
  have hm := es_monoG (L := L) hac hac' (fun a b _ _ hab => by
    unfold upG
    by_cases c : a = i ∧ b = j
    · rw [c.1, c.2] at hab; exact absurd hg hab
    · rw [if_neg c])
  rcases spE_at (L := L) (e := es G T L) T with k | ⟨c, hc, k⟩
  · have a : span G T L = 0 := k
    have := span_0 (G := upG G i j p) (T := T) (L := L); omega
  · have a : span G T L = es G T L c + L c := k
    have b := hm c hc
    have d : es (upG G i j p) T L c + L c ≤ span (upG G i j p) T L := spE_ge hc
    omega
theorem upG_back {G : Nat → Nat → Int} {i j : Nat} {p : Int} (hg : G i j = -1) : upG (upG G i j p) i j (-1) = G := by
  funext a b
  unfold upG
  by_cases c : a = i ∧ b = j
  · rw [if_pos c, c.1, c.2, hg]
  · rw [if_neg c, if_neg c]
theorem ahB_new {G : Nat → Nat → Int} {T i j : Nat} {p : Int} (hi : i < T) (hj : j < T) (hne : i ≠ j) (hp : p ≠ -1) : ahB (upG G i j p) T i j = true :=
  ahB_iff.mpr ⟨hne, RCH_s RCH_0 hi hj (by unfold upG; rw [if_pos ⟨rfl, rfl⟩]; exact hp)⟩
theorem harm_span {G : Nat → Nat → Int} {T t : Nat} {L : Nat → Int} (hac : ACY G T) (ht : t < T) : span G T (upZ L t (L t + (lst G T L t - es G T L t))) = span G T L := by
  rw [span_up hac ht (slack_nn hac ht)]
  unfold lst; omega
theorem harm_slack {G : Nat → Nat → Int} {T t : Nat} {L : Nat → Int} (hac : ACY G T) (ht : t < T) : lst G T (upZ L t (L t + (lst G T L t - es G T L t))) t - es G T (upZ L t (L t + (lst G T L t - es G T L t))) t = 0 := by
  have a := harm_span (L := L) hac ht
  have b := es_own (L := L) (x := L t + (lst G T L t - es G T L t)) hac ht
  have c := es_own (L := L) (x := L t + (lst G T L t - es G T L t)) (ACY_tr hac) ht
  have d : upZ L t (L t + (lst G T L t - es G T L t)) t = L t + (lst G T L t - es G T L t) := upZ_s
  have e : lst G T (upZ L t (L t + (lst G T L t - es G T L t))) t = span G T (upZ L t (L t + (lst G T L t - es G T L t))) - upZ L t (L t + (lst G T L t - es G T L t)) t - es (trG G) T (upZ L t (L t + (lst G T L t - es G T L t))) t := rfl
  rw [e, a, b, c, d]
  unfold lst; omega
theorem mvdN_le {e f : Nat → Int} {t : Nat} : ∀ n, mvdN e f t n ≤ n
  | 0 => Nat.le_refl 0
  | n + 1 => by have := mvdN_le (e := e) (f := f) (t := t) n; rw [mvdN]; split <;> omega
theorem mvdN_lt {e f : Nat → Int} {t : Nat} : ∀ {n}, t < n → mvdN e f t n < n
  | 0, h => absurd h (Nat.not_lt_zero _)
  | n + 1, h => by
    rw [mvdN]
    by_cases q : t = n
    · have := mvdN_le (e := e) (f := f) (t := t) n
      rw [if_neg (fun k => k.1 q.symm)]; omega
    · have := mvdN_lt (e := e) (f := f) (t := t) (n := n) (by omega)
      split <;> omega
