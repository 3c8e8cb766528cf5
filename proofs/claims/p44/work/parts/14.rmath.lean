/-! starts moved in rounds -/
def MV (G : Nat → Nat → Int) (T : Nat) (L s0 : Nat → Int) (i0 t : Nat) (s : Nat → Int) (mv : Bool) : Prop :=
  (∀ j, j < T → 0 ≤ s j ∧ s j ≤ es G T L j ∧ s0 j ≤ s j) ∧ (∀ i j, i < T → j < T → G i j ≠ -1 → (i < i0 ∨ (i = i0 ∧ j < t)) → s0 i + L i + G i j ≤ s j) ∧ (mv = false → ∀ j, j < T → s j = s0 j)
def S0 (G : Nat → Nat → Int) (T : Nat) (L s0 : Nat → Int) : Prop := ∀ j, j < T → 0 ≤ s0 j ∧ s0 j ≤ es G T L j
theorem MV_0 {G : Nat → Nat → Int} {T : Nat} {L s0 : Nat → Int} (h : S0 G T L s0) : MV G T L s0 0 0 s0 false := ⟨fun j hj => ⟨(h j hj).1, (h j hj).2, Int.le_refl _⟩, fun i j _ _ _ h => by omega, fun _ _ _ => rfl⟩
theorem MV_nx {G : Nat → Nat → Int} {T : Nat} {L s0 : Nat → Int} {i0 t : Nat} {s : Nat → Int} {mv : Bool} (h : MV G T L s0 i0 t s mv) (ht : T ≤ t) : MV G T L s0 (i0 + 1) 0 s mv := ⟨h.1, fun i j hi hj hg hc => h.2.1 i j hi hj hg (by omega), h.2.2⟩
theorem MV_skip {G : Nat → Nat → Int} {T : Nat} {L s0 : Nat → Int} {i0 t : Nat} {s : Nat → Int} {mv : Bool} (h : MV G T L s0 i0 t s mv) (hg : G i0 t = -1) : MV G T L s0 i0 (t + 1) s mv := ⟨h.1, fun i j hi hj hg2 hc => by
  by_cases q : i = i0 ∧ j = t
  · rw [q.1, q.2] at hg2; exact absurd hg hg2
  · exact h.2.1 i j hi hj hg2 (by omega), h.2.2⟩
theorem MV_ok {G : Nat → Nat → Int} {T : Nat} {L s0 : Nat → Int} {i0 t : Nat} {s : Nat → Int} {mv : Bool} {en : Int} (h : MV G T L s0 i0 t s mv) (hen : s0 i0 + L i0 ≤ en) (hs : en + G i0 t ≤ s t) : MV G T L s0 i0 (t + 1) s mv := ⟨h.1, fun i j hi hj hg2 hc => by
  by_cases q : i = i0 ∧ j = t
  · rw [q.1, q.2]; omega
  · exact h.2.1 i j hi hj hg2 (by omega), h.2.2⟩
theorem MV_up {G : Nat → Nat → Int} {T : Nat} {L s0 : Nat → Int} {i0 t : Nat} {s : Nat → Int} {mv : Bool} {en : Int} (hac : ACY G T) (h : MV G T L s0 i0 t s mv) (hi0 : i0 < T) (ht : t < T) (hg : ¬ G i0 t = -1) (hen : s0 i0 + L i0 ≤ en) (hen2 : en ≤ es G T L i0 + L i0) (hs : s t < en + G i0 t) : MV G T L s0 i0 (t + 1) (upZ s t (en + G i0 t)) true := by
  have hm := maxE_ge (e := es G T L) (L := L) hi0 hg
  rw [← es_fix hac ht] at hm
  refine ⟨fun j hj => ?_, fun i j hi hj hg2 hc => ?_, fun hf => by cases hf⟩
  · by_cases q : j = t
    · subst q; rw [upZ_s]; have := h.1 j hj; omega
    · rw [upZ_n q]; exact h.1 j hj
  · by_cases q : j = t
    · subst q
      rw [upZ_s]
      by_cases q2 : i = i0
      · subst q2; omega
      · have := h.2.1 i j hi hj hg2 (by omega); omega
    · rw [upZ_n q]
      exact h.2.1 i j hi hj hg2 (by omega)
/-- starts that no dependency moves are not less than the earliest ones -/
theorem ESn_least {G : Nat → Nat → Int} {T : Nat} {L s : Nat → Int} (h0 : ∀ j, j < T → 0 ≤ s j) (h : ∀ i j, i < T → j < T → G i j ≠ -1 → s i + L i + G i j ≤ s j) : ∀ k j, j < T → ESn G T L k j ≤ s j
  | 0, j, hj => h0 j hj
  | k + 1, j, hj => by
    rw [ESn]
    rcases maxE_at (G := G) (L := L) (e := ESn G T L k) (j := j) T with q | ⟨i, h1, h2, h3⟩
    · have := h0 j hj; omega
    · have a := ESn_least h0 h k i h1
      have b := h i j h1 hj h2
      omega
theorem ESn_mono {G : Nat → Nat → Int} {T : Nat} {L : Nat → Int} : ∀ k j, ESn G T L k j ≤ ESn G T L (k + 1) j
  | 0, j => ESn_0 1 j
  | k + 1, j => by
    rw [ESn, ESn]
    rcases maxE_at (G := G) (L := L) (e := ESn G T L k) (j := j) T with q | ⟨i, h1, h2, h3⟩
    · have := maxE_0 (G := G) (L := L) (e := ESn G T L (k + 1)) (j := j) T; omega
    · have a := ESn_mono (G := G) (T := T) (L := L) k i
      have b := maxE_ge (e := ESn G T L (k + 1)) (L := L) h1 h2
      omega
def RF (G : Nat → Nat → Int) (T : Nat) (L : Nat → Int) (k : Nat) (s : Nat → Int) (mv : Bool) : Prop := (∀ j, j < T → ESn G T L k j ≤ s j ∧ s j ≤ es G T L j) ∧ (mv = false → ∀ j, j < T → s j = es G T L j)
theorem RF_0 {G : Nat → Nat → Int} {T : Nat} {L : Nat → Int} : RF G T L 0 (fun _ => 0) true := ⟨fun j _ => ⟨Int.le_refl 0, es_0 j⟩, fun h => by cases h⟩
theorem RF_S0 {G : Nat → Nat → Int} {T : Nat} {L : Nat → Int} {k : Nat} {s : Nat → Int} {mv : Bool} (h : RF G T L k s mv) : S0 G T L s := fun j hj => ⟨Int.le_trans (ESn_0 k j) (h.1 j hj).1, (h.1 j hj).2⟩
theorem RF_s {G : Nat → Nat → Int} {T : Nat} {L : Nat → Int} {k : Nat} {s s1 : Nat → Int} {mv mv1 : Bool} (h : RF G T L k s mv) (h1 : MV G T L s T 0 s1 mv1) : RF G T L (k + 1) s1 mv1 := by
  refine ⟨fun j hj => ⟨?_, (h1.1 j hj).2.1⟩, fun hf j hj => ?_⟩
  · rw [ESn]
    rcases maxE_at (G := G) (L := L) (e := ESn G T L k) (j := j) T with q | ⟨i, a1, a2, a3⟩
    · have := (h1.1 j hj).1; omega
    · have b := h1.2.1 i j a1 hj a2 (Or.inl a1)
      have c := (h.1 i a1).1
      omega
  · have e1 := h1.2.2 hf
    have := ESn_least (G := G) (T := T) (L := L) (s := s1) (fun j hj => (h1.1 j hj).1) (fun i j hi hj hg => by rw [e1 i hi]; exact h1.2.1 i j hi hj hg (Or.inl hi)) T j hj
    have b := (h1.1 j hj).2.1
    unfold es at b ⊢
    omega
theorem RF_end {G : Nat → Nat → Int} {T : Nat} {L : Nat → Int} {k : Nat} {s : Nat → Int} {mv : Bool} (h : RF G T L k s mv) (hk : k = T + 1) : ∀ j, j < T → s j = es G T L j := fun j hj => by
  have a := h.1 j hj
  have b := ESn_mono (G := G) (T := T) (L := L) T j
  subst hk
  unfold es at a ⊢
  omega
