theorem maxE_bd {G : Nat → Nat → Int} {T : Nat} {L : Nat → Int} (hT : T ≤ 20) (hG : GOK G) (hL : LOK T L) {k j : Nat} (hk : k < T) (hj : j ≤ T) : 0 ≤ maxE G L (es G T L) k j ∧ maxE G L (es G T L) k j ≤ 4200 := by
  refine ⟨maxE_0 j, ?_⟩
  rcases maxE_at (G := G) (L := L) (e := es G T L) (j := k) j with h | ⟨i, h1, h2, h3⟩
  · omega
  · have a := es_le hT hG hL (show i < T by omega)
    have b := hL i (by omega)
    have c := hG i k (by omega) (by omega)
    omega
theorem spE_bd {G : Nat → Nat → Int} {T : Nat} {L : Nat → Int} {k : Nat} (hk : k ≤ T) : 0 ≤ spE L (es G T L) k ∧ spE L (es G T L) k ≤ span G T L := by
  refine ⟨spE_0 k, ?_⟩
  rcases spE_at (L := L) (e := es G T L) k with h | ⟨i, h1, h2⟩
  · have := span_0 (G := G) (T := T) (L := L); omega
  · have a : es G T L i + L i ≤ span G T L := spE_ge (by omega)
    omega
