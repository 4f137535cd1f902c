/-! LimpMirror$Cells: get, set -/
theorem xix {i : Int32} {n : Nat} (h0 : 0 ≤ i) (h : i < Int32.ofNat n) (hn : n < 2 ^ 31) : i.toNatClampNeg < n := by
  obtain ⟨j, hj, rfl⟩ := nI_of (x := i) (Int32.not_lt.mpr h0)
  rw [nI_clamp hj]
  exact (nI_ltI hj hn).mp h
theorem xif0 {p : Prop} [Decidable p] (h : (if p then (1 : Int32) else 0) = 0) : ¬ p := fun hp => by
  rw [if_pos hp] at h
  exact absurd h (by decide)
theorem xif1 {p : Prop} [Decidable p] (h : ¬ (if p then (1 : Int32) else 0) = 0) : p := by
  by_cases hp : p
  · exact hp
  · rw [if_neg hp] at h
    exact absurd rfl h
