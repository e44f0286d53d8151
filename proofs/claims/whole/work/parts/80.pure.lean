/-! What is left to be shown, of the small machine alone. -/
theorem law_pure (xs : List Int32) (h : xs.length ≤ 3072) : ∃ (n d : Nat) (M' : zM), d ≤ 1000 ∧ zrun n (some xs) d 175 0 (zent 175 [.ref zSCR]) [] ([], []) = some (some (.int 1), M') ∧ znc M' ≤ 600000 ∧ zns M' ≤ 7302250 := by
  sorry
