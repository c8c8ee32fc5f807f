/-- where all begins: no cell stands -/
def g_0 : gS := (0, fun _ _ => none, fun _ _ => 0)
theorem law_ev (X : gX) (hX : X.1 ≤ 2048) : ∃ (ρ : Nat → Nat → Option Nat) (σ : Nat → Nat → Int32), Ev X 149 0 [some (.ref 1000), none, none, none] [] g_0 (some (.int 1), (47, ρ, σ)) := by
  sorry
