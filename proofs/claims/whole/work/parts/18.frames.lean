/-! What stays. -/
section FR
variable {σ σ' : gT1} {T : Nat → Nat} {q : Bool} {c l : Nat} {pr : Nat → Nat}
theorem R_txt.fr (h : R_txt σ) (a : σ' 1 1 = σ 1 1) (b : σ' 2 = σ 2) (c : σ' 31 2 = σ 31 2) (d : σ' 32 = σ 32) : R_txt σ' := by
  unfold R_txt at *
  rw [a, b, c, d]
  exact h
theorem R_ord.fr (h : R_ord T σ) (a : σ' 0 8 = σ 0 8) (b : σ' 26 = σ 26) (c : σ' 31 17 = σ 31 17) (d : σ' 40 = σ 40) : R_ord T σ' := by
  unfold R_ord at *
  rw [a, b, c, d]
  exact h
theorem R_und.fr (h : R_und T σ) (a : σ' 0 10 = σ 0 10) (b : σ' 27 = σ 27) (c : σ' 31 13 = σ 31 13) (d : σ' 37 = σ 37) : R_und T σ' := by
  unfold R_und at *
  rw [a, b, c, d]
  exact h
theorem R_img.fr (h : R_img T σ) (a : σ' 0 12 = σ 0 12) (b : σ' 28 = σ 28) (c : σ' 39 = σ 39) (d : σ' 38 = σ 38) : R_img T σ' := by
  unfold R_img at *
  rw [a, b, c, d]
  exact h
theorem R_see.fr (h : R_see T σ) (a : σ' 0 14 = σ 0 14) (b : σ' 29 = σ 29) (c : σ' 31 20 = σ 31 20) (d : σ' 41 = σ 41) (e : σ' 42 = σ 42) : R_see T σ' := by
  unfold R_see at *
  rw [a, b, c, d, e]
  exact h
theorem R_now.fr (h : R_now T c l pr σ) (a : σ' 0 4 = σ 0 4) (b : σ' 0 5 = σ 0 5) (d : σ' 25 = σ 25) (e : σ' 36 = σ 36) : R_now T c l pr σ' := by
  unfold R_now at *
  rw [a, b, d, e]
  exact h
theorem R_net.fr (h : R_net q T σ) (a : ∀ p, 7 ≤ p → p ≤ 24 → σ' p = σ p) (b : σ' 33 = σ 33) : R_net q T σ' := by
  obtain ⟨h1, h2, h3⟩ := h
  refine ⟨h1, ?_, by rw [b]; exact h3⟩
  unfold NetC at *
  have hp : 7 ≤ np q ∧ np q ≤ 16 := by cases q <;> decide
  rw [a (np q) (by omega) (by omega), a (np q + 1) (by omega) (by omega), a (np q + 2) (by omega) (by omega), a (np q + 3) (by omega) (by omega), a (np q + 4) (by omega) (by omega), a (np q + 5) (by omega) (by omega), a (np q + 6) (by omega) (by omega), a (np q + 7) (by omega) (by omega)]
  exact h2
theorem Pair.of {X : gX} {y z : Nat} {A : List Value} (hB : ClP X y (.ref 0 :: A) (47, g_rho q, σ) (fun w g1 => ∃ v q1 σ1, w = some (.int v) ∧ g1 = (47, g_rho q1, σ1) ∧ ClP X z (.ref 31 :: A) (47, g_rho q1, σ1) (fun w2 g2 => ∃ σ2, w2 = some (.int v) ∧ g2 = (47, g_rho q1, σ2) ∧ Rel q1 σ2))) : Pair X y z A q σ := by
  obtain ⟨w, g1, h1, v, q1, σ1, rfl, rfl, w2, g2, h2, σ2, rfl, rfl, h3⟩ := hB
  exact ⟨v, q1, σ1, σ2, h1, h2, h3⟩
/-- the model forgets what was thrown: nobody asks -/
theorem Rel.thrown (h : Rel q σ) (v : Int32) : Rel q (g_up σ 31 0 v) := by
  obtain ⟨T, c, l, pr, hN, hW, hT, hO, hU, hI, hS⟩ := h
  exact ⟨T, c, l, pr, hN.fr (fun p h1 h2 => g_up_ne (by omega)) rfl, hW.fr rfl rfl rfl rfl, hT.fr rfl rfl rfl rfl, hO.fr rfl rfl rfl rfl, hU.fr rfl rfl rfl rfl, hI.fr rfl rfl rfl rfl, hS.fr rfl rfl rfl rfl rfl⟩
end FR
