/-! The net as numbers: T 0 nodes, T 1 sources, T 2 loads, T 3 switches, T (4 + k) kind, T (12 + k) name, T (20 + k) first node, T (28 + k) second one. -/
def t_act (T : Nat → Nat) (c k : Nat) : Prop := k < T 3 ∧ c.testBit k = true ∧ T (4 + k) ≠ 2
/-- hang together by the first j switches -/
def Cnj (T : Nat → Nat) (c j : Nat) (u v : Nat) : Prop := ∀ S : Nat → Prop, (∀ k, k < j → t_act T c k → (S (T (20 + k)) ↔ S (T (28 + k)))) → (S u ↔ S v)
def Cn (T : Nat → Nat) (c : Nat) (u v : Nat) : Prop := Cnj T c (T 3) u v
/-- the number whose bits below n are those of P -/
noncomputable def mk : Nat → (Nat → Prop) → Nat
  | 0, _ => 0
  | n + 1, P => mk n P ||| @ite _ (P n) (Classical.propDecidable _) (2 ^ n) 0
theorem mk_bit (P : Nat → Prop) (i : Nat) : ∀ n, (mk n P).testBit i = true ↔ i < n ∧ P i
  | 0 => by simp [mk]
  | n + 1 => by
    have ih := mk_bit P i n
    show ((mk n P) ||| @ite _ (P n) (Classical.propDecidable _) (2 ^ n) 0).testBit i = true ↔ _
    rw [Nat.testBit_or, Bool.or_eq_true, ih]
    by_cases h : P n
    · rw [if_pos h, Nat.testBit_two_pow]
      simp only [decide_eq_true_eq]
      constructor
      · rintro (⟨h1, h2⟩ | h1)
        · exact ⟨by omega, h2⟩
        · exact ⟨by omega, h1 ▸ h⟩
      · rintro ⟨h1, h2⟩
        by_cases e : n = i
        · exact Or.inr e
        · exact Or.inl ⟨by omega, h2⟩
    · rw [if_neg h, Nat.zero_testBit]
      constructor
      · rintro (⟨h1, h2⟩ | h1)
        · exact ⟨by omega, h2⟩
        · cases h1
      · rintro ⟨h1, h2⟩
        by_cases e : n = i
        · subst e; exact absurd h2 h
        · exact Or.inl ⟨by omega, h2⟩
theorem lt_of_bits {a n : Nat} (h : ∀ i, a.testBit i = true → i < n) : a < 2 ^ n := by
  apply Nat.lt_pow_two_of_testBit
  intro i hi
  cases hb : a.testBit i with
  | false => rfl
  | true => exact absurd (h i hb) (by omega)
theorem mk_lt (n : Nat) (P : Nat → Prop) : mk n P < 2 ^ n := lt_of_bits (fun i h => ((mk_bit P i n).mp h).1)
theorem bits_eq {a b : Nat} (h : ∀ i, a.testBit i = true ↔ b.testBit i = true) : a = b := by
  apply Nat.eq_of_testBit_eq
  intro i
  have := h i
  cases h1 : a.testBit i <;> cases h2 : b.testBit i <;> simp_all
theorem mk_eq {n a : Nat} {P : Nat → Prop} (h : ∀ i, a.testBit i = true ↔ i < n ∧ P i) : a = mk n P := bits_eq (fun i => (h i).trans (mk_bit P i n).symm)
theorem mk_congr {n : Nat} {P Q : Nat → Prop} (h : ∀ i, i < n → (P i ↔ Q i)) : mk n P = mk n Q := mk_eq (fun i => (mk_bit P i n).trans ⟨fun q => ⟨q.1, (h i q.1).mp q.2⟩, fun q => ⟨q.1, (h i q.1).mpr q.2⟩⟩)
noncomputable def liveM (T : Nat → Nat) (c : Nat) : Nat := mk (T 0) (fun v => ∃ u, u < T 0 ∧ (T 1).testBit u = true ∧ Cn T c u v)
noncomputable def loadM (T : Nat → Nat) (c : Nat) : Nat := mk (T 0) (fun v => ∃ u, u < T 0 ∧ (T 2).testBit u = true ∧ Cn T c u v)
noncomputable def earthM (T : Nat → Nat) (c : Nat) : Nat := mk (T 0) (fun v => ∃ k, k < T 3 ∧ c.testBit k = true ∧ T (4 + k) = 2 ∧ Cn T c (T (20 + k)) v)
def sound (T : Nat → Nat) (c : Nat) : Prop := liveM T c &&& earthM T c = 0
/-- the bit k away -/
def clr (c k : Nat) : Nat := c ^^^ (c &&& 2 ^ k)
def under (T : Nat → Nat) (c k : Nat) : Prop := ¬ Cn T c (T (20 + k)) (T (28 + k)) ∧ (((liveM T c).testBit (T (20 + k)) = true ∧ (liveM T c).testBit (T (28 + k)) = true) ∨ ((liveM T c).testBit (T (20 + k)) = true ∧ (loadM T c).testBit (T (28 + k)) = true) ∨ ((liveM T c).testBit (T (28 + k)) = true ∧ (loadM T c).testBit (T (20 + k)) = true))
noncomputable def heldM (T : Nat → Nat) (c : Nat) : Nat := mk (T 3) (fun k => T (4 + k) = 1 ∧ under T (clr c k) k)
noncomputable def why (T : Nat → Nat) (l c k : Nat) : Nat := if l.testBit k = true then 1 else @ite _ (T (4 + k) = 1 ∧ under T (clr c k) k) (Classical.propDecidable _) 2 (@ite _ (sound T (c ^^^ 2 ^ k)) (Classical.propDecidable _) 0 3)
def sec (T : Nat → Nat) (k : Nat) : Int32 := if T (4 + k) = 2 then -9 else nI (T (28 + k))
/-! What stands on the two sides. -/
def WFT (T : Nat → Nat) : Prop := (2 ≤ T 0 ∧ T 0 ≤ 6) ∧ (T 1 < 2 ^ T 0 ∧ T 2 < 2 ^ T 0) ∧ T 3 ≤ 8 ∧ (∀ k, k < T 3 → T (4 + k) < 3 ∧ (97 ≤ T (12 + k) ∧ T (12 + k) ≤ 122) ∧ T (20 + k) < T 0 ∧ (T (4 + k) ≠ 2 → T (28 + k) < T 0)) ∧ ∀ i k, i < k → k < T 3 → T (12 + i) ≠ T (12 + k)
def NetC (σ : Nat → Nat → Int32) (p : Nat) (T : Nat → Nat) : Prop :=
  (∀ j, j < 4 → σ p j = nI (T j)) ∧ (∀ k, k < T 3 → σ (p + 1) k = nI (T (4 + k)) ∧ σ (p + 2) k = nI (T (12 + k)) ∧ σ (p + 3) k = nI (T (20 + k)) ∧ σ (p + 4) k = sec T k) ∧ ∀ c, c < 2 ^ T 3 → σ (p + 5) c = nI (liveM T c) ∧ σ (p + 6) c = nI (earthM T c) ∧ σ (p + 7) c = nI (heldM T c)
def ToldM (f : Nat → Int32) (T : Nat → Nat) : Prop := (∀ j, j < 4 → f j = nI (T j)) ∧ ∀ k, k < T 3 → f (4 + k) = nI (T (4 + k)) ∧ f (12 + k) = nI (T (12 + k)) ∧ f (20 + k) = nI (T (20 + k)) ∧ f (28 + k) = sec T k
def Snap (T : Nat → Nat) (c l : Nat) (pr : Nat → Nat) : Prop := c < 2 ^ T 3 ∧ l < 2 ^ T 3 ∧ sound T c ∧ ∀ i, i < 3 → 1 ≤ pr i ∧ pr i ≤ 9
def sw (c l : Nat) (pr : Nat → Nat) : Nat → Nat := fun i => match i with
  | 0 => c
  | 1 => l
  | i + 2 => pr i
def pkI (c l : Nat) (pr : Nat → Nat) : Nat := c + 256 * l + 65536 * pr 0 + 1048576 * pr 1 + 16777216 * pr 2
def R_txt (σ : Nat → Nat → Int32) : Prop := ∃ n, n ≤ 120 ∧ σ 1 1 = nI n ∧ σ 31 2 = nI n ∧ ∀ j, j < n → σ 32 j = σ 2 j ∧ ∃ a, a < 256 ∧ σ 2 j = nI a
def R_ord (T : Nat → Nat) (σ : Nat → Nat → Int32) : Prop := ∃ n, n ≤ 12 ∧ σ 0 8 = nI n ∧ σ 31 17 = nI n ∧ ∀ j, j < n → ∃ k, k < T 3 ∧ σ 26 j = nI k ∧ σ 40 j = nI k
def R_und (T : Nat → Nat) (σ : Nat → Nat → Int32) : Prop := ∃ n, n ≤ 10 ∧ σ 0 10 = nI n ∧ σ 31 13 = nI n ∧ ∀ j, j < n → ∃ c l pr, Snap T c l pr ∧ σ 27 j = nI (pkI c l pr) ∧ ∀ i, i < 5 → σ 37 (5 * j + i) = nI (sw c l pr i)
def R_img (T : Nat → Nat) (σ : Nat → Nat → Int32) : Prop := ∃ kp, kp < 4 ∧ σ 0 12 = nI kp ∧ ∀ i, i < 2 → σ 39 i = bI (kp.testBit i) ∧ (kp.testBit i = true → ∃ c l pr, Snap T c l pr ∧ σ 28 i = nI (pkI c l pr) ∧ ∀ j, j < 5 → σ 38 (5 * i + j) = nI (sw c l pr j))
def R_see (T : Nat → Nat) (σ : Nat → Nat → Int32) : Prop := ∃ n, n ≤ 6 ∧ σ 0 14 = nI n ∧ σ 31 20 = nI n ∧ ∀ j, j < n → ∃ u b, u < T 0 ∧ b < 2 ∧ σ 29 j = nI (2 * u + b) ∧ σ 41 j = nI u ∧ σ 42 j = nI b
def R_now (T : Nat → Nat) (c l : Nat) (pr : Nat → Nat) (σ : Nat → Nat → Int32) : Prop := Snap T c l pr ∧ σ 0 4 = nI c ∧ σ 0 5 = nI l ∧ (∀ i, i < 3 → σ 25 i = nI (pr i)) ∧ ∀ i, i < 5 → σ 36 i = nI (sw c l pr i)
def np (q : Bool) : Nat := if q then 16 else 7
def R_net (q : Bool) (T : Nat → Nat) (σ : Nat → Nat → Int32) : Prop := WFT T ∧ NetC σ (np q) T ∧ ToldM (σ 33) T
def Rel (q : Bool) (σ : Nat → Nat → Int32) : Prop := ∃ T c l pr, R_net q T σ ∧ R_now T c l pr σ ∧ R_txt σ ∧ R_ord T σ ∧ R_und T σ ∧ R_img T σ ∧ R_see T σ
/-! The references between the cells, once all stand. -/
def g_rof : List (Nat × Nat × Nat) → Nat → Nat → Option Nat
  | [] => fun _ _ => none
  | (p, k, q) :: l => g_ur (g_rof l) p k (some q)
def g_rB : List (Nat × Nat × Nat) := [(0, 15, 30), (0, 13, 29), (0, 11, 28), (0, 9, 27), (0, 7, 26), (0, 6, 25), (0, 3, 16), (16, 13, 24), (16, 12, 23), (16, 11, 22), (16, 10, 21), (16, 9, 20), (16, 8, 19), (16, 7, 18), (16, 6, 17), (0, 2, 7), (7, 13, 15), (7, 12, 14), (7, 11, 13), (7, 10, 12), (7, 9, 11), (7, 8, 10), (7, 7, 9), (7, 6, 8), (0, 1, 3), (3, 8, 6), (3, 7, 5), (3, 6, 4), (0, 0, 1), (1, 0, 2)]
def g_rM : List (Nat × Nat × Nat) := [(31, 24, 46), (31, 23, 45), (31, 22, 44), (31, 21, 43), (31, 19, 42), (31, 18, 41), (31, 16, 40), (31, 15, 39), (31, 14, 38), (31, 12, 37), (31, 11, 36), (31, 10, 35), (31, 9, 34), (31, 8, 33), (31, 1, 32)]
def g_r0 : Nat → Nat → Option Nat := g_rof (g_rM ++ g_rB)
def g_rho (q : Bool) : Nat → Nat → Option Nat := g_ur (g_ur g_r0 0 2 (some (if q then 16 else 7))) 0 3 (some (if q then 7 else 16))
theorem g_ur_same {ρ : Nat → Nat → Option Nat} {p k : Nat} {v : Option Nat} (h : ρ p k = v) : g_ur ρ p k v = ρ := by
  funext a j
  unfold g_ur
  split
  · next e =>
    split
    · next e2 => rw [e, e2, h]
    · rfl
  · rfl
theorem g_ur_twice (ρ : Nat → Nat → Option Nat) (p k : Nat) (v w : Option Nat) : g_ur (g_ur ρ p k v) p k w = g_ur ρ p k w := by
  funext a j
  unfold g_ur
  split
  · split
    · rfl
    · rfl
  · rfl
theorem g_ur_swap (ρ : Nat → Nat → Option Nat) {p k k' : Nat} (hk : k ≠ k') (v w : Option Nat) : g_ur (g_ur ρ p k v) p k' w = g_ur (g_ur ρ p k' w) p k v := by
  funext a j
  unfold g_ur
  split
  · split
    · next e => rw [if_neg (by omega)]
    · rfl
  · rfl
theorem g_rho_0 : g_rho false = g_r0 := by
  have h1 : g_ur g_r0 0 2 (some 7) = g_r0 := g_ur_same rfl
  have h2 : g_ur g_r0 0 3 (some 16) = g_r0 := g_ur_same rfl
  show g_ur (g_ur g_r0 0 2 (some 7)) 0 3 (some 16) = g_r0
  rw [h1, h2]
/-- book() changes the two nets -/
theorem g_rho_swap (q : Bool) : g_ur (g_ur (g_rho q) 0 2 (some (np (!q)))) 0 3 (some (np q)) = g_rho (!q) := by
  unfold g_rho
  rw [g_ur_swap _ (by decide : (3 : Nat) ≠ 2), g_ur_twice, g_ur_twice]
  cases q <;> rfl
/-- one call on either side: the answers are one -/
def Pair (X : gX) (y z : Nat) (A : List Value) (q : Bool) (σ : Nat → Nat → Int32) : Prop :=
  ∃ (v : Int32) (q1 : Bool) (σ1 σ2 : Nat → Nat → Int32), Cl X y (.ref 0 :: A) (47, g_rho q, σ) (some (.int v)) (47, g_rho q1, σ1) ∧ Cl X z (.ref 31 :: A) (47, g_rho q1, σ1) (some (.int v)) (47, g_rho q1, σ2) ∧ Rel q1 σ2
section RN
variable {X : gX} {m pc : Nat} {L : gLo} {st : List Value} {P : Option Value → gS → Prop}
theorem ep_new {n : Nat} {ρ : Nat → Nat → Option Nat} {σ : Nat → Nat → Int32} {i c y : Nat} {z : Int32} (ht : g_at m pc = some (.new i, c, y, z)) (hs : g_shp n = .inr c) (hn : n < 47) (hr : ρ n = fun _ => none) (hσ : σ n = fun _ => 0) (k : EvP X m (pc + 3) L (.ref n :: st) (n + 1, ρ, σ) P) : EvP X m pc L st (n, ρ, σ) P := k.up (fun _ q => ev_i ht ⟨hs, hn, hr, hσ, q⟩)
theorem ep_newi {n len : Nat} {ρ : Nat → Nat → Option Nat} {σ : Nat → Nat → Int32} {x y : Nat} {z : Int32} (ht : g_at m pc = some (.newarray .int, x, y, z)) (hs : g_shp n = .inl (false, len)) (hl : len ≤ 2048) (hn : n < 47) (hσ : σ n = fun _ => 0) (k : EvP X m (pc + 2) L (.ref n :: st) (n + 1, ρ, σ) P) : EvP X m pc L (.int (nI len) :: st) (n, ρ, σ) P := k.up (fun _ q => ev_i ht ⟨Or.inl rfl, by rw [nI_cl (by omega)]; exact hs, nI_pos (by omega), by rw [nI_cl (by omega)]; exact hl, hn, hσ, q⟩)
theorem ep_newz {n len : Nat} {ρ : Nat → Nat → Option Nat} {σ : Nat → Nat → Int32} {x y : Nat} {z : Int32} (ht : g_at m pc = some (.newarray .boolean, x, y, z)) (hs : g_shp n = .inl (true, len)) (hl : len ≤ 2048) (hn : n < 47) (hσ : σ n = fun _ => 0) (k : EvP X m (pc + 2) L (.ref n :: st) (n + 1, ρ, σ) P) : EvP X m pc L (.int (nI len) :: st) (n, ρ, σ) P := k.up (fun _ q => ev_i ht ⟨Or.inr rfl, by rw [nI_cl (by omega)]; exact hs, nI_pos (by omega), by rw [nI_cl (by omega)]; exact hl, hn, hσ, q⟩)
theorem ep_obj {i y a : Nat} {z : Int32} {g : gS} (ht : g_at m pc = some (.invokespecial i, 999, y, z)) (k : EvP X m (pc + 3) L [] g P) : EvP X m pc L [.ref a] g P := k.up (fun _ q => ev_i ht q)
end RN
