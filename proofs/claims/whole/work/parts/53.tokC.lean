/-! Tokens: what both sides read. a: the letters, n: how many, p: from where. -/
def skp (a : Nat → Nat) (n : Nat) : Nat → Nat → Nat
  | 0, p => p
  | d + 1, p => if p < n ∧ a p = 32 then skp a n d (p + 1) else p
def dgs (a : Nat → Nat) (n : Nat) : Nat → Nat → Nat → Nat × Nat
  | 0, p, v => (p, v)
  | d + 1, p, v => if p < n ∧ 48 ≤ a p ∧ a p ≤ 57 then dgs a n d (p + 1) (if 99 < v then v else 10 * v + a p - 48) else (p, v)
theorem skp_le {a : Nat → Nat} {n : Nat} : ∀ d p, p + d = n → p ≤ skp a n d p ∧ skp a n d p ≤ n
  | 0, p, h => ⟨Nat.le_refl _, by show p ≤ n; omega⟩
  | d + 1, p, h => by
    show p ≤ (if p < n ∧ a p = 32 then skp a n d (p + 1) else p) ∧ (if p < n ∧ a p = 32 then skp a n d (p + 1) else p) ≤ n
    have ih := skp_le (a := a) (n := n) d (p + 1) (by omega)
    split
    · omega
    · omega
theorem dgs_le {a : Nat → Nat} {n : Nat} : ∀ d p v, p + d = n → p ≤ (dgs a n d p v).1 ∧ (dgs a n d p v).1 ≤ n
  | 0, p, v, h => ⟨Nat.le_refl _, by show p ≤ n; omega⟩
  | d + 1, p, v, h => by
    show p ≤ (if p < n ∧ 48 ≤ a p ∧ a p ≤ 57 then dgs a n d (p + 1) (if 99 < v then v else 10 * v + a p - 48) else (p, v)).1 ∧ (if p < n ∧ 48 ≤ a p ∧ a p ≤ 57 then dgs a n d (p + 1) (if 99 < v then v else 10 * v + a p - 48) else (p, v)).1 ≤ n
    have ih := dgs_le (a := a) (n := n) d (p + 1) (if 99 < v then v else 10 * v + a p - 48) (by omega)
    split
    · omega
    · exact ⟨Nat.le_refl _, by show p ≤ n; omega⟩
theorem dgs_v {a : Nat → Nat} {n : Nat} : ∀ d p v, v ≤ 999 → (dgs a n d p v).2 ≤ 999
  | 0, p, v, h => h
  | d + 1, p, v, h => by
    show (if p < n ∧ 48 ≤ a p ∧ a p ≤ 57 then dgs a n d (p + 1) (if 99 < v then v else 10 * v + a p - 48) else (p, v)).2 ≤ 999
    split
    · next q =>
      refine dgs_v d (p + 1) _ ?_
      split <;> omega
    · exact h
theorem skp_yes {a : Nat → Nat} {n d p : Nat} (h : p < n) (h2 : a p = 32) : skp a n (d + 1) p = skp a n d (p + 1) := if_pos ⟨h, h2⟩
theorem skp_no {a : Nat → Nat} {n d p : Nat} (h : ¬ (p < n ∧ a p = 32)) : skp a n (d + 1) p = p := if_neg h
theorem dgs_yes {a : Nat → Nat} {n d p v : Nat} (h : p < n) (h1 : 48 ≤ a p) (h2 : a p ≤ 57) : dgs a n (d + 1) p v = dgs a n d (p + 1) (if 99 < v then v else 10 * v + a p - 48) := if_pos ⟨h, h1, h2⟩
theorem dgs_no {a : Nat → Nat} {n d p v : Nat} (h : ¬ (p < n ∧ 48 ≤ a p ∧ a p ≤ 57)) : dgs a n (d + 1) p v = (p, v) := if_neg h
def tS (a : Nat → Nat) (n p : Nat) : Nat := skp a n (n - p) p
def tD (a : Nat → Nat) (n p : Nat) : Nat × Nat := dgs a n (n - tS a n p) (tS a n p) 0
def tDk (a : Nat → Nat) (n p : Nat) : Nat := if 99 < (tD a n p).2 ∨ (a (tS a n p) = 48 ∧ 1 < (tD a n p).1 - tS a n p) then 4 else 2
def tLk (x : Nat) : Nat := if x = 59 then 3 else if 97 ≤ x ∧ x ≤ 122 then 1 else 4
def tK (a : Nat → Nat) (n p : Nat) : Nat := if n ≤ tS a n p then 0 else if 48 ≤ a (tS a n p) ∧ a (tS a n p) ≤ 57 then tDk a n p else tLk (a (tS a n p))
def tV (a : Nat → Nat) (n p : Nat) : Nat := if 48 ≤ a (tS a n p) ∧ a (tS a n p) ≤ 57 then (tD a n p).2 else a (tS a n p)
def tN (a : Nat → Nat) (n p : Nat) : Nat := if n ≤ tS a n p then tS a n p else if 48 ≤ a (tS a n p) ∧ a (tS a n p) ≤ 57 then (tD a n p).1 else tS a n p + 1
section TK
variable {a : Nat → Nat} {n p : Nat}
theorem tk_end (h : n ≤ tS a n p) : tK a n p = 0 ∧ tN a n p = tS a n p := ⟨if_pos h, if_pos h⟩
theorem tk_dig (h : ¬ n ≤ tS a n p) (h1 : 48 ≤ a (tS a n p)) (h2 : a (tS a n p) ≤ 57) : tK a n p = tDk a n p ∧ tV a n p = (tD a n p).2 ∧ tN a n p = (tD a n p).1 := ⟨(if_neg h).trans (if_pos ⟨h1, h2⟩), if_pos ⟨h1, h2⟩, (if_neg h).trans (if_pos ⟨h1, h2⟩)⟩
theorem tk_let (h : ¬ n ≤ tS a n p) (h1 : ¬ (48 ≤ a (tS a n p) ∧ a (tS a n p) ≤ 57)) : tK a n p = tLk (a (tS a n p)) ∧ tV a n p = a (tS a n p) ∧ tN a n p = tS a n p + 1 := ⟨(if_neg h).trans (if_neg h1), if_neg h1, (if_neg h).trans (if_neg h1)⟩
theorem tS_le (hp : p ≤ n) : p ≤ tS a n p ∧ tS a n p ≤ n := skp_le _ _ (by omega)
theorem tDk_2 : tDk a n p = 2 ∨ tDk a n p = 4 := by
  unfold tDk
  split
  · exact Or.inr rfl
  · exact Or.inl rfl
theorem tLk_v (x : Nat) : tLk x = 3 ∨ (tLk x = 1 ∧ 97 ≤ x ∧ x ≤ 122) ∨ tLk x = 4 := by
  unfold tLk
  split
  · exact Or.inl rfl
  · split
    · next h => exact Or.inr (Or.inl ⟨rfl, h⟩)
    · exact Or.inr (Or.inr rfl)
theorem tk_all (hp : p ≤ n) : (p ≤ tS a n p ∧ tS a n p ≤ n ∧ tN a n p ≤ n ∧ p ≤ tN a n p) ∧ (tK a n p ≠ 0 → p < tN a n p) ∧ (tK a n p = 1 → 97 ≤ tV a n p ∧ tV a n p ≤ 122) ∧ (tK a n p = 2 → tV a n p ≤ 99) ∧ tK a n p ≤ 4 := by
  obtain ⟨q1, q2⟩ := tS_le (a := a) hp
  by_cases h : n ≤ tS a n p
  · obtain ⟨e1, e2⟩ := tk_end h
    rw [e1, e2]
    refine ⟨⟨q1, q2, q2, q1⟩, fun z => absurd rfl z, fun z => absurd z (by decide), fun z => absurd z (by decide), by decide⟩
  · by_cases hd : 48 ≤ a (tS a n p) ∧ a (tS a n p) ≤ 57
    · obtain ⟨e1, e2, e3⟩ := tk_dig h hd.1 hd.2
      rw [e1, e2, e3]
      have g1 := dgs_le (a := a) (n := n) (n - tS a n p) (tS a n p) 0 (by omega)
      have g2 : tS a n p + 1 ≤ (tD a n p).1 := by
        unfold tD
        obtain ⟨d, hd2⟩ : ∃ d, n - tS a n p = d + 1 := ⟨n - tS a n p - 1, by omega⟩
        rw [hd2, dgs_yes (by omega) hd.1 hd.2]
        exact (dgs_le (a := a) (n := n) d (tS a n p + 1) _ (by omega)).1
      have g3 : (tD a n p).1 ≤ n := g1.2
      refine ⟨⟨q1, q2, g3, by omega⟩, fun _ => by omega, fun z => ?_, fun z => ?_, ?_⟩
      · rcases tDk_2 (a := a) (n := n) (p := p) with k | k <;> (rw [k] at z; exact absurd z (by decide))
      · unfold tDk at z
        split at z
        · exact absurd z (by decide)
        · next k => omega
      · rcases tDk_2 (a := a) (n := n) (p := p) with k | k <;> (rw [k]; decide)
    · obtain ⟨e1, e2, e3⟩ := tk_let h hd
      rw [e1, e2, e3]
      refine ⟨⟨q1, q2, by omega, by omega⟩, fun _ => by omega, fun z => ?_, fun z => ?_, ?_⟩
      · rcases tLk_v (a (tS a n p)) with k | k | k
        · rw [k] at z; exact absurd z (by decide)
        · exact k.2
        · rw [k] at z; exact absurd z (by decide)
      · rcases tLk_v (a (tS a n p)) with k | k | k
        · rw [k] at z; exact absurd z (by decide)
        · rw [k.1] at z; exact absurd z (by decide)
        · rw [k] at z; exact absurd z (by decide)
      · rcases tLk_v (a (tS a n p)) with k | k | k
        · rw [k]; decide
        · rw [k.1]; decide
        · rw [k]; decide
end TK
theorem g_up_up {σ : Nat → Nat → Int32} {p k : Nat} {v w : Int32} : g_up (g_up σ p k v) p k w = g_up σ p k w := by
  funext r j
  by_cases h : r = p
  · subst h
    by_cases e : j = k
    · subst e; rw [g_up_eq, g_up_eq]
    · rw [g_up_j e, g_up_j e, g_up_j e]
  · rw [g_up_ne h, g_up_ne h, g_up_ne h]
theorem g_up_self {σ : Nat → Nat → Int32} {p k : Nat} {v : Int32} (h : σ p k = v) : g_up σ p k v = σ := by
  funext r j
  by_cases e : r = p
  · subst e
    by_cases e2 : j = k
    · subst e2; rw [g_up_eq, h]
    · rw [g_up_j e2]
  · rw [g_up_ne e]
theorem g_up_sw {σ : Nat → Nat → Int32} {p k j : Nat} {v w : Int32} (hk : k ≠ j) : g_up (g_up σ p k v) p j w = g_up (g_up σ p j w) p k v := by
  funext r i
  by_cases h : r = p
  · subst h
    by_cases e : i = k
    · subst e; rw [g_up_j hk, g_up_eq, g_up_eq]
    · by_cases e2 : i = j
      · subst e2; rw [g_up_eq, g_up_j e, g_up_eq]
      · rw [g_up_j e2, g_up_j e, g_up_j e, g_up_j e2]
  · rw [g_up_ne h, g_up_ne h, g_up_ne h, g_up_ne h]
theorem ep_sig {X : gX} {m pc n : Nat} {L : gLo} {st : List Value} {ρ : gT2} {σ σ' : gT1} {P : Option Value → gS → Prop} (e : σ' = σ) (k : EvP X m pc L st (n, ρ, σ') P) : EvP X m pc L st (n, ρ, σ) P := e ▸ k
def TxC (σ : gT1) (a : Nat → Nat) (n : Nat) : Prop := σ 1 1 = nI n ∧ ∀ j, j < n → σ 2 j = nI (a j)
theorem TxC.fr {σ σ' : gT1} {a : Nat → Nat} {n : Nat} (h : TxC σ a n) (e1 : σ' 1 1 = σ 1 1) (e2 : σ' 2 = σ 2) : TxC σ' a n := ⟨e1.trans h.1, fun j hj => (congrFun e2 j).trans (h.2 j hj)⟩
def TxM (σ : gT1) (a : Nat → Nat) (n : Nat) : Prop := σ 31 2 = nI n ∧ ∀ j, j < n → σ 32 j = nI (a j)
def TokC (σ : gT1) (a : Nat → Nat) (n p : Nat) : Prop := σ 1 2 = nI (tN a n p) ∧ σ 1 3 = nI (tS a n p) ∧ σ 1 4 = nI (tK a n p) ∧ (tK a n p = 1 → σ 1 5 = nI (tV a n p - 97)) ∧ (tK a n p = 2 → σ 1 5 = nI (tV a n p))
def TokM (σ : gT1) (a : Nat → Nat) (n p : Nat) : Prop := σ 31 3 = nI (tN a n p) ∧ σ 31 5 = nI (tS a n p) ∧ σ 31 4 = nI (tK a n p) ∧ (tK a n p = 1 ∨ tK a n p = 2 → σ 31 6 = nI (tV a n p))
theorem L_sk {X : gX} {q : Bool} {σ : gT1} {a : Nat → Nat} {n : Nat} {P : Option Value → gS → Prop} (ha : ∀ j, a j < 256) (hn : n ≤ 120) (hx : TxC σ a n) {o1 : Option Value} : ∀ (d p : Nat), p + d = n → EvP X 18 38 [some (.ref 1), o1] [] (47, g_rho q, g_up σ 1 2 (nI (skp a n d p))) P → EvP X 18 0 [some (.ref 1), o1] [] (47, g_rho q, g_up σ 1 2 (nI p)) P
  | 0, p, hk, K => by
    refine ep_aln t18_0 rfl ?_
    refine ep_get t18_1 rfl (Nat.le_of_ble_eq_true rfl) rfl ?_
    refine ep_val (b := nI p) (rfl) ?_
    refine ep_aln t18_4 rfl ?_
    refine ep_get t18_5 rfl (Nat.le_of_ble_eq_true rfl) rfl ?_
    refine ep_val (b := nI n) (hx.1) ?_
    refine ep_ifP t18_8 (ic_ge (by have := ha p; omega) (by have := ha p; omega)) (fun (c8 : n ≤ p) => ?_) (fun (c8 : ¬ (n ≤ p)) => (by omega))
    exact K
  | d + 1, p, hk, K => by
    refine ep_aln t18_0 rfl ?_
    refine ep_get t18_1 rfl (Nat.le_of_ble_eq_true rfl) rfl ?_
    refine ep_val (b := nI p) (rfl) ?_
    refine ep_aln t18_4 rfl ?_
    refine ep_get t18_5 rfl (Nat.le_of_ble_eq_true rfl) rfl ?_
    refine ep_val (b := nI n) (hx.1) ?_
    refine ep_ifP t18_8 (ic_ge (by have := ha p; omega) (by have := ha p; omega)) (fun (c8 : n ≤ p) => (by omega)) (fun (c8 : ¬ (n ≤ p)) => ?_)
    refine ep_aln t18_11 rfl ?_
    refine ep_getr (q := 2) t18_12 rfl (Nat.le_of_ble_eq_true rfl) rfl (rfl) ?_
    refine ep_aln t18_15 rfl ?_
    refine ep_get t18_16 rfl (Nat.le_of_ble_eq_true rfl) rfl ?_
    refine ep_val (b := nI p) (rfl) ?_
    refine ep_aldN t18_19 rfl (Nat.le_of_ble_eq_true rfl) (Nat.ne_of_beq_eq_false rfl) (Nat.le_of_ble_eq_true rfl) (by have := ha p; omega) ?_
    refine ep_val (b := nI (a p)) (hx.2 _ (by omega)) ?_
    refine ep_k2 (w := nI 32) t18_20 rfl ?_
    refine ep_ifP t18_22 (ic_ne (by have := ha p; omega) (by have := ha p; omega)) (fun (c22 : ¬ (a p) = 32) => ?_) (fun (c22 : ¬ (¬ (a p) = 32)) => ?_)
    · rw [skp_no (fun h => c22 h.2)] at K
      exact K
    · refine ep_aln t18_25 rfl ?_
      refine ep_dup t18_26 rfl ?_
      refine ep_get t18_27 rfl (Nat.le_of_ble_eq_true rfl) rfl ?_
      refine ep_val (b := nI p) (rfl) ?_
      refine ep_k1 (w := nI 1) t18_30 rfl ?_
      refine ep_addN (a := p) (b := 1) t18_31 ?_
      refine ep_put t18_32 rfl (Nat.le_of_ble_eq_true rfl) rfl ?_
      refine ep_gt t18_35 ?_
      rw [g_up_up]
      rw [skp_yes (by omega) (Classical.byContradiction c22)] at K
      exact L_sk ha hn hx d (p + 1) (by omega) K
theorem L_dgc {X : gX} {q : Bool} {σ : gT1} {a : Nat → Nat} {n : Nat} {P : Option Value → gS → Prop} (ha : ∀ j, a j < 256) (hn : n ≤ 120) (hx : TxC σ a n) {o2 : Option Value} : ∀ (d p v : Nat), p + d = n → v ≤ 999 → EvP X 16 78 [some (.ref 1), some (.int (nI ((dgs a n d p v).2))), o2] [] (47, g_rho q, g_up σ 1 2 (nI (dgs a n d p v).1)) P → EvP X 16 2 [some (.ref 1), some (.int (nI v)), o2] [] (47, g_rho q, g_up σ 1 2 (nI p)) P
  | 0, p, v, hk, hv, K => by
    refine ep_aln t16_2 rfl ?_
    refine ep_get t16_3 rfl (Nat.le_of_ble_eq_true rfl) rfl ?_
    refine ep_val (b := nI p) (rfl) ?_
    refine ep_aln t16_6 rfl ?_
    refine ep_get t16_7 rfl (Nat.le_of_ble_eq_true rfl) rfl ?_
    refine ep_val (b := nI n) (hx.1) ?_
    refine ep_ifP t16_10 (ic_ge (by have := ha p; omega) (by have := ha p; omega)) (fun (c10 : n ≤ p) => ?_) (fun (c10 : ¬ (n ≤ p)) => (by omega))
    exact K
  | d + 1, p, v, hk, hv, K => by
    refine ep_aln t16_2 rfl ?_
    refine ep_get t16_3 rfl (Nat.le_of_ble_eq_true rfl) rfl ?_
    refine ep_val (b := nI p) (rfl) ?_
    refine ep_aln t16_6 rfl ?_
    refine ep_get t16_7 rfl (Nat.le_of_ble_eq_true rfl) rfl ?_
    refine ep_val (b := nI n) (hx.1) ?_
    refine ep_ifP t16_10 (ic_ge (by have := ha p; omega) (by have := ha p; omega)) (fun (c10 : n ≤ p) => (by omega)) (fun (c10 : ¬ (n ≤ p)) => ?_)
    refine ep_aln t16_13 rfl ?_
    refine ep_getr (q := 2) t16_14 rfl (Nat.le_of_ble_eq_true rfl) rfl (rfl) ?_
    refine ep_aln t16_17 rfl ?_
    refine ep_get t16_18 rfl (Nat.le_of_ble_eq_true rfl) rfl ?_
    refine ep_val (b := nI p) (rfl) ?_
    refine ep_aldN t16_21 rfl (Nat.le_of_ble_eq_true rfl) (Nat.ne_of_beq_eq_false rfl) (Nat.le_of_ble_eq_true rfl) (by have := ha p; omega) ?_
    refine ep_val (b := nI (a p)) (hx.2 _ (by omega)) ?_
    refine ep_k2 (w := nI 48) t16_22 rfl ?_
    refine ep_ifP t16_24 (ic_lt (by have := ha p; omega) (by have := ha p; omega)) (fun (c24 : (a p) < 48) => ?_) (fun (c24 : ¬ ((a p) < 48)) => ?_)
    · rw [dgs_no (by omega)] at K
      exact K
    · refine ep_aln t16_27 rfl ?_
      refine ep_getr (q := 2) t16_28 rfl (Nat.le_of_ble_eq_true rfl) rfl (rfl) ?_
      refine ep_aln t16_31 rfl ?_
      refine ep_get t16_32 rfl (Nat.le_of_ble_eq_true rfl) rfl ?_
      refine ep_val (b := nI p) (rfl) ?_
      refine ep_aldN t16_35 rfl (Nat.le_of_ble_eq_true rfl) (Nat.ne_of_beq_eq_false rfl) (Nat.le_of_ble_eq_true rfl) (by have := ha p; omega) ?_
      refine ep_val (b := nI (a p)) (hx.2 _ (by omega)) ?_
      refine ep_k2 (w := nI 57) t16_36 rfl ?_
      refine ep_ifP t16_38 (ic_gt (by have := ha p; omega) (by have := ha p; omega)) (fun (c38 : 57 < (a p)) => ?_) (fun (c38 : ¬ (57 < (a p))) => ?_)
      · rw [dgs_no (by omega)] at K
        exact K
      · refine ep_iln t16_41 rfl ?_
        refine ep_k2 (w := nI 99) t16_42 rfl ?_
        refine ep_ifP t16_44 (ic_gt (by have := ha p; omega) (by have := ha p; omega)) (fun (c44 : 99 < v) => ?_) (fun (c44 : ¬ (99 < v)) => ?_)
        · refine ep_aln t16_65 rfl ?_
          refine ep_dup t16_66 rfl ?_
          refine ep_get t16_67 rfl (Nat.le_of_ble_eq_true rfl) rfl ?_
          refine ep_val (b := nI p) (rfl) ?_
          refine ep_k1 (w := nI 1) t16_70 rfl ?_
          refine ep_addN (a := p) (b := 1) t16_71 ?_
          refine ep_put t16_72 rfl (Nat.le_of_ble_eq_true rfl) rfl ?_
          refine ep_gt t16_75 ?_
          rw [g_up_up]
          rw [dgs_yes (by omega) (Nat.not_lt.mp c24) (Nat.not_lt.mp c38), if_pos c44] at K
          exact L_dgc ha hn hx d (p + 1) _ (by omega) (by have := ha p; omega) K
        · refine ep_k2 (w := nI 10) t16_47 rfl ?_
          refine ep_iln t16_49 rfl ?_
          refine ep_mulN (a := 10) (b := v) t16_50 ?_
          refine ep_aln t16_51 rfl ?_
          refine ep_getr (q := 2) t16_52 rfl (Nat.le_of_ble_eq_true rfl) rfl (rfl) ?_
          refine ep_aln t16_55 rfl ?_
          refine ep_get t16_56 rfl (Nat.le_of_ble_eq_true rfl) rfl ?_
          refine ep_val (b := nI p) (rfl) ?_
          refine ep_aldN t16_59 rfl (Nat.le_of_ble_eq_true rfl) (Nat.ne_of_beq_eq_false rfl) (Nat.le_of_ble_eq_true rfl) (by have := ha p; omega) ?_
          refine ep_val (b := nI (a p)) (hx.2 _ (by omega)) ?_
          refine ep_addN (a := 10 * v) (b := a p) t16_60 ?_
          refine ep_k2 (w := nI 48) t16_61 rfl ?_
          refine ep_subN (a := (10 * v) + (a p)) (b := 48) t16_63 (by have := ha p; omega) ?_
          refine ep_isn (L' := [some (.ref 1), some (.int (nI (((10 * v) + (a p)) - 48))), o2]) t16_64 rfl (Nat.le_of_ble_eq_true rfl) ?_
          refine ep_aln t16_65 rfl ?_
          refine ep_dup t16_66 rfl ?_
          refine ep_get t16_67 rfl (Nat.le_of_ble_eq_true rfl) rfl ?_
          refine ep_val (b := nI p) (rfl) ?_
          refine ep_k1 (w := nI 1) t16_70 rfl ?_
          refine ep_addN (a := p) (b := 1) t16_71 ?_
          refine ep_put t16_72 rfl (Nat.le_of_ble_eq_true rfl) rfl ?_
          refine ep_gt t16_75 ?_
          rw [g_up_up]
          rw [dgs_yes (by omega) (Nat.not_lt.mp c24) (Nat.not_lt.mp c38), if_neg c44] at K
          exact L_dgc ha hn hx d (p + 1) _ (by omega) (by have := ha p; omega) K
theorem cl_Text_readNumber {X : gX} {q : Bool} {σ : gT1} {a : Nat → Nat} {n : Nat} (ha : ∀ j, a j < 256) (hn : n ≤ 120) (hx : TxC σ a n) {p : Nat} (hp : p ≤ n) (hs : tS a n p < n) (e2 : σ 1 2 = nI (tS a n p)) (e3 : σ 1 3 = nI (tS a n p)) : ClP X 16 [.ref 1] (47, g_rho q, σ) (fun v g1 => v = none ∧ g1 = (47, g_rho q, g_up (g_up (g_up σ 1 2 (nI (tD a n p).1)) 1 5 (nI (tD a n p).2)) 1 4 (nI (tDk a n p)))) := by
  have hd1 : (tD a n p).1 ≤ n := (dgs_le (n - tS a n p) (tS a n p) 0 (by omega)).2
  have hd0 : tS a n p ≤ (tD a n p).1 := (dgs_le (n - tS a n p) (tS a n p) 0 (by omega)).1
  have hdv : (tD a n p).2 ≤ 999 := dgs_v (n - tS a n p) (tS a n p) 0 (by decide)
  refine ClP.of ⟨Nat.le_of_ble_eq_true rfl, rfl⟩ ?_
  show EvP X 16 0 [some (.ref 1), none, none] [] (47, g_rho q, σ) _
  refine ep_k1 (w := nI 0) t16_0 rfl ?_
  refine ep_isn (L' := [some (.ref 1), some (.int (nI 0)), none]) t16_1 rfl (Nat.le_of_ble_eq_true rfl) ?_
  refine ep_sig (g_up_self e2) ?_
  refine L_dgc ha hn hx (n - tS a n p) (tS a n p) 0 (by omega) (by decide) ?_
  show EvP X 16 78 [some (.ref 1), some (.int (nI ((tD a n p).2))), none] [] (47, g_rho q, g_up σ 1 2 (nI (tD a n p).1)) _
  refine ep_aln t16_78 rfl ?_
  refine ep_getr (q := 2) t16_79 rfl (Nat.le_of_ble_eq_true rfl) rfl (rfl) ?_
  refine ep_aln t16_82 rfl ?_
  refine ep_get t16_83 rfl (Nat.le_of_ble_eq_true rfl) rfl ?_
  refine ep_val (b := nI (tS a n p)) (e3) ?_
  refine ep_aldN t16_86 rfl (Nat.le_of_ble_eq_true rfl) (Nat.ne_of_beq_eq_false rfl) (Nat.le_of_ble_eq_true rfl) (by have := ha (tS a n p); omega) ?_
  refine ep_val (b := nI (a (tS a n p))) (hx.2 _ hs) ?_
  refine ep_k2 (w := nI 48) t16_87 rfl ?_
  refine ep_ifP t16_89 (ic_ne (by have := ha (tS a n p); omega) (by have := ha (tS a n p); omega)) (fun (c89 : ¬ (a (tS a n p)) = 48) => ?_) (fun (c89 : ¬ (¬ (a (tS a n p)) = 48)) => ?_)
  · refine ep_k1 (w := nI 0) t16_109 rfl ?_
    refine ep_isn (L' := [some (.ref 1), some (.int (nI ((tD a n p).2))), some (.int (nI 0))]) t16_110 rfl (Nat.le_of_ble_eq_true rfl) ?_
    refine ep_aln t16_111 rfl ?_
    refine ep_iln t16_112 rfl ?_
    refine ep_put t16_113 rfl (Nat.le_of_ble_eq_true rfl) rfl ?_
    refine ep_aln t16_116 rfl ?_
    refine ep_iln t16_117 rfl ?_
    refine ep_k2 (w := nI 99) t16_118 rfl ?_
    refine ep_ifP t16_120 (ic_gt (by have := ha (tS a n p); omega) (by have := ha (tS a n p); omega)) (fun (c120 : 99 < ((tD a n p).2)) => ?_) (fun (c120 : ¬ (99 < ((tD a n p).2))) => ?_)
    · refine ep_k1 (w := nI 4) t16_127 rfl ?_
      refine ep_gt t16_128 ?_
      refine ep_put t16_132 rfl (Nat.le_of_ble_eq_true rfl) rfl ?_
      refine ep_rv t16_135 ?_
      refine ⟨rfl, ?_⟩
      rw [show tDk a n p = 4 from if_pos (by first | exact Or.inl c120 | exact Or.inr ⟨Classical.byContradiction c89, by omega⟩)]
    · refine ep_iln t16_123 rfl ?_
      refine ep_if0P t16_124 (ic0_eq (by have := ha (tS a n p); omega)) (fun (c124 : 0 = 0) => ?_) (fun (c124 : ¬ (0 = 0)) => (by omega))
      refine ep_k1 (w := nI 2) t16_131 rfl ?_
      refine ep_put t16_132 rfl (Nat.le_of_ble_eq_true rfl) rfl ?_
      refine ep_rv t16_135 ?_
      refine ⟨rfl, ?_⟩
      rw [show tDk a n p = 2 from if_neg (by omega)]
  · refine ep_aln t16_92 rfl ?_
    refine ep_get t16_93 rfl (Nat.le_of_ble_eq_true rfl) rfl ?_
    refine ep_val (b := nI ((tD a n p).1)) (rfl) ?_
    refine ep_aln t16_96 rfl ?_
    refine ep_get t16_97 rfl (Nat.le_of_ble_eq_true rfl) rfl ?_
    refine ep_val (b := nI (tS a n p)) (e3) ?_
    refine ep_subN (a := (tD a n p).1) (b := tS a n p) t16_100 (by have := ha (tS a n p); omega) ?_
    refine ep_k1 (w := nI 1) t16_101 rfl ?_
    refine ep_ifP t16_102 (ic_le (by have := ha (tS a n p); omega) (by have := ha (tS a n p); omega)) (fun (c102 : (((tD a n p).1) - (tS a n p)) ≤ 1) => ?_) (fun (c102 : ¬ ((((tD a n p).1) - (tS a n p)) ≤ 1)) => ?_)
    · refine ep_k1 (w := nI 0) t16_109 rfl ?_
      refine ep_isn (L' := [some (.ref 1), some (.int (nI ((tD a n p).2))), some (.int (nI 0))]) t16_110 rfl (Nat.le_of_ble_eq_true rfl) ?_
      refine ep_aln t16_111 rfl ?_
      refine ep_iln t16_112 rfl ?_
      refine ep_put t16_113 rfl (Nat.le_of_ble_eq_true rfl) rfl ?_
      refine ep_aln t16_116 rfl ?_
      refine ep_iln t16_117 rfl ?_
      refine ep_k2 (w := nI 99) t16_118 rfl ?_
      refine ep_ifP t16_120 (ic_gt (by have := ha (tS a n p); omega) (by have := ha (tS a n p); omega)) (fun (c120 : 99 < ((tD a n p).2)) => ?_) (fun (c120 : ¬ (99 < ((tD a n p).2))) => ?_)
      · refine ep_k1 (w := nI 4) t16_127 rfl ?_
        refine ep_gt t16_128 ?_
        refine ep_put t16_132 rfl (Nat.le_of_ble_eq_true rfl) rfl ?_
        refine ep_rv t16_135 ?_
        refine ⟨rfl, ?_⟩
        rw [show tDk a n p = 4 from if_pos (by first | exact Or.inl c120 | exact Or.inr ⟨Classical.byContradiction c89, by omega⟩)]
      · refine ep_iln t16_123 rfl ?_
        refine ep_if0P t16_124 (ic0_eq (by have := ha (tS a n p); omega)) (fun (c124 : 0 = 0) => ?_) (fun (c124 : ¬ (0 = 0)) => (by omega))
        refine ep_k1 (w := nI 2) t16_131 rfl ?_
        refine ep_put t16_132 rfl (Nat.le_of_ble_eq_true rfl) rfl ?_
        refine ep_rv t16_135 ?_
        refine ⟨rfl, ?_⟩
        rw [show tDk a n p = 2 from if_neg (by omega)]
    · refine ep_k1 (w := nI 1) t16_105 rfl ?_
      refine ep_gt t16_106 ?_
      refine ep_isn (L' := [some (.ref 1), some (.int (nI ((tD a n p).2))), some (.int (nI 1))]) t16_110 rfl (Nat.le_of_ble_eq_true rfl) ?_
      refine ep_aln t16_111 rfl ?_
      refine ep_iln t16_112 rfl ?_
      refine ep_put t16_113 rfl (Nat.le_of_ble_eq_true rfl) rfl ?_
      refine ep_aln t16_116 rfl ?_
      refine ep_iln t16_117 rfl ?_
      refine ep_k2 (w := nI 99) t16_118 rfl ?_
      refine ep_ifP t16_120 (ic_gt (by have := ha (tS a n p); omega) (by have := ha (tS a n p); omega)) (fun (c120 : 99 < ((tD a n p).2)) => ?_) (fun (c120 : ¬ (99 < ((tD a n p).2))) => ?_)
      · refine ep_k1 (w := nI 4) t16_127 rfl ?_
        refine ep_gt t16_128 ?_
        refine ep_put t16_132 rfl (Nat.le_of_ble_eq_true rfl) rfl ?_
        refine ep_rv t16_135 ?_
        refine ⟨rfl, ?_⟩
        rw [show tDk a n p = 4 from if_pos (by first | exact Or.inl c120 | exact Or.inr ⟨Classical.byContradiction c89, by omega⟩)]
      · refine ep_iln t16_123 rfl ?_
        refine ep_if0P t16_124 (ic0_eq (by have := ha (tS a n p); omega)) (fun (c124 : 1 = 0) => (by omega)) (fun (c124 : ¬ (1 = 0)) => ?_)
        refine ep_k1 (w := nI 4) t16_127 rfl ?_
        refine ep_gt t16_128 ?_
        refine ep_put t16_132 rfl (Nat.le_of_ble_eq_true rfl) rfl ?_
        refine ep_rv t16_135 ?_
        refine ⟨rfl, ?_⟩
        rw [show tDk a n p = 4 from if_pos (by first | exact Or.inl c120 | exact Or.inr ⟨Classical.byContradiction c89, by omega⟩)]

theorem cl_Text_advance {X : gX} {q : Bool} {σ : gT1} {a : Nat → Nat} {n : Nat} (ha : ∀ j, a j < 256) (hn : n ≤ 120) (hx : TxC σ a n) {p : Nat} (hp : p ≤ n) (e2 : σ 1 2 = nI p) : ClP X 18 [.ref 1] (47, g_rho q, σ) (fun v g1 => v = none ∧ ∃ σ1, g1 = (47, g_rho q, σ1) ∧ (∀ r, r ≠ 1 → σ1 r = σ r) ∧ σ1 1 1 = σ 1 1 ∧ TokC σ1 a n p) := by
  have hs1 := tS_le (a := a) hp
  refine ClP.of ⟨Nat.le_of_ble_eq_true rfl, rfl⟩ ?_
  show EvP X 18 0 [some (.ref 1), none] [] (47, g_rho q, σ) _
  refine ep_sig (g_up_self e2) ?_
  refine L_sk ha hn hx (n - p) p (by omega) ?_
  show EvP X 18 38 [some (.ref 1), none] [] (47, g_rho q, g_up σ 1 2 (nI (tS a n p))) _
  refine ep_aln t18_38 rfl ?_
  refine ep_aln t18_39 rfl ?_
  refine ep_get t18_40 rfl (Nat.le_of_ble_eq_true rfl) rfl ?_
  refine ep_val (b := nI (tS a n p)) (rfl) ?_
  refine ep_put t18_43 rfl (Nat.le_of_ble_eq_true rfl) rfl ?_
  refine ep_aln t18_46 rfl ?_
  refine ep_get t18_47 rfl (Nat.le_of_ble_eq_true rfl) rfl ?_
  refine ep_val (b := nI (tS a n p)) (rfl) ?_
  refine ep_aln t18_50 rfl ?_
  refine ep_get t18_51 rfl (Nat.le_of_ble_eq_true rfl) rfl ?_
  refine ep_val (b := nI n) (hx.1) ?_
  refine ep_ifP t18_54 (ic_lt (by have := ha (tS a n p); omega) (by have := ha (tS a n p); omega)) (fun (c54 : (tS a n p) < n) => ?_) (fun (c54 : ¬ ((tS a n p) < n)) => ?_)
  · refine ep_aln t18_63 rfl ?_
    refine ep_getr (q := 2) t18_64 rfl (Nat.le_of_ble_eq_true rfl) rfl (rfl) ?_
    refine ep_aln t18_67 rfl ?_
    refine ep_get t18_68 rfl (Nat.le_of_ble_eq_true rfl) rfl ?_
    refine ep_val (b := nI (tS a n p)) (rfl) ?_
    refine ep_aldN t18_71 rfl (Nat.le_of_ble_eq_true rfl) (Nat.ne_of_beq_eq_false rfl) (Nat.le_of_ble_eq_true rfl) (by have := ha (tS a n p); omega) ?_
    refine ep_val (b := nI (a (tS a n p))) (hx.2 _ (by omega)) ?_
    refine ep_isn (L' := [some (.ref 1), some (.int (nI (a (tS a n p))))]) t18_72 rfl (Nat.le_of_ble_eq_true rfl) ?_
    refine ep_iln t18_73 rfl ?_
    refine ep_k2 (w := nI 48) t18_74 rfl ?_
    refine ep_ifP t18_76 (ic_lt (by have := ha (tS a n p); omega) (by have := ha (tS a n p); omega)) (fun (c76 : (a (tS a n p)) < 48) => ?_) (fun (c76 : ¬ ((a (tS a n p)) < 48)) => ?_)
    · refine ep_aln t18_90 rfl ?_
      refine ep_dup t18_91 rfl ?_
      refine ep_get t18_92 rfl (Nat.le_of_ble_eq_true rfl) rfl ?_
      refine ep_val (b := nI (tS a n p)) (rfl) ?_
      refine ep_k1 (w := nI 1) t18_95 rfl ?_
      refine ep_addN (a := tS a n p) (b := 1) t18_96 ?_
      refine ep_put t18_97 rfl (Nat.le_of_ble_eq_true rfl) rfl ?_
      refine ep_aln t18_100 rfl ?_
      refine ep_iln t18_101 rfl ?_
      refine ep_k2 (w := nI 97) t18_102 rfl ?_
      refine ep_sub t18_104 ?_
      refine ep_put t18_105 rfl (Nat.le_of_ble_eq_true rfl) rfl ?_
      refine ep_aln t18_108 rfl ?_
      refine ep_iln t18_109 rfl ?_
      refine ep_k2 (w := nI 59) t18_110 rfl ?_
      refine ep_ifP t18_112 (ic_ne (by have := ha (tS a n p); omega) (by have := ha (tS a n p); omega)) (fun (c112 : ¬ (a (tS a n p)) = 59) => ?_) (fun (c112 : ¬ (¬ (a (tS a n p)) = 59)) => ?_)
      · refine ep_iln t18_119 rfl ?_
        refine ep_cs t18_120 (Nat.ne_of_beq_eq_false rfl) rfl (Nat.le_of_ble_eq_true rfl) (cl_B_isName _) ?_
        refine ep_bF t18_123 (fun (c123 : (inB (nI (a (tS a n p))) 97 122) = false) => ?_) (fun (c123 : (inB (nI (a (tS a n p))) 97 122) = true) => ?_)
        · refine ep_k1 (w := nI 4) t18_130 rfl ?_
          refine ep_put t18_131 rfl (Nat.le_of_ble_eq_true rfl) rfl ?_
          refine ep_rv t18_134 ?_
          obtain ⟨k1, k2, k3⟩ := tk_let (a := a) (n := n) (p := p) (by omega) (by omega)
          have k4 : tLk (a (tS a n p)) = 4 := (if_neg c112).trans (if_neg (by rw [inB_nI (by have := ha (tS a n p); omega)] at c123; exact of_decide_eq_false c123))
          have k5 := k1.trans k4
          exact ⟨rfl, _, rfl, fun r hr => by repeat rw [g_up_ne hr], rfl, by rw [k3]; rfl, rfl, by rw [k5]; rfl, fun z => absurd (k5.symm.trans z) (by decide), fun z => absurd (k5.symm.trans z) (by decide)⟩
        · refine ep_k1 (w := nI 1) t18_126 rfl ?_
          refine ep_gt t18_127 ?_
          refine ep_put t18_131 rfl (Nat.le_of_ble_eq_true rfl) rfl ?_
          refine ep_rv t18_134 ?_
          obtain ⟨k1, k2, k3⟩ := tk_let (a := a) (n := n) (p := p) (by omega) (by omega)
          have k4 : tLk (a (tS a n p)) = 1 := (if_neg c112).trans (if_pos (by rw [inB_nI (by have := ha (tS a n p); omega)] at c123; exact of_decide_eq_true c123))
          have k5 := k1.trans k4
          exact ⟨rfl, _, rfl, fun r hr => by repeat rw [g_up_ne hr], rfl, by rw [k3]; rfl, rfl, by rw [k5]; rfl, fun z => by rw [k2]; show nI (a (tS a n p)) - nI 97 = nI (a (tS a n p) - 97); exact pk_sub (by have := (tk_all (a := a) hp).2.2.1 k5; omega), fun z => absurd (k5.symm.trans z) (by decide)⟩
      · refine ep_k1 (w := nI 3) t18_115 rfl ?_
        refine ep_gt t18_116 ?_
        refine ep_put t18_131 rfl (Nat.le_of_ble_eq_true rfl) rfl ?_
        refine ep_rv t18_134 ?_
        obtain ⟨k1, k2, k3⟩ := tk_let (a := a) (n := n) (p := p) (by omega) (by omega)
        have k4 : tLk (a (tS a n p)) = 3 := if_pos (Classical.byContradiction c112)
        have k5 := k1.trans k4
        exact ⟨rfl, _, rfl, fun r hr => by repeat rw [g_up_ne hr], rfl, by rw [k3]; rfl, rfl, by rw [k5]; rfl, fun z => absurd (k5.symm.trans z) (by decide), fun z => absurd (k5.symm.trans z) (by decide)⟩
    · refine ep_iln t18_79 rfl ?_
      refine ep_k2 (w := nI 57) t18_80 rfl ?_
      refine ep_ifP t18_82 (ic_gt (by have := ha (tS a n p); omega) (by have := ha (tS a n p); omega)) (fun (c82 : 57 < (a (tS a n p))) => ?_) (fun (c82 : ¬ (57 < (a (tS a n p)))) => ?_)
      · refine ep_aln t18_90 rfl ?_
        refine ep_dup t18_91 rfl ?_
        refine ep_get t18_92 rfl (Nat.le_of_ble_eq_true rfl) rfl ?_
        refine ep_val (b := nI (tS a n p)) (rfl) ?_
        refine ep_k1 (w := nI 1) t18_95 rfl ?_
        refine ep_addN (a := tS a n p) (b := 1) t18_96 ?_
        refine ep_put t18_97 rfl (Nat.le_of_ble_eq_true rfl) rfl ?_
        refine ep_aln t18_100 rfl ?_
        refine ep_iln t18_101 rfl ?_
        refine ep_k2 (w := nI 97) t18_102 rfl ?_
        refine ep_sub t18_104 ?_
        refine ep_put t18_105 rfl (Nat.le_of_ble_eq_true rfl) rfl ?_
        refine ep_aln t18_108 rfl ?_
        refine ep_iln t18_109 rfl ?_
        refine ep_k2 (w := nI 59) t18_110 rfl ?_
        refine ep_ifP t18_112 (ic_ne (by have := ha (tS a n p); omega) (by have := ha (tS a n p); omega)) (fun (c112 : ¬ (a (tS a n p)) = 59) => ?_) (fun (c112 : ¬ (¬ (a (tS a n p)) = 59)) => ?_)
        · refine ep_iln t18_119 rfl ?_
          refine ep_cs t18_120 (Nat.ne_of_beq_eq_false rfl) rfl (Nat.le_of_ble_eq_true rfl) (cl_B_isName _) ?_
          refine ep_bF t18_123 (fun (c123 : (inB (nI (a (tS a n p))) 97 122) = false) => ?_) (fun (c123 : (inB (nI (a (tS a n p))) 97 122) = true) => ?_)
          · refine ep_k1 (w := nI 4) t18_130 rfl ?_
            refine ep_put t18_131 rfl (Nat.le_of_ble_eq_true rfl) rfl ?_
            refine ep_rv t18_134 ?_
            obtain ⟨k1, k2, k3⟩ := tk_let (a := a) (n := n) (p := p) (by omega) (by omega)
            have k4 : tLk (a (tS a n p)) = 4 := (if_neg c112).trans (if_neg (by rw [inB_nI (by have := ha (tS a n p); omega)] at c123; exact of_decide_eq_false c123))
            have k5 := k1.trans k4
            exact ⟨rfl, _, rfl, fun r hr => by repeat rw [g_up_ne hr], rfl, by rw [k3]; rfl, rfl, by rw [k5]; rfl, fun z => absurd (k5.symm.trans z) (by decide), fun z => absurd (k5.symm.trans z) (by decide)⟩
          · refine ep_k1 (w := nI 1) t18_126 rfl ?_
            refine ep_gt t18_127 ?_
            refine ep_put t18_131 rfl (Nat.le_of_ble_eq_true rfl) rfl ?_
            refine ep_rv t18_134 ?_
            obtain ⟨k1, k2, k3⟩ := tk_let (a := a) (n := n) (p := p) (by omega) (by omega)
            have k4 : tLk (a (tS a n p)) = 1 := (if_neg c112).trans (if_pos (by rw [inB_nI (by have := ha (tS a n p); omega)] at c123; exact of_decide_eq_true c123))
            have k5 := k1.trans k4
            exact ⟨rfl, _, rfl, fun r hr => by repeat rw [g_up_ne hr], rfl, by rw [k3]; rfl, rfl, by rw [k5]; rfl, fun z => by rw [k2]; show nI (a (tS a n p)) - nI 97 = nI (a (tS a n p) - 97); exact pk_sub (by have := (tk_all (a := a) hp).2.2.1 k5; omega), fun z => absurd (k5.symm.trans z) (by decide)⟩
        · refine ep_k1 (w := nI 3) t18_115 rfl ?_
          refine ep_gt t18_116 ?_
          refine ep_put t18_131 rfl (Nat.le_of_ble_eq_true rfl) rfl ?_
          refine ep_rv t18_134 ?_
          obtain ⟨k1, k2, k3⟩ := tk_let (a := a) (n := n) (p := p) (by omega) (by omega)
          have k4 : tLk (a (tS a n p)) = 3 := if_pos (Classical.byContradiction c112)
          have k5 := k1.trans k4
          exact ⟨rfl, _, rfl, fun r hr => by repeat rw [g_up_ne hr], rfl, by rw [k3]; rfl, rfl, by rw [k5]; rfl, fun z => absurd (k5.symm.trans z) (by decide), fun z => absurd (k5.symm.trans z) (by decide)⟩
      · refine ep_aln t18_85 rfl ?_
        obtain ⟨v9, g9, h9, rfl, rfl⟩ := cl_Text_readNumber (X := X) (q := q) (σ := g_up (g_up σ 1 2 (nI (tS a n p))) 1 3 (nI (tS a n p))) (a := a) (n := n) (p := p) ha hn (hx.fr rfl rfl) hp (by omega) rfl rfl
        refine ep_cv t18_86 rfl rfl (Nat.le_of_ble_eq_true rfl) (Nat.le_of_ble_eq_true rfl) (h9) ?_
        refine ep_rv t18_89 ?_
        obtain ⟨k1, k2, k3⟩ := tk_dig (a := a) (n := n) (p := p) (by omega) (Nat.not_lt.mp c76) (Nat.not_lt.mp c82)
        refine ⟨rfl, _, rfl, fun r hr => by repeat rw [g_up_ne hr], rfl, by rw [k3]; rfl, rfl, by rw [k1]; rfl, fun z => ?_, fun z => by rw [k2]; rfl⟩
        rcases tDk_2 (a := a) (n := n) (p := p) with k | k <;> exact absurd (k.symm.trans (k1.symm.trans z)) (by decide)
  · refine ep_aln t18_57 rfl ?_
    refine ep_k1 (w := nI 0) t18_58 rfl ?_
    refine ep_put t18_59 rfl (Nat.le_of_ble_eq_true rfl) rfl ?_
    refine ep_rv t18_62 ?_
    obtain ⟨k1, k2⟩ := tk_end (a := a) (n := n) (p := p) (by omega)
    exact ⟨rfl, _, rfl, fun r hr => by repeat rw [g_up_ne hr], rfl, by rw [k2]; rfl, rfl, by rw [k1]; rfl, fun z => absurd (k1.symm.trans z) (by decide), fun z => absurd (k1.symm.trans z) (by decide)⟩

theorem cl_B_bit32 {X : gX} {g : gS} {a k : Nat} (ha : a < 2147483648) (hk : k < 32) : Cl X 19 [.int (nI a), .int (nI k)] g (some (.int (bI (a.testBit k)))) g := by
  refine Cl.of ⟨Nat.le_of_ble_eq_true rfl, rfl⟩ ?_
  show EvP X 19 0 [some (.int (nI a)), some (.int (nI k))] [] g _
  refine ep_iln t19_0 rfl ?_
  refine ep_iln t19_1 rfl ?_
  refine ep_shr t19_2 ?_
  refine ep_val (b := nI (a / 2 ^ k)) (nx_shr hk ha) ?_
  refine ep_k1 (w := nI 1) t19_3 rfl ?_
  refine ep_andN (a := a / 2 ^ k) (b := 1) t19_4 ?_
  refine ep_val (b := bI (a.testBit k)) ((congrArg nI (Nat.and_one_is_mod _)).trans bI_bit) ?_
  refine ep_ri t19_5 (fun h => absurd h (by decide)) ?_
  exact ⟨rfl, rfl⟩

theorem cl_Text_take1 {X : gX} {q : Bool} {σ : gT1} {a : Nat → Nat} {n : Nat} (ha : ∀ j, a j < 256) (hn : n ≤ 120) (hx : TxC σ a n) {p al : Nat} (hp : p ≤ n) (e2 : σ 1 2 = nI p) (hal : al < 2147483648) : ClP X 20 [.ref 1, .int (nI 1), .int (nI al)] (47, g_rho q, σ) (fun v g1 => ∃ σ1, g1 = (47, g_rho q, σ1) ∧ (∀ r, r ≠ 1 → σ1 r = σ r) ∧ σ1 1 1 = σ 1 1 ∧ TokC σ1 a n p ∧ ((tK a n p = 1 ∧ al.testBit (tV a n p - 97) = true ∧ v = some (.int (nI (tV a n p - 97)))) ∨ (¬ (tK a n p = 1 ∧ al.testBit (tV a n p - 97) = true) ∧ v = some (.int (-1))))) := by
  have hk4 := (tk_all (a := a) hp).2.2.2.2
  refine ClP.of ⟨Nat.le_of_ble_eq_true rfl, rfl⟩ ?_
  show EvP X 20 0 [some (.ref 1), some (.int (nI 1)), some (.int (nI al)), none] [] (47, g_rho q, σ) _
  refine ep_aln t20_0 rfl ?_
  obtain ⟨v9, g9, h9, rfl, σ1, rfl, m1, m2, m3⟩ := cl_Text_advance (X := X) (q := q) (σ := σ) (a := a) (n := n) (p := p) ha hn hx hp e2
  refine ep_cv t20_1 rfl rfl (Nat.le_of_ble_eq_true rfl) (Nat.le_of_ble_eq_true rfl) (h9) ?_
  refine ep_aln t20_4 rfl ?_
  refine ep_get t20_5 rfl (Nat.le_of_ble_eq_true rfl) rfl ?_
  refine ep_val (b := nI (tK a n p)) (m3.2.2.1) ?_
  refine ep_iln t20_8 rfl ?_
  refine ep_ifP t20_9 (ic_ne (by omega) (by omega)) (fun (c9 : ¬ (tK a n p) = 1) => ?_) (fun (c9 : ¬ (¬ (tK a n p) = 1)) => ?_)
  · refine ep_k1 (w := nI 0) t20_44 rfl ?_
    refine ep_isn (L' := [some (.ref 1), some (.int (nI 1)), some (.int (nI al)), some (.int (nI 0))]) t20_45 rfl (Nat.le_of_ble_eq_true rfl) ?_
    refine ep_iln t20_46 rfl ?_
    refine ep_if0P t20_47 (ic0_eq (by omega)) (fun (c47 : 0 = 0) => ?_) (fun (c47 : ¬ (0 = 0)) => (by omega))
    refine ep_k1 (w := (-1)) t20_57 rfl ?_
    refine ep_ri t20_58 (fun h => absurd h (by decide)) ?_
    refine ⟨σ1, rfl, m1, m2, m3, Or.inr ⟨fun h => ?_, rfl⟩⟩
    first
    | exact c9 h.1
    | (have := lt_bit (n := 31) hal h.2; omega)
    | exact absurd h.2 (by rw [c37]; decide)
  · have hv : tV a n p ≤ 122 := by
      have z : tK a n p = 1 := Classical.byContradiction c9
      have y := tk_all (a := a) hp
      have y1 := y.2.2.1
      have y2 := y.2.2.2.1
      omega
    refine ep_aln t20_12 rfl ?_
    refine ep_get t20_13 rfl (Nat.le_of_ble_eq_true rfl) rfl ?_
    refine ep_val (b := nI (tV a n p - 97)) (m3.2.2.2.1 (Classical.byContradiction c9)) ?_
    refine ep_if0P t20_16 (ic0_lt (by omega)) (fun (c16 : (tV a n p - 97) < 0) => (by omega)) (fun (c16 : ¬ ((tV a n p - 97) < 0)) => ?_)
    refine ep_aln t20_19 rfl ?_
    refine ep_get t20_20 rfl (Nat.le_of_ble_eq_true rfl) rfl ?_
    refine ep_val (b := nI (tV a n p - 97)) (m3.2.2.2.1 (Classical.byContradiction c9)) ?_
    refine ep_k2 (w := nI 32) t20_23 rfl ?_
    refine ep_ifP t20_25 (ic_ge (by omega) (by omega)) (fun (c25 : 32 ≤ (tV a n p - 97)) => ?_) (fun (c25 : ¬ (32 ≤ (tV a n p - 97))) => ?_)
    · refine ep_k1 (w := nI 0) t20_44 rfl ?_
      refine ep_isn (L' := [some (.ref 1), some (.int (nI 1)), some (.int (nI al)), some (.int (nI 0))]) t20_45 rfl (Nat.le_of_ble_eq_true rfl) ?_
      refine ep_iln t20_46 rfl ?_
      refine ep_if0P t20_47 (ic0_eq (by omega)) (fun (c47 : 0 = 0) => ?_) (fun (c47 : ¬ (0 = 0)) => (by omega))
      refine ep_k1 (w := (-1)) t20_57 rfl ?_
      refine ep_ri t20_58 (fun h => absurd h (by decide)) ?_
      refine ⟨σ1, rfl, m1, m2, m3, Or.inr ⟨fun h => ?_, rfl⟩⟩
      first
      | exact c9 h.1
      | (have := lt_bit (n := 31) hal h.2; omega)
      | exact absurd h.2 (by rw [c37]; decide)
    · refine ep_iln t20_28 rfl ?_
      refine ep_aln t20_29 rfl ?_
      refine ep_get t20_30 rfl (Nat.le_of_ble_eq_true rfl) rfl ?_
      refine ep_val (b := nI (tV a n p - 97)) (m3.2.2.2.1 (Classical.byContradiction c9)) ?_
      refine ep_cs t20_33 (Nat.ne_of_beq_eq_false rfl) rfl (Nat.le_of_ble_eq_true rfl) (cl_B_bit32 (by omega) (by omega)) ?_
      refine ep_k1 (w := nI 1) t20_36 rfl ?_
      refine ep_b1n t20_37 (fun (c37 : (Nat.testBit al (tV a n p - 97)) = false) => ?_) (fun (c37 : (Nat.testBit al (tV a n p - 97)) = true) => ?_)
      · refine ep_k1 (w := nI 0) t20_44 rfl ?_
        refine ep_isn (L' := [some (.ref 1), some (.int (nI 1)), some (.int (nI al)), some (.int (nI 0))]) t20_45 rfl (Nat.le_of_ble_eq_true rfl) ?_
        refine ep_iln t20_46 rfl ?_
        refine ep_if0P t20_47 (ic0_eq (by omega)) (fun (c47 : 0 = 0) => ?_) (fun (c47 : ¬ (0 = 0)) => (by omega))
        refine ep_k1 (w := (-1)) t20_57 rfl ?_
        refine ep_ri t20_58 (fun h => absurd h (by decide)) ?_
        refine ⟨σ1, rfl, m1, m2, m3, Or.inr ⟨fun h => ?_, rfl⟩⟩
        first
        | exact c9 h.1
        | (have := lt_bit (n := 31) hal h.2; omega)
        | exact absurd h.2 (by rw [c37]; decide)
      · refine ep_k1 (w := nI 1) t20_40 rfl ?_
        refine ep_gt t20_41 ?_
        refine ep_isn (L' := [some (.ref 1), some (.int (nI 1)), some (.int (nI al)), some (.int (nI 1))]) t20_45 rfl (Nat.le_of_ble_eq_true rfl) ?_
        refine ep_iln t20_46 rfl ?_
        refine ep_if0P t20_47 (ic0_eq (by omega)) (fun (c47 : 1 = 0) => (by omega)) (fun (c47 : ¬ (1 = 0)) => ?_)
        refine ep_aln t20_50 rfl ?_
        refine ep_get t20_51 rfl (Nat.le_of_ble_eq_true rfl) rfl ?_
        refine ep_val (b := nI (tV a n p - 97)) (m3.2.2.2.1 (Classical.byContradiction c9)) ?_
        refine ep_gt t20_54 ?_
        refine ep_ri t20_58 (fun h => absurd h (by decide)) ?_
        exact ⟨σ1, rfl, m1, m2, m3, Or.inl ⟨Classical.byContradiction c9, c37, rfl⟩⟩

theorem cl_Text_take2 {X : gX} {q : Bool} {σ : gT1} {a : Nat → Nat} {n : Nat} (ha : ∀ j, a j < 256) (hn : n ≤ 120) (hx : TxC σ a n) {p al : Nat} (hp : p ≤ n) (e2 : σ 1 2 = nI p) (hal : al < 2147483648) : ClP X 20 [.ref 1, .int (nI 2), .int (nI al)] (47, g_rho q, σ) (fun v g1 => ∃ σ1, g1 = (47, g_rho q, σ1) ∧ (∀ r, r ≠ 1 → σ1 r = σ r) ∧ σ1 1 1 = σ 1 1 ∧ TokC σ1 a n p ∧ ((tK a n p = 2 ∧ al.testBit (tV a n p) = true ∧ v = some (.int (nI (tV a n p)))) ∨ (¬ (tK a n p = 2 ∧ al.testBit (tV a n p) = true) ∧ v = some (.int (-1))))) := by
  have hk4 := (tk_all (a := a) hp).2.2.2.2
  refine ClP.of ⟨Nat.le_of_ble_eq_true rfl, rfl⟩ ?_
  show EvP X 20 0 [some (.ref 1), some (.int (nI 2)), some (.int (nI al)), none] [] (47, g_rho q, σ) _
  refine ep_aln t20_0 rfl ?_
  obtain ⟨v9, g9, h9, rfl, σ1, rfl, m1, m2, m3⟩ := cl_Text_advance (X := X) (q := q) (σ := σ) (a := a) (n := n) (p := p) ha hn hx hp e2
  refine ep_cv t20_1 rfl rfl (Nat.le_of_ble_eq_true rfl) (Nat.le_of_ble_eq_true rfl) (h9) ?_
  refine ep_aln t20_4 rfl ?_
  refine ep_get t20_5 rfl (Nat.le_of_ble_eq_true rfl) rfl ?_
  refine ep_val (b := nI (tK a n p)) (m3.2.2.1) ?_
  refine ep_iln t20_8 rfl ?_
  refine ep_ifP t20_9 (ic_ne (by omega) (by omega)) (fun (c9 : ¬ (tK a n p) = 2) => ?_) (fun (c9 : ¬ (¬ (tK a n p) = 2)) => ?_)
  · refine ep_k1 (w := nI 0) t20_44 rfl ?_
    refine ep_isn (L' := [some (.ref 1), some (.int (nI 2)), some (.int (nI al)), some (.int (nI 0))]) t20_45 rfl (Nat.le_of_ble_eq_true rfl) ?_
    refine ep_iln t20_46 rfl ?_
    refine ep_if0P t20_47 (ic0_eq (by omega)) (fun (c47 : 0 = 0) => ?_) (fun (c47 : ¬ (0 = 0)) => (by omega))
    refine ep_k1 (w := (-1)) t20_57 rfl ?_
    refine ep_ri t20_58 (fun h => absurd h (by decide)) ?_
    refine ⟨σ1, rfl, m1, m2, m3, Or.inr ⟨fun h => ?_, rfl⟩⟩
    first
    | exact c9 h.1
    | (have := lt_bit (n := 31) hal h.2; omega)
    | exact absurd h.2 (by rw [c37]; decide)
  · have hv : tV a n p ≤ 122 := by
      have z : tK a n p = 2 := Classical.byContradiction c9
      have y := tk_all (a := a) hp
      have y1 := y.2.2.1
      have y2 := y.2.2.2.1
      omega
    refine ep_aln t20_12 rfl ?_
    refine ep_get t20_13 rfl (Nat.le_of_ble_eq_true rfl) rfl ?_
    refine ep_val (b := nI (tV a n p)) (m3.2.2.2.2 (Classical.byContradiction c9)) ?_
    refine ep_if0P t20_16 (ic0_lt (by omega)) (fun (c16 : (tV a n p) < 0) => (by omega)) (fun (c16 : ¬ ((tV a n p) < 0)) => ?_)
    refine ep_aln t20_19 rfl ?_
    refine ep_get t20_20 rfl (Nat.le_of_ble_eq_true rfl) rfl ?_
    refine ep_val (b := nI (tV a n p)) (m3.2.2.2.2 (Classical.byContradiction c9)) ?_
    refine ep_k2 (w := nI 32) t20_23 rfl ?_
    refine ep_ifP t20_25 (ic_ge (by omega) (by omega)) (fun (c25 : 32 ≤ (tV a n p)) => ?_) (fun (c25 : ¬ (32 ≤ (tV a n p))) => ?_)
    · refine ep_k1 (w := nI 0) t20_44 rfl ?_
      refine ep_isn (L' := [some (.ref 1), some (.int (nI 2)), some (.int (nI al)), some (.int (nI 0))]) t20_45 rfl (Nat.le_of_ble_eq_true rfl) ?_
      refine ep_iln t20_46 rfl ?_
      refine ep_if0P t20_47 (ic0_eq (by omega)) (fun (c47 : 0 = 0) => ?_) (fun (c47 : ¬ (0 = 0)) => (by omega))
      refine ep_k1 (w := (-1)) t20_57 rfl ?_
      refine ep_ri t20_58 (fun h => absurd h (by decide)) ?_
      refine ⟨σ1, rfl, m1, m2, m3, Or.inr ⟨fun h => ?_, rfl⟩⟩
      first
      | exact c9 h.1
      | (have := lt_bit (n := 31) hal h.2; omega)
      | exact absurd h.2 (by rw [c37]; decide)
    · refine ep_iln t20_28 rfl ?_
      refine ep_aln t20_29 rfl ?_
      refine ep_get t20_30 rfl (Nat.le_of_ble_eq_true rfl) rfl ?_
      refine ep_val (b := nI (tV a n p)) (m3.2.2.2.2 (Classical.byContradiction c9)) ?_
      refine ep_cs t20_33 (Nat.ne_of_beq_eq_false rfl) rfl (Nat.le_of_ble_eq_true rfl) (cl_B_bit32 (by omega) (by omega)) ?_
      refine ep_k1 (w := nI 1) t20_36 rfl ?_
      refine ep_b1n t20_37 (fun (c37 : (Nat.testBit al (tV a n p)) = false) => ?_) (fun (c37 : (Nat.testBit al (tV a n p)) = true) => ?_)
      · refine ep_k1 (w := nI 0) t20_44 rfl ?_
        refine ep_isn (L' := [some (.ref 1), some (.int (nI 2)), some (.int (nI al)), some (.int (nI 0))]) t20_45 rfl (Nat.le_of_ble_eq_true rfl) ?_
        refine ep_iln t20_46 rfl ?_
        refine ep_if0P t20_47 (ic0_eq (by omega)) (fun (c47 : 0 = 0) => ?_) (fun (c47 : ¬ (0 = 0)) => (by omega))
        refine ep_k1 (w := (-1)) t20_57 rfl ?_
        refine ep_ri t20_58 (fun h => absurd h (by decide)) ?_
        refine ⟨σ1, rfl, m1, m2, m3, Or.inr ⟨fun h => ?_, rfl⟩⟩
        first
        | exact c9 h.1
        | (have := lt_bit (n := 31) hal h.2; omega)
        | exact absurd h.2 (by rw [c37]; decide)
      · refine ep_k1 (w := nI 1) t20_40 rfl ?_
        refine ep_gt t20_41 ?_
        refine ep_isn (L' := [some (.ref 1), some (.int (nI 2)), some (.int (nI al)), some (.int (nI 1))]) t20_45 rfl (Nat.le_of_ble_eq_true rfl) ?_
        refine ep_iln t20_46 rfl ?_
        refine ep_if0P t20_47 (ic0_eq (by omega)) (fun (c47 : 1 = 0) => (by omega)) (fun (c47 : ¬ (1 = 0)) => ?_)
        refine ep_aln t20_50 rfl ?_
        refine ep_get t20_51 rfl (Nat.le_of_ble_eq_true rfl) rfl ?_
        refine ep_val (b := nI (tV a n p)) (m3.2.2.2.2 (Classical.byContradiction c9)) ?_
        refine ep_gt t20_54 ?_
        refine ep_ri t20_58 (fun h => absurd h (by decide)) ?_
        exact ⟨σ1, rfl, m1, m2, m3, Or.inl ⟨Classical.byContradiction c9, c37, rfl⟩⟩

theorem cl_Text_semi {X : gX} {q : Bool} {σ : gT1} {a : Nat → Nat} {n : Nat} (ha : ∀ j, a j < 256) (hn : n ≤ 120) (hx : TxC σ a n) {p : Nat} (hp : p ≤ n) (e2 : σ 1 2 = nI p) : ClP X 31 [.ref 1] (47, g_rho q, σ) (fun v g1 => ∃ σ1, g1 = (47, g_rho q, σ1) ∧ (∀ r, r ≠ 1 → σ1 r = σ r) ∧ σ1 1 1 = σ 1 1 ∧ TokC σ1 a n p ∧ v = some (.int (bI (decide (tK a n p = 3))))) := by
  have hk4 := (tk_all (a := a) hp).2.2.2.2
  refine ClP.of ⟨Nat.le_of_ble_eq_true rfl, rfl⟩ ?_
  show EvP X 31 0 [some (.ref 1)] [] (47, g_rho q, σ) _
  refine ep_aln t31_0 rfl ?_
  obtain ⟨v9, g9, h9, rfl, σ1, rfl, m1, m2, m3⟩ := cl_Text_advance (X := X) (q := q) (σ := σ) (a := a) (n := n) (p := p) ha hn hx hp e2
  refine ep_cv t31_1 rfl rfl (Nat.le_of_ble_eq_true rfl) (Nat.le_of_ble_eq_true rfl) (h9) ?_
  refine ep_aln t31_4 rfl ?_
  refine ep_get t31_5 rfl (Nat.le_of_ble_eq_true rfl) rfl ?_
  refine ep_val (b := nI (tK a n p)) (m3.2.2.1) ?_
  refine ep_k1 (w := nI 3) t31_8 rfl ?_
  refine ep_ifP t31_9 (ic_ne (by omega) (by omega)) (fun (c9 : ¬ (tK a n p) = 3) => ?_) (fun (c9 : ¬ (¬ (tK a n p) = 3)) => ?_)
  · refine ep_k1 (w := nI 0) t31_16 rfl ?_
    refine ep_ri t31_17 (fun _ => rfl) ?_
    refine ⟨σ1, rfl, m1, m2, m3, ?_⟩
    first
    | (rw [decide_eq_true (Classical.byContradiction c9)]; rfl)
    | (rw [decide_eq_false c9]; rfl)
  · refine ep_k1 (w := nI 1) t31_12 rfl ?_
    refine ep_gt t31_13 ?_
    refine ep_ri t31_17 (fun _ => rfl) ?_
    refine ⟨σ1, rfl, m1, m2, m3, ?_⟩
    first
    | (rw [decide_eq_true (Classical.byContradiction c9)]; rfl)
    | (rw [decide_eq_false c9]; rfl)

