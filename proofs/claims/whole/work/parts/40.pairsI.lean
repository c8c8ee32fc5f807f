/-! Pair look. -/
def pcn : Nat → Nat → Nat
  | 0, _ => 0
  | n + 1, a => pcn n a + (a.testBit n).toNat
theorem pcn_mono (a : Nat) {m : Nat} : ∀ n, m ≤ n → pcn m a ≤ pcn n a
  | 0, h => by obtain rfl : m = 0 := by omega
               exact Nat.le_refl _
  | n + 1, h => by
    by_cases e : m = n + 1
    · subst e; exact Nat.le_refl _
    · exact Nat.le_trans (pcn_mono a n (by omega)) (Nat.le_add_right _ _)
theorem pcn_le (a : Nat) : ∀ n, pcn n a ≤ n
  | 0 => Nat.le_refl _
  | n + 1 => by
    have := pcn_le a n
    have := Bool.toNat_lt (a.testBit n)
    show pcn n a + _ ≤ _
    omega
/-- of the suspects below k, those by whom u would be live -/
noncomputable def litn (T : Nat → Nat) (c S u : Nat) : Nat → Nat
  | 0 => 0
  | k + 1 => litn T c S u k + (S.testBit k && (liveM T (c ^^^ 2 ^ k)).testBit u).toNat
theorem litn_le (T : Nat → Nat) (c S u : Nat) : ∀ k, litn T c S u k ≤ pcn k S
  | 0 => Nat.le_refl _
  | k + 1 => by
    have := litn_le T c S u k
    show litn T c S u k + _ ≤ pcn k S + _
    cases S.testBit k <;> cases (liveM T (c ^^^ 2 ^ k)).testBit u <;> simp <;> omega
theorem ones_step : ∀ x, x < 256 → 0 < x → pcn 8 (x &&& (x - 1)) + 1 = pcn 8 x ∧ x &&& (x - 1) < x := by decide +kernel
def lkS (g : Nat → Nat) (s0 : Nat) : Nat → Nat × Int32
  | 0 => (s0, -9)
  | u + 1 => if g u < (lkS g s0 u).1 then (g u, nI u) else lkS g s0 u
theorem lkS_eq {g : Nat → Nat} {a b : Nat} (ha : g 0 < a) (hb : g 0 < b) : ∀ u, lkS g a (u + 1) = lkS g b (u + 1)
  | 0 => by
    show (if g 0 < a then (g 0, nI 0) else lkS g a 0) = (if g 0 < b then (g 0, nI 0) else lkS g b 0)
    rw [if_pos ha, if_pos hb]
  | u + 1 => by
    have ih := lkS_eq ha hb u
    show (if g (u + 1) < (lkS g a (u + 1)).1 then (g (u + 1), nI (u + 1)) else lkS g a (u + 1)) = (if g (u + 1) < (lkS g b (u + 1)).1 then (g (u + 1), nI (u + 1)) else lkS g b (u + 1))
    rw [ih]
theorem lkS_le {g : Nat → Nat} {s0 : Nat} : ∀ u, (lkS g s0 u).1 ≤ s0
  | 0 => Nat.le_refl _
  | u + 1 => by
    have ih := lkS_le (g := g) (s0 := s0) u
    show (if g u < (lkS g s0 u).1 then (g u, nI u) else lkS g s0 u).1 ≤ s0
    split
    · next h => show g u ≤ s0; omega
    · exact ih
theorem lkS_yes {g : Nat → Nat} {s0 u : Nat} (h : g u < (lkS g s0 u).1) : lkS g s0 (u + 1) = (g u, nI u) := if_pos h
theorem lkS_no {g : Nat → Nat} {s0 u : Nat} (h : ¬ g u < (lkS g s0 u).1) : lkS g s0 (u + 1) = lkS g s0 u := if_neg h
def bcE (a : Int32) : Int32 := (((((((a - (((Int32.toUInt32 a >>> (Int32.toUInt32 (nI 1) &&& Int32.toUInt32 31)).toInt32) &&& (nI 1431655765))) &&& (nI 858993459)) + (((Int32.toUInt32 (a - (((Int32.toUInt32 a >>> (Int32.toUInt32 (nI 1) &&& Int32.toUInt32 31)).toInt32) &&& (nI 1431655765))) >>> (Int32.toUInt32 (nI 2) &&& Int32.toUInt32 31)).toInt32) &&& (nI 858993459))) + ((Int32.toUInt32 (((a - (((Int32.toUInt32 a >>> (Int32.toUInt32 (nI 1) &&& Int32.toUInt32 31)).toInt32) &&& (nI 1431655765))) &&& (nI 858993459)) + (((Int32.toUInt32 (a - (((Int32.toUInt32 a >>> (Int32.toUInt32 (nI 1) &&& Int32.toUInt32 31)).toInt32) &&& (nI 1431655765))) >>> (Int32.toUInt32 (nI 2) &&& Int32.toUInt32 31)).toInt32) &&& (nI 858993459))) >>> (Int32.toUInt32 (nI 4) &&& Int32.toUInt32 31)).toInt32)) &&& (nI 252645135)) + ((Int32.toUInt32 (((((a - (((Int32.toUInt32 a >>> (Int32.toUInt32 (nI 1) &&& Int32.toUInt32 31)).toInt32) &&& (nI 1431655765))) &&& (nI 858993459)) + (((Int32.toUInt32 (a - (((Int32.toUInt32 a >>> (Int32.toUInt32 (nI 1) &&& Int32.toUInt32 31)).toInt32) &&& (nI 1431655765))) >>> (Int32.toUInt32 (nI 2) &&& Int32.toUInt32 31)).toInt32) &&& (nI 858993459))) + ((Int32.toUInt32 (((a - (((Int32.toUInt32 a >>> (Int32.toUInt32 (nI 1) &&& Int32.toUInt32 31)).toInt32) &&& (nI 1431655765))) &&& (nI 858993459)) + (((Int32.toUInt32 (a - (((Int32.toUInt32 a >>> (Int32.toUInt32 (nI 1) &&& Int32.toUInt32 31)).toInt32) &&& (nI 1431655765))) >>> (Int32.toUInt32 (nI 2) &&& Int32.toUInt32 31)).toInt32) &&& (nI 858993459))) >>> (Int32.toUInt32 (nI 4) &&& Int32.toUInt32 31)).toInt32)) &&& (nI 252645135)) >>> (Int32.toUInt32 (nI 8) &&& Int32.toUInt32 31)).toInt32)) + ((Int32.toUInt32 ((((((a - (((Int32.toUInt32 a >>> (Int32.toUInt32 (nI 1) &&& Int32.toUInt32 31)).toInt32) &&& (nI 1431655765))) &&& (nI 858993459)) + (((Int32.toUInt32 (a - (((Int32.toUInt32 a >>> (Int32.toUInt32 (nI 1) &&& Int32.toUInt32 31)).toInt32) &&& (nI 1431655765))) >>> (Int32.toUInt32 (nI 2) &&& Int32.toUInt32 31)).toInt32) &&& (nI 858993459))) + ((Int32.toUInt32 (((a - (((Int32.toUInt32 a >>> (Int32.toUInt32 (nI 1) &&& Int32.toUInt32 31)).toInt32) &&& (nI 1431655765))) &&& (nI 858993459)) + (((Int32.toUInt32 (a - (((Int32.toUInt32 a >>> (Int32.toUInt32 (nI 1) &&& Int32.toUInt32 31)).toInt32) &&& (nI 1431655765))) >>> (Int32.toUInt32 (nI 2) &&& Int32.toUInt32 31)).toInt32) &&& (nI 858993459))) >>> (Int32.toUInt32 (nI 4) &&& Int32.toUInt32 31)).toInt32)) &&& (nI 252645135)) + ((Int32.toUInt32 (((((a - (((Int32.toUInt32 a >>> (Int32.toUInt32 (nI 1) &&& Int32.toUInt32 31)).toInt32) &&& (nI 1431655765))) &&& (nI 858993459)) + (((Int32.toUInt32 (a - (((Int32.toUInt32 a >>> (Int32.toUInt32 (nI 1) &&& Int32.toUInt32 31)).toInt32) &&& (nI 1431655765))) >>> (Int32.toUInt32 (nI 2) &&& Int32.toUInt32 31)).toInt32) &&& (nI 858993459))) + ((Int32.toUInt32 (((a - (((Int32.toUInt32 a >>> (Int32.toUInt32 (nI 1) &&& Int32.toUInt32 31)).toInt32) &&& (nI 1431655765))) &&& (nI 858993459)) + (((Int32.toUInt32 (a - (((Int32.toUInt32 a >>> (Int32.toUInt32 (nI 1) &&& Int32.toUInt32 31)).toInt32) &&& (nI 1431655765))) >>> (Int32.toUInt32 (nI 2) &&& Int32.toUInt32 31)).toInt32) &&& (nI 858993459))) >>> (Int32.toUInt32 (nI 4) &&& Int32.toUInt32 31)).toInt32)) &&& (nI 252645135)) >>> (Int32.toUInt32 (nI 8) &&& Int32.toUInt32 31)).toInt32)) >>> (Int32.toUInt32 (nI 16) &&& Int32.toUInt32 31)).toInt32)) &&& (nI 63)
theorem bcE_ok : ∀ a, a < 256 → bcE (nI a) = nI (pcn 8 a) := by decide +kernel
theorem cl_bcE {X : gX} {g : gS} (a : Int32) : Cl X 26 [.int a] g (some (.int (bcE a))) g := by
  refine Cl.of ⟨Nat.le_of_ble_eq_true rfl, rfl⟩ ?_
  show EvP X 26 0 [some (.int a)] [] g _
  refine ep_iln t26_0 rfl ?_
  refine ep_iln t26_1 rfl ?_
  refine ep_k1 (w := nI 1) t26_2 rfl ?_
  refine ep_ushr t26_3 ?_
  refine ep_k5 (w := nI 1431655765) t26_4 rfl ?_
  refine ep_and t26_7 ?_
  refine ep_sub t26_8 ?_
  refine ep_isn (L' := [some (.int (a - (((Int32.toUInt32 a >>> (Int32.toUInt32 (nI 1) &&& Int32.toUInt32 31)).toInt32) &&& (nI 1431655765))))]) t26_9 rfl (Nat.le_of_ble_eq_true rfl) ?_
  refine ep_iln t26_10 rfl ?_
  refine ep_k5 (w := nI 858993459) t26_11 rfl ?_
  refine ep_and t26_14 ?_
  refine ep_iln t26_15 rfl ?_
  refine ep_k1 (w := nI 2) t26_16 rfl ?_
  refine ep_ushr t26_17 ?_
  refine ep_k5 (w := nI 858993459) t26_18 rfl ?_
  refine ep_and t26_21 ?_
  refine ep_add t26_22 ?_
  refine ep_isn (L' := [some (.int (((a - (((Int32.toUInt32 a >>> (Int32.toUInt32 (nI 1) &&& Int32.toUInt32 31)).toInt32) &&& (nI 1431655765))) &&& (nI 858993459)) + (((Int32.toUInt32 (a - (((Int32.toUInt32 a >>> (Int32.toUInt32 (nI 1) &&& Int32.toUInt32 31)).toInt32) &&& (nI 1431655765))) >>> (Int32.toUInt32 (nI 2) &&& Int32.toUInt32 31)).toInt32) &&& (nI 858993459))))]) t26_23 rfl (Nat.le_of_ble_eq_true rfl) ?_
  refine ep_iln t26_24 rfl ?_
  refine ep_iln t26_25 rfl ?_
  refine ep_k1 (w := nI 4) t26_26 rfl ?_
  refine ep_ushr t26_27 ?_
  refine ep_add t26_28 ?_
  refine ep_k5 (w := nI 252645135) t26_29 rfl ?_
  refine ep_and t26_32 ?_
  refine ep_isn (L' := [some (.int (((((a - (((Int32.toUInt32 a >>> (Int32.toUInt32 (nI 1) &&& Int32.toUInt32 31)).toInt32) &&& (nI 1431655765))) &&& (nI 858993459)) + (((Int32.toUInt32 (a - (((Int32.toUInt32 a >>> (Int32.toUInt32 (nI 1) &&& Int32.toUInt32 31)).toInt32) &&& (nI 1431655765))) >>> (Int32.toUInt32 (nI 2) &&& Int32.toUInt32 31)).toInt32) &&& (nI 858993459))) + ((Int32.toUInt32 (((a - (((Int32.toUInt32 a >>> (Int32.toUInt32 (nI 1) &&& Int32.toUInt32 31)).toInt32) &&& (nI 1431655765))) &&& (nI 858993459)) + (((Int32.toUInt32 (a - (((Int32.toUInt32 a >>> (Int32.toUInt32 (nI 1) &&& Int32.toUInt32 31)).toInt32) &&& (nI 1431655765))) >>> (Int32.toUInt32 (nI 2) &&& Int32.toUInt32 31)).toInt32) &&& (nI 858993459))) >>> (Int32.toUInt32 (nI 4) &&& Int32.toUInt32 31)).toInt32)) &&& (nI 252645135)))]) t26_33 rfl (Nat.le_of_ble_eq_true rfl) ?_
  refine ep_iln t26_34 rfl ?_
  refine ep_iln t26_35 rfl ?_
  refine ep_k2 (w := nI 8) t26_36 rfl ?_
  refine ep_ushr t26_38 ?_
  refine ep_add t26_39 ?_
  refine ep_isn (L' := [some (.int ((((((a - (((Int32.toUInt32 a >>> (Int32.toUInt32 (nI 1) &&& Int32.toUInt32 31)).toInt32) &&& (nI 1431655765))) &&& (nI 858993459)) + (((Int32.toUInt32 (a - (((Int32.toUInt32 a >>> (Int32.toUInt32 (nI 1) &&& Int32.toUInt32 31)).toInt32) &&& (nI 1431655765))) >>> (Int32.toUInt32 (nI 2) &&& Int32.toUInt32 31)).toInt32) &&& (nI 858993459))) + ((Int32.toUInt32 (((a - (((Int32.toUInt32 a >>> (Int32.toUInt32 (nI 1) &&& Int32.toUInt32 31)).toInt32) &&& (nI 1431655765))) &&& (nI 858993459)) + (((Int32.toUInt32 (a - (((Int32.toUInt32 a >>> (Int32.toUInt32 (nI 1) &&& Int32.toUInt32 31)).toInt32) &&& (nI 1431655765))) >>> (Int32.toUInt32 (nI 2) &&& Int32.toUInt32 31)).toInt32) &&& (nI 858993459))) >>> (Int32.toUInt32 (nI 4) &&& Int32.toUInt32 31)).toInt32)) &&& (nI 252645135)) + ((Int32.toUInt32 (((((a - (((Int32.toUInt32 a >>> (Int32.toUInt32 (nI 1) &&& Int32.toUInt32 31)).toInt32) &&& (nI 1431655765))) &&& (nI 858993459)) + (((Int32.toUInt32 (a - (((Int32.toUInt32 a >>> (Int32.toUInt32 (nI 1) &&& Int32.toUInt32 31)).toInt32) &&& (nI 1431655765))) >>> (Int32.toUInt32 (nI 2) &&& Int32.toUInt32 31)).toInt32) &&& (nI 858993459))) + ((Int32.toUInt32 (((a - (((Int32.toUInt32 a >>> (Int32.toUInt32 (nI 1) &&& Int32.toUInt32 31)).toInt32) &&& (nI 1431655765))) &&& (nI 858993459)) + (((Int32.toUInt32 (a - (((Int32.toUInt32 a >>> (Int32.toUInt32 (nI 1) &&& Int32.toUInt32 31)).toInt32) &&& (nI 1431655765))) >>> (Int32.toUInt32 (nI 2) &&& Int32.toUInt32 31)).toInt32) &&& (nI 858993459))) >>> (Int32.toUInt32 (nI 4) &&& Int32.toUInt32 31)).toInt32)) &&& (nI 252645135)) >>> (Int32.toUInt32 (nI 8) &&& Int32.toUInt32 31)).toInt32)))]) t26_40 rfl (Nat.le_of_ble_eq_true rfl) ?_
  refine ep_iln t26_41 rfl ?_
  refine ep_iln t26_42 rfl ?_
  refine ep_k2 (w := nI 16) t26_43 rfl ?_
  refine ep_ushr t26_45 ?_
  refine ep_add t26_46 ?_
  refine ep_isn (L' := [some (.int (((((((a - (((Int32.toUInt32 a >>> (Int32.toUInt32 (nI 1) &&& Int32.toUInt32 31)).toInt32) &&& (nI 1431655765))) &&& (nI 858993459)) + (((Int32.toUInt32 (a - (((Int32.toUInt32 a >>> (Int32.toUInt32 (nI 1) &&& Int32.toUInt32 31)).toInt32) &&& (nI 1431655765))) >>> (Int32.toUInt32 (nI 2) &&& Int32.toUInt32 31)).toInt32) &&& (nI 858993459))) + ((Int32.toUInt32 (((a - (((Int32.toUInt32 a >>> (Int32.toUInt32 (nI 1) &&& Int32.toUInt32 31)).toInt32) &&& (nI 1431655765))) &&& (nI 858993459)) + (((Int32.toUInt32 (a - (((Int32.toUInt32 a >>> (Int32.toUInt32 (nI 1) &&& Int32.toUInt32 31)).toInt32) &&& (nI 1431655765))) >>> (Int32.toUInt32 (nI 2) &&& Int32.toUInt32 31)).toInt32) &&& (nI 858993459))) >>> (Int32.toUInt32 (nI 4) &&& Int32.toUInt32 31)).toInt32)) &&& (nI 252645135)) + ((Int32.toUInt32 (((((a - (((Int32.toUInt32 a >>> (Int32.toUInt32 (nI 1) &&& Int32.toUInt32 31)).toInt32) &&& (nI 1431655765))) &&& (nI 858993459)) + (((Int32.toUInt32 (a - (((Int32.toUInt32 a >>> (Int32.toUInt32 (nI 1) &&& Int32.toUInt32 31)).toInt32) &&& (nI 1431655765))) >>> (Int32.toUInt32 (nI 2) &&& Int32.toUInt32 31)).toInt32) &&& (nI 858993459))) + ((Int32.toUInt32 (((a - (((Int32.toUInt32 a >>> (Int32.toUInt32 (nI 1) &&& Int32.toUInt32 31)).toInt32) &&& (nI 1431655765))) &&& (nI 858993459)) + (((Int32.toUInt32 (a - (((Int32.toUInt32 a >>> (Int32.toUInt32 (nI 1) &&& Int32.toUInt32 31)).toInt32) &&& (nI 1431655765))) >>> (Int32.toUInt32 (nI 2) &&& Int32.toUInt32 31)).toInt32) &&& (nI 858993459))) >>> (Int32.toUInt32 (nI 4) &&& Int32.toUInt32 31)).toInt32)) &&& (nI 252645135)) >>> (Int32.toUInt32 (nI 8) &&& Int32.toUInt32 31)).toInt32)) + ((Int32.toUInt32 ((((((a - (((Int32.toUInt32 a >>> (Int32.toUInt32 (nI 1) &&& Int32.toUInt32 31)).toInt32) &&& (nI 1431655765))) &&& (nI 858993459)) + (((Int32.toUInt32 (a - (((Int32.toUInt32 a >>> (Int32.toUInt32 (nI 1) &&& Int32.toUInt32 31)).toInt32) &&& (nI 1431655765))) >>> (Int32.toUInt32 (nI 2) &&& Int32.toUInt32 31)).toInt32) &&& (nI 858993459))) + ((Int32.toUInt32 (((a - (((Int32.toUInt32 a >>> (Int32.toUInt32 (nI 1) &&& Int32.toUInt32 31)).toInt32) &&& (nI 1431655765))) &&& (nI 858993459)) + (((Int32.toUInt32 (a - (((Int32.toUInt32 a >>> (Int32.toUInt32 (nI 1) &&& Int32.toUInt32 31)).toInt32) &&& (nI 1431655765))) >>> (Int32.toUInt32 (nI 2) &&& Int32.toUInt32 31)).toInt32) &&& (nI 858993459))) >>> (Int32.toUInt32 (nI 4) &&& Int32.toUInt32 31)).toInt32)) &&& (nI 252645135)) + ((Int32.toUInt32 (((((a - (((Int32.toUInt32 a >>> (Int32.toUInt32 (nI 1) &&& Int32.toUInt32 31)).toInt32) &&& (nI 1431655765))) &&& (nI 858993459)) + (((Int32.toUInt32 (a - (((Int32.toUInt32 a >>> (Int32.toUInt32 (nI 1) &&& Int32.toUInt32 31)).toInt32) &&& (nI 1431655765))) >>> (Int32.toUInt32 (nI 2) &&& Int32.toUInt32 31)).toInt32) &&& (nI 858993459))) + ((Int32.toUInt32 (((a - (((Int32.toUInt32 a >>> (Int32.toUInt32 (nI 1) &&& Int32.toUInt32 31)).toInt32) &&& (nI 1431655765))) &&& (nI 858993459)) + (((Int32.toUInt32 (a - (((Int32.toUInt32 a >>> (Int32.toUInt32 (nI 1) &&& Int32.toUInt32 31)).toInt32) &&& (nI 1431655765))) >>> (Int32.toUInt32 (nI 2) &&& Int32.toUInt32 31)).toInt32) &&& (nI 858993459))) >>> (Int32.toUInt32 (nI 4) &&& Int32.toUInt32 31)).toInt32)) &&& (nI 252645135)) >>> (Int32.toUInt32 (nI 8) &&& Int32.toUInt32 31)).toInt32)) >>> (Int32.toUInt32 (nI 16) &&& Int32.toUInt32 31)).toInt32)))]) t26_47 rfl (Nat.le_of_ble_eq_true rfl) ?_
  refine ep_iln t26_48 rfl ?_
  refine ep_k2 (w := nI 63) t26_49 rfl ?_
  refine ep_and t26_51 ?_
  refine ep_ri t26_52 (fun h => absurd h (by decide)) ?_
  exact ⟨rfl, rfl⟩
theorem cl_bitCount {X : gX} {g : gS} {a : Nat} (h : a < 256) : Cl X 26 [.int (nI a)] g (some (.int (nI (pcn 8 a)))) g := by
  have := cl_bcE (X := X) (g := g) (nI a)
  rwa [bcE_ok a h] at this
theorem L_on0 {X : gX} {g : gS} {a n : Nat} (h2 : n + pcn 8 0 = pcn 8 a) : EvP X 140 4 [some (.int (nI a)), some (.int (nI n)), some (.int (nI 0))] [] g (fun v g1 => v = some (.int (nI (pcn 8 a))) ∧ g1 = g) := by
    refine ep_iln t140_4 rfl ?_
    refine ep_if0P t140_5 (ic0_eq (by have := pcn_le a 8; omega)) (fun (c5 : 0 = 0) => ?_) (fun (c5 : ¬ (0 = 0)) => (by exact absurd rfl c5))
    refine ep_iln t140_20 rfl ?_
    refine ep_ri t140_21 (fun h => absurd h (by decide)) ?_
    have e : n = pcn 8 a := h2
    rw [e]
    exact ⟨rfl, rfl⟩
theorem L_on {X : gX} {g : gS} {a : Nat} : ∀ (d n x : Nat), x ≤ d → x < 256 → n + pcn 8 x = pcn 8 a → EvP X 140 4 [some (.int (nI a)), some (.int (nI n)), some (.int (nI x))] [] g (fun v g1 => v = some (.int (nI (pcn 8 a))) ∧ g1 = g)
  | 0, n, x, hd, hx, h2 => by
    obtain rfl : x = 0 := by omega
    refine ep_iln t140_4 rfl ?_
    refine ep_if0P t140_5 (ic0_eq (by have := pcn_le a 8; omega)) (fun (c5 : 0 = 0) => ?_) (fun (c5 : ¬ (0 = 0)) => (by exact absurd rfl c5))
    refine ep_iln t140_20 rfl ?_
    refine ep_ri t140_21 (fun h => absurd h (by decide)) ?_
    have e : n = pcn 8 a := h2
    rw [e]
    exact ⟨rfl, rfl⟩
  | d + 1, n, x, hd, hx, h2 => by
    by_cases e0 : x = 0
    · subst e0
      exact L_on0 h2
    · have hx0 : 0 < x := by omega
      refine ep_iln t140_4 rfl ?_
      refine ep_if0P t140_5 (ic0_eq (by omega)) (fun (c5 : x = 0) => (by omega)) (fun (c5 : ¬ (x = 0)) => ?_)
      refine ep_inc (b := nI (n + 1)) (L' := [some (.int (nI a)), some (.int (nI (n + 1))), some (.int (nI x))]) t140_8 rfl (nI_add n 1) rfl (Nat.le_of_ble_eq_true rfl) ?_
      refine ep_iln t140_11 rfl ?_
      refine ep_iln t140_12 rfl ?_
      refine ep_k1 (w := nI 1) t140_13 rfl ?_
      refine ep_subN (a := x) (b := 1) t140_14 (by omega) ?_
      refine ep_andN (a := x) (b := x - 1) t140_15 ?_
      refine ep_isn (L' := [some (.int (nI a)), some (.int (nI (n + 1))), some (.int (nI (x &&& (x - 1))))]) t140_16 rfl (Nat.le_of_ble_eq_true rfl) ?_
      refine ep_gt t140_17 ?_
      exact L_on d (n + 1) _ (by have := (ones_step x hx (by omega)).2; omega) (by have := (ones_step x hx (by omega)).2; omega) (by have := (ones_step x hx (by omega)).1; omega)
theorem cl_M_ones {X : gX} {g : gS} {a : Nat} (ha : a < 256) : Cl X 140 [.int (nI a)] g (some (.int (nI (pcn 8 a)))) g := by
  refine Cl.of ⟨Nat.le_of_ble_eq_true rfl, rfl⟩ ?_
  show EvP X 140 0 [some (.int (nI a)), none, none] [] g _
  refine ep_k1 (w := nI 0) t140_0 rfl ?_
  refine ep_isn (L' := [some (.int (nI a)), some (.int (nI 0)), none]) t140_1 rfl (Nat.le_of_ble_eq_true rfl) ?_
  refine ep_iln t140_2 rfl ?_
  refine ep_isn (L' := [some (.int (nI a)), some (.int (nI 0)), some (.int (nI a))]) t140_3 rfl (Nat.le_of_ble_eq_true rfl) ?_
  exact L_on a 0 a (Nat.le_refl _) ha (Nat.zero_add _)
theorem L_sl_7 {X : gX} {u : Nat} {σ : gT1} {T : Nat → Nat} {c S : Nat} (hN : NetC σ 7 T) (h0 : T 0 ≤ 6) (h3 : T 3 ≤ 8) (hc : c < 2 ^ T 3) (e4 : σ 0 4 = nI c) (hS : S < 256) (hu : u < T 0) : ∀ (d k : Nat), k + d = T 3 → EvP X 138 5 [some (.ref 0), some (.int (nI u)), some (.int (nI S)), some (.int (nI (litn T c S u k))), some (.int (nI k))] [] (47, g_rho false, σ) (fun v g1 => v = some (.int (nI (litn T c S u (T 3)))) ∧ g1 = (47, g_rho false, σ))
  | 0, k, hk => by
    obtain rfl : k = T 3 := by omega
    refine ep_il t138_5 rfl ?_
    refine ep_aln t138_7 rfl ?_
    refine ep_getr (q := 7) t138_8 rfl (Nat.le_of_ble_eq_true rfl) rfl (rfl) ?_
    refine ep_get t138_11 rfl (Nat.le_of_ble_eq_true rfl) rfl ?_
    refine ep_val (b := nI (T 3)) (hN.1 3 (by decide)) ?_
    refine ep_ifP t138_14 (ic_ge (by omega) (by omega)) (fun (c14 : (T 3) ≤ (T 3)) => ?_) (fun (c14 : ¬ ((T 3) ≤ (T 3))) => (by exact absurd (Nat.le_refl _) c14))
    refine ep_iln t138_57 rfl ?_
    refine ep_ri t138_58 (fun h => absurd h (by decide)) ?_
    exact ⟨rfl, rfl⟩
  | d + 1, k, hk => by
    have hk3 : k < T 3 := by omega
    refine ep_il t138_5 rfl ?_
    refine ep_aln t138_7 rfl ?_
    refine ep_getr (q := 7) t138_8 rfl (Nat.le_of_ble_eq_true rfl) rfl (rfl) ?_
    refine ep_get t138_11 rfl (Nat.le_of_ble_eq_true rfl) rfl ?_
    refine ep_val (b := nI (T 3)) (hN.1 3 (by decide)) ?_
    refine ep_ifP t138_14 (ic_ge (by have := live_lt h0 (c ^^^ 2 ^ k); have := xor_lt hc hk3; have := pow_le_256 h3; omega) (by have := live_lt h0 (c ^^^ 2 ^ k); have := xor_lt hc hk3; have := pow_le_256 h3; omega)) (fun (c14 : (T 3) ≤ k) => (by omega)) (fun (c14 : ¬ ((T 3) ≤ k)) => ?_)
    refine ep_iln t138_17 rfl ?_
    refine ep_il t138_18 rfl ?_
    refine ep_cs t138_20 (Nat.ne_of_beq_eq_false rfl) rfl (Nat.le_of_ble_eq_true rfl) (cl_B_bit (by have := live_lt h0 (c ^^^ 2 ^ k); have := xor_lt hc hk3; have := pow_le_256 h3; omega) (by have := live_lt h0 (c ^^^ 2 ^ k); have := xor_lt hc hk3; have := pow_le_256 h3; omega)) ?_
    refine ep_k1 (w := nI 1) t138_23 rfl ?_
    refine ep_b1n t138_24 (fun (c24 : (Nat.testBit S k) = false) => ?_) (fun (c24 : (Nat.testBit S k) = true) => ?_)
    · refine ep_inc (b := nI (k + 1)) (L' := [some (.ref 0), some (.int (nI u)), some (.int (nI S)), some (.int (nI (litn T c S u k))), some (.int (nI (k + 1)))]) t138_51 rfl (nI_add k 1) rfl (Nat.le_of_ble_eq_true rfl) ?_
      refine ep_gt t138_54 ?_
      have e : litn T c S u k = litn T c S u (k + 1) := by
        show _ = litn T c S u k + (S.testBit k && (liveM T (c ^^^ 2 ^ k)).testBit u).toNat
        rw [c24]; rfl
      rw [e]
      exact L_sl_7 hN h0 h3 hc e4 hS hu d (k + 1) (by omega)
    · refine ep_iln t138_27 rfl ?_
      refine ep_aln t138_28 rfl ?_
      refine ep_getr (q := 7) t138_29 rfl (Nat.le_of_ble_eq_true rfl) rfl (rfl) ?_
      refine ep_getr (q := 12) t138_32 rfl (Nat.le_of_ble_eq_true rfl) rfl (rfl) ?_
      refine ep_aln t138_35 rfl ?_
      refine ep_get t138_36 rfl (Nat.le_of_ble_eq_true rfl) rfl ?_
      refine ep_val (b := nI c) (e4) ?_
      refine ep_k1 (w := nI 1) t138_39 rfl ?_
      refine ep_il t138_40 rfl ?_
      refine ep_oneN (b := k) t138_42 (by have := live_lt h0 (c ^^^ 2 ^ k); have := xor_lt hc hk3; have := pow_le_256 h3; omega) ?_
      refine ep_xorN (a := c) (b := 2 ^ k) t138_43 ?_
      refine ep_aldN t138_44 rfl (Nat.le_of_ble_eq_true rfl) (Nat.ne_of_beq_eq_false rfl) (Nat.le_of_ble_eq_true rfl) (by have := live_lt h0 (c ^^^ 2 ^ k); have := xor_lt hc hk3; have := pow_le_256 h3; omega) ?_
      refine ep_val (b := nI (liveM T (c ^^^ 2 ^ k))) ((hN.2.2 _ (xor_lt hc hk3)).1) ?_
      refine ep_iln t138_45 rfl ?_
      refine ep_cs t138_46 (Nat.ne_of_beq_eq_false rfl) rfl (Nat.le_of_ble_eq_true rfl) (cl_B_bit (by have := live_lt h0 (c ^^^ 2 ^ k); have := xor_lt hc hk3; have := pow_le_256 h3; omega) (by have := live_lt h0 (c ^^^ 2 ^ k); have := xor_lt hc hk3; have := pow_le_256 h3; omega)) ?_
      refine ep_val (b := nI ((Nat.testBit (liveM T (c ^^^ 2 ^ k)) u).toNat)) (bI_toNat _) ?_
      refine ep_addN (a := litn T c S u k) (b := (Nat.testBit (liveM T (c ^^^ 2 ^ k)) u).toNat) t138_49 ?_
      refine ep_isn (L' := [some (.ref 0), some (.int (nI u)), some (.int (nI S)), some (.int (nI ((litn T c S u k) + ((Nat.testBit (liveM T (c ^^^ 2 ^ k)) u).toNat)))), some (.int (nI k))]) t138_50 rfl (Nat.le_of_ble_eq_true rfl) ?_
      refine ep_inc (b := nI (k + 1)) (L' := [some (.ref 0), some (.int (nI u)), some (.int (nI S)), some (.int (nI ((litn T c S u k) + ((Nat.testBit (liveM T (c ^^^ 2 ^ k)) u).toNat)))), some (.int (nI (k + 1)))]) t138_51 rfl (nI_add k 1) rfl (Nat.le_of_ble_eq_true rfl) ?_
      refine ep_gt t138_54 ?_
      have e : litn T c S u k + (Nat.testBit (liveM T (c ^^^ 2 ^ k)) u).toNat = litn T c S u (k + 1) := by
        show _ = litn T c S u k + (S.testBit k && (liveM T (c ^^^ 2 ^ k)).testBit u).toNat
        rw [c24]; rfl
      rw [e]
      exact L_sl_7 hN h0 h3 hc e4 hS hu d (k + 1) (by omega)
theorem cl_B_light_7 {X : gX} {u : Nat} {σ : gT1} {T : Nat → Nat} {c S : Nat} (hN : NetC σ 7 T) (h0 : T 0 ≤ 6) (h3 : T 3 ≤ 8) (hc : c < 2 ^ T 3) (e4 : σ 0 4 = nI c) (hS : S < 256) (hu : u < T 0) : Cl X 138 [.ref 0, .int (nI u), .int (nI S)] (47, g_rho false, σ) (some (.int (nI (litn T c S u (T 3))))) (47, g_rho false, σ) := by
  refine Cl.of ⟨Nat.le_of_ble_eq_true rfl, rfl⟩ ?_
  show EvP X 138 0 [some (.ref 0), some (.int (nI u)), some (.int (nI S)), none, none] [] (47, g_rho false, σ) _
  refine ep_k1 (w := nI 0) t138_0 rfl ?_
  refine ep_isn (L' := [some (.ref 0), some (.int (nI u)), some (.int (nI S)), some (.int (nI 0)), none]) t138_1 rfl (Nat.le_of_ble_eq_true rfl) ?_
  refine ep_k1 (w := nI 0) t138_2 rfl ?_
  refine ep_is (L' := [some (.ref 0), some (.int (nI u)), some (.int (nI S)), some (.int (nI 0)), some (.int (nI 0))]) t138_3 rfl (Nat.le_of_ble_eq_true rfl) ?_
  exact L_sl_7 hN h0 h3 hc e4 hS hu (T 3) 0 (by omega)

theorem L_lk_7 {X : gX} {σ : gT1} {T : Nat → Nat} {c S : Nat} (hN : NetC σ 7 T) (h0 : T 0 ≤ 6) (h3 : T 3 ≤ 8) (hc : c < 2 ^ T 3) (e4 : σ 0 4 = nI c) (hS : S < 256) : ∀ (d u : Nat) (o6 o7 : Option Value), u + d = T 0 → EvP X 139 29 [some (.ref 0), some (.int (nI S)), some (.int (nI (pcn 8 S))), some (.int ((lkS (fun u => max (litn T c S u (T 3)) (pcn 8 S - litn T c S u (T 3))) (pcn 8 S + 1) u).2)), some (.int (nI ((lkS (fun u => max (litn T c S u (T 3)) (pcn 8 S - litn T c S u (T 3))) (pcn 8 S + 1) u).1))), some (.int (nI u)), o6, o7] [] (47, g_rho false, σ) (fun v g1 => v = some (.int (lkS (fun u => max (litn T c S u (T 3)) (pcn 8 S - litn T c S u (T 3))) (pcn 8 S + 1) (T 0)).2) ∧ g1 = (47, g_rho false, σ))
  | 0, u, o6, o7, hk => by
    obtain rfl : u = T 0 := by omega
    refine ep_il t139_29 rfl ?_
    refine ep_aln t139_31 rfl ?_
    refine ep_getr (q := 7) t139_32 rfl (Nat.le_of_ble_eq_true rfl) rfl (rfl) ?_
    refine ep_get t139_35 rfl (Nat.le_of_ble_eq_true rfl) rfl ?_
    refine ep_val (b := nI (T 0)) (hN.1 0 (by decide)) ?_
    refine ep_ifP t139_38 (ic_ge (by omega) (by omega)) (fun (c38 : (T 0) ≤ (T 0)) => ?_) (fun (c38 : ¬ ((T 0) ≤ (T 0))) => (by exact absurd (Nat.le_refl _) c38))
    refine ep_iln t139_81 rfl ?_
    refine ep_ri t139_82 (fun h => absurd h (by decide)) ?_
    exact ⟨rfl, rfl⟩
  | d + 1, u, o6, o7, hk => by
    have hu : u < T 0 := by omega
    refine ep_il t139_29 rfl ?_
    refine ep_aln t139_31 rfl ?_
    refine ep_getr (q := 7) t139_32 rfl (Nat.le_of_ble_eq_true rfl) rfl (rfl) ?_
    refine ep_get t139_35 rfl (Nat.le_of_ble_eq_true rfl) rfl ?_
    refine ep_val (b := nI (T 0)) (hN.1 0 (by decide)) ?_
    refine ep_ifP t139_38 (ic_ge (by have := litn_le T c S u (T 3); have := pcn_mono S 8 h3; have := pcn_le S 8; have := lkS_le (g := (fun u => max (litn T c S u (T 3)) (pcn 8 S - litn T c S u (T 3)))) (s0 := pcn 8 S + 1) u; omega) (by have := litn_le T c S u (T 3); have := pcn_mono S 8 h3; have := pcn_le S 8; have := lkS_le (g := (fun u => max (litn T c S u (T 3)) (pcn 8 S - litn T c S u (T 3)))) (s0 := pcn 8 S + 1) u; omega)) (fun (c38 : (T 0) ≤ u) => (by omega)) (fun (c38 : ¬ ((T 0) ≤ u)) => ?_)
    refine ep_aln t139_41 rfl ?_
    refine ep_il t139_42 rfl ?_
    refine ep_iln t139_44 rfl ?_
    refine ep_cv t139_45 rfl rfl (Nat.le_of_ble_eq_true rfl) (Nat.le_of_ble_eq_true rfl) (cl_B_light_7 hN h0 h3 hc e4 hS hu) ?_
    refine ep_is (L' := [some (.ref 0), some (.int (nI S)), some (.int (nI (pcn 8 S))), some (.int ((lkS (fun u => max (litn T c S u (T 3)) (pcn 8 S - litn T c S u (T 3))) (pcn 8 S + 1) u).2)), some (.int (nI ((lkS (fun u => max (litn T c S u (T 3)) (pcn 8 S - litn T c S u (T 3))) (pcn 8 S + 1) u).1))), some (.int (nI u)), some (.int (nI (litn T c S u (T 3)))), o7]) t139_48 rfl (Nat.le_of_ble_eq_true rfl) ?_
    refine ep_il t139_50 rfl ?_
    refine ep_iln t139_52 rfl ?_
    refine ep_il t139_53 rfl ?_
    refine ep_subN (a := pcn 8 S) (b := litn T c S u (T 3)) t139_55 (by have := litn_le T c S u (T 3); have := pcn_mono S 8 h3; have := pcn_le S 8; have := lkS_le (g := (fun u => max (litn T c S u (T 3)) (pcn 8 S - litn T c S u (T 3)))) (s0 := pcn 8 S + 1) u; omega) ?_
    refine ep_max (a := litn T c S u (T 3)) (b := (pcn 8 S) - (litn T c S u (T 3))) t139_56 (by have := litn_le T c S u (T 3); have := pcn_mono S 8 h3; have := pcn_le S 8; have := lkS_le (g := (fun u => max (litn T c S u (T 3)) (pcn 8 S - litn T c S u (T 3)))) (s0 := pcn 8 S + 1) u; omega) (by have := litn_le T c S u (T 3); have := pcn_mono S 8 h3; have := pcn_le S 8; have := lkS_le (g := (fun u => max (litn T c S u (T 3)) (pcn 8 S - litn T c S u (T 3)))) (s0 := pcn 8 S + 1) u; omega) (Nat.le_of_ble_eq_true rfl) ?_
    refine ep_is (L' := [some (.ref 0), some (.int (nI S)), some (.int (nI (pcn 8 S))), some (.int ((lkS (fun u => max (litn T c S u (T 3)) (pcn 8 S - litn T c S u (T 3))) (pcn 8 S + 1) u).2)), some (.int (nI ((lkS (fun u => max (litn T c S u (T 3)) (pcn 8 S - litn T c S u (T 3))) (pcn 8 S + 1) u).1))), some (.int (nI u)), some (.int (nI (litn T c S u (T 3)))), some (.int (nI (max (litn T c S u (T 3)) ((pcn 8 S) - (litn T c S u (T 3))))))]) t139_59 rfl (Nat.le_of_ble_eq_true rfl) ?_
    refine ep_il t139_61 rfl ?_
    refine ep_il t139_63 rfl ?_
    refine ep_ifP t139_65 (ic_ge (by have := litn_le T c S u (T 3); have := pcn_mono S 8 h3; have := pcn_le S 8; have := lkS_le (g := (fun u => max (litn T c S u (T 3)) (pcn 8 S - litn T c S u (T 3)))) (s0 := pcn 8 S + 1) u; omega) (by have := litn_le T c S u (T 3); have := pcn_mono S 8 h3; have := pcn_le S 8; have := lkS_le (g := (fun u => max (litn T c S u (T 3)) (pcn 8 S - litn T c S u (T 3)))) (s0 := pcn 8 S + 1) u; omega)) (fun (c65 : ((lkS (fun u => max (litn T c S u (T 3)) (pcn 8 S - litn T c S u (T 3))) (pcn 8 S + 1) u).1) ≤ (max (litn T c S u (T 3)) ((pcn 8 S) - (litn T c S u (T 3))))) => ?_) (fun (c65 : ¬ (((lkS (fun u => max (litn T c S u (T 3)) (pcn 8 S - litn T c S u (T 3))) (pcn 8 S + 1) u).1) ≤ (max (litn T c S u (T 3)) ((pcn 8 S) - (litn T c S u (T 3)))))) => ?_)
    · refine ep_inc (b := nI (u + 1)) (L' := [some (.ref 0), some (.int (nI S)), some (.int (nI (pcn 8 S))), some (.int ((lkS (fun u => max (litn T c S u (T 3)) (pcn 8 S - litn T c S u (T 3))) (pcn 8 S + 1) u).2)), some (.int (nI ((lkS (fun u => max (litn T c S u (T 3)) (pcn 8 S - litn T c S u (T 3))) (pcn 8 S + 1) u).1))), some (.int (nI (u + 1))), some (.int (nI (litn T c S u (T 3)))), some (.int (nI (max (litn T c S u (T 3)) ((pcn 8 S) - (litn T c S u (T 3))))))]) t139_75 rfl (nI_add u 1) rfl (Nat.le_of_ble_eq_true rfl) ?_
      refine ep_gt t139_78 ?_
      have e := lkS_no (g := (fun u => max (litn T c S u (T 3)) (pcn 8 S - litn T c S u (T 3)))) (s0 := pcn 8 S + 1) (u := u) (Nat.not_lt.mpr c65)
      have e1 := congrArg Prod.fst e
      have e2 := congrArg Prod.snd e
      rw [← e1, ← e2]
      exact L_lk_7 hN h0 h3 hc e4 hS d (u + 1) _ _ (by omega)
    · refine ep_il t139_68 rfl ?_
      refine ep_is (L' := [some (.ref 0), some (.int (nI S)), some (.int (nI (pcn 8 S))), some (.int ((lkS (fun u => max (litn T c S u (T 3)) (pcn 8 S - litn T c S u (T 3))) (pcn 8 S + 1) u).2)), some (.int (nI (max (litn T c S u (T 3)) ((pcn 8 S) - (litn T c S u (T 3)))))), some (.int (nI u)), some (.int (nI (litn T c S u (T 3)))), some (.int (nI (max (litn T c S u (T 3)) ((pcn 8 S) - (litn T c S u (T 3))))))]) t139_70 rfl (Nat.le_of_ble_eq_true rfl) ?_
      refine ep_il t139_72 rfl ?_
      refine ep_isn (L' := [some (.ref 0), some (.int (nI S)), some (.int (nI (pcn 8 S))), some (.int (nI u)), some (.int (nI (max (litn T c S u (T 3)) ((pcn 8 S) - (litn T c S u (T 3)))))), some (.int (nI u)), some (.int (nI (litn T c S u (T 3)))), some (.int (nI (max (litn T c S u (T 3)) ((pcn 8 S) - (litn T c S u (T 3))))))]) t139_74 rfl (Nat.le_of_ble_eq_true rfl) ?_
      refine ep_inc (b := nI (u + 1)) (L' := [some (.ref 0), some (.int (nI S)), some (.int (nI (pcn 8 S))), some (.int (nI u)), some (.int (nI (max (litn T c S u (T 3)) ((pcn 8 S) - (litn T c S u (T 3)))))), some (.int (nI (u + 1))), some (.int (nI (litn T c S u (T 3)))), some (.int (nI (max (litn T c S u (T 3)) ((pcn 8 S) - (litn T c S u (T 3))))))]) t139_75 rfl (nI_add u 1) rfl (Nat.le_of_ble_eq_true rfl) ?_
      refine ep_gt t139_78 ?_
      have e := lkS_yes (g := (fun u => max (litn T c S u (T 3)) (pcn 8 S - litn T c S u (T 3)))) (s0 := pcn 8 S + 1) (u := u) (Nat.lt_of_not_le c65)
      have e1 := congrArg Prod.fst e
      have e2 := congrArg Prod.snd e
      dsimp only at e1 e2
      rw [← e1, ← e2]
      exact L_lk_7 hN h0 h3 hc e4 hS d (u + 1) _ _ (by omega)
theorem cl_B_look_7 {X : gX} {σ : gT1} {T : Nat → Nat} {c n : Nat} {su sb : Nat → Nat} (hN : NetC σ 7 T) (h0 : T 0 ≤ 6) (h3 : T 3 ≤ 8) (hc : c < 2 ^ T 3) (e4 : σ 0 4 = nI c) (hn : n ≤ 6) (e14 : σ 0 14 = nI n) (hs : ∀ j, j < n → (su j < T 0 ∧ sb j < 2) ∧ σ 29 j = nI (2 * su j + sb j))  : Cl X 139 [.ref 0] (47, g_rho false, σ) (some (.int (if pcn 8 (unsM T c n su sb) ≤ 1 then -9 else (lkS (fun u => max (litn T c (unsM T c n su sb) u (T 3)) (pcn 8 (unsM T c n su sb) - litn T c (unsM T c n su sb) u (T 3))) (pcn 8 (unsM T c n su sb) + 1) (T 0)).2))) (47, g_rho false, σ) := by
  have hS : unsM T c n su sb < 256 := Nat.lt_of_lt_of_le (mk_lt _ _) (pow_le_256 h3)
  refine Cl.of ⟨Nat.le_of_ble_eq_true rfl, rfl⟩ ?_
  show EvP X 139 0 [some (.ref 0), none, none, none, none, none, none, none] [] (47, g_rho false, σ) _
  refine ep_aln t139_0 rfl ?_
  refine ep_cv t139_1 rfl rfl (Nat.le_of_ble_eq_true rfl) (Nat.le_of_ble_eq_true rfl) (cl_B_unseen_7 hN h0 h3 hc e4 hn e14 hs) ?_
  refine ep_isn (L' := [some (.ref 0), some (.int (nI (unsM T c n su sb))), none, none, none, none, none, none]) t139_4 rfl (Nat.le_of_ble_eq_true rfl) ?_
  refine ep_iln t139_5 rfl ?_
  refine ep_cs t139_6 (Nat.ne_of_beq_eq_false rfl) rfl (Nat.le_of_ble_eq_true rfl) (cl_bitCount hS) ?_
  refine ep_isn (L' := [some (.ref 0), some (.int (nI (unsM T c n su sb))), some (.int (nI (pcn 8 (unsM T c n su sb)))), none, none, none, none, none]) t139_9 rfl (Nat.le_of_ble_eq_true rfl) ?_
  refine ep_iln t139_10 rfl ?_
  refine ep_k1 (w := nI 1) t139_11 rfl ?_
  refine ep_ifP t139_12 (ic_gt (by have := pcn_le (unsM T c n su sb) 8; omega) (by have := pcn_le (unsM T c n su sb) 8; omega)) (fun (c12 : 1 < (pcn 8 (unsM T c n su sb))) => ?_) (fun (c12 : ¬ (1 < (pcn 8 (unsM T c n su sb)))) => ?_)
  · refine ep_k2 (w := (-9)) t139_18 rfl ?_
    refine ep_isn (L' := [some (.ref 0), some (.int (nI (unsM T c n su sb))), some (.int (nI (pcn 8 (unsM T c n su sb)))), some (.int ((-9))), none, none, none, none]) t139_20 rfl (Nat.le_of_ble_eq_true rfl) ?_
    refine ep_iln t139_21 rfl ?_
    refine ep_k1 (w := nI 1) t139_22 rfl ?_
    refine ep_addN (a := pcn 8 (unsM T c n su sb)) (b := 1) t139_23 ?_
    refine ep_is (L' := [some (.ref 0), some (.int (nI (unsM T c n su sb))), some (.int (nI (pcn 8 (unsM T c n su sb)))), some (.int ((-9))), some (.int (nI ((pcn 8 (unsM T c n su sb)) + 1))), none, none, none]) t139_24 rfl (Nat.le_of_ble_eq_true rfl) ?_
    refine ep_k1 (w := nI 0) t139_26 rfl ?_
    refine ep_is (L' := [some (.ref 0), some (.int (nI (unsM T c n su sb))), some (.int (nI (pcn 8 (unsM T c n su sb)))), some (.int ((-9))), some (.int (nI ((pcn 8 (unsM T c n su sb)) + 1))), some (.int (nI 0)), none, none]) t139_27 rfl (Nat.le_of_ble_eq_true rfl) ?_
    refine (L_lk_7 hN h0 h3 hc e4 hS (T 0) 0 _ _ (by omega)).mono (fun v g1 h => ?_)
    rw [if_neg (by omega)]
    exact h
  · refine ep_k2 (w := (-9)) t139_15 rfl ?_
    refine ep_ri t139_17 (fun h => absurd h (by decide)) ?_
    exact ⟨by rw [if_pos (by omega)], rfl⟩

theorem L_sl_16 {X : gX} {u : Nat} {σ : gT1} {T : Nat → Nat} {c S : Nat} (hN : NetC σ 16 T) (h0 : T 0 ≤ 6) (h3 : T 3 ≤ 8) (hc : c < 2 ^ T 3) (e4 : σ 0 4 = nI c) (hS : S < 256) (hu : u < T 0) : ∀ (d k : Nat), k + d = T 3 → EvP X 138 5 [some (.ref 0), some (.int (nI u)), some (.int (nI S)), some (.int (nI (litn T c S u k))), some (.int (nI k))] [] (47, g_rho true, σ) (fun v g1 => v = some (.int (nI (litn T c S u (T 3)))) ∧ g1 = (47, g_rho true, σ))
  | 0, k, hk => by
    obtain rfl : k = T 3 := by omega
    refine ep_il t138_5 rfl ?_
    refine ep_aln t138_7 rfl ?_
    refine ep_getr (q := 16) t138_8 rfl (Nat.le_of_ble_eq_true rfl) rfl (rfl) ?_
    refine ep_get t138_11 rfl (Nat.le_of_ble_eq_true rfl) rfl ?_
    refine ep_val (b := nI (T 3)) (hN.1 3 (by decide)) ?_
    refine ep_ifP t138_14 (ic_ge (by omega) (by omega)) (fun (c14 : (T 3) ≤ (T 3)) => ?_) (fun (c14 : ¬ ((T 3) ≤ (T 3))) => (by exact absurd (Nat.le_refl _) c14))
    refine ep_iln t138_57 rfl ?_
    refine ep_ri t138_58 (fun h => absurd h (by decide)) ?_
    exact ⟨rfl, rfl⟩
  | d + 1, k, hk => by
    have hk3 : k < T 3 := by omega
    refine ep_il t138_5 rfl ?_
    refine ep_aln t138_7 rfl ?_
    refine ep_getr (q := 16) t138_8 rfl (Nat.le_of_ble_eq_true rfl) rfl (rfl) ?_
    refine ep_get t138_11 rfl (Nat.le_of_ble_eq_true rfl) rfl ?_
    refine ep_val (b := nI (T 3)) (hN.1 3 (by decide)) ?_
    refine ep_ifP t138_14 (ic_ge (by have := live_lt h0 (c ^^^ 2 ^ k); have := xor_lt hc hk3; have := pow_le_256 h3; omega) (by have := live_lt h0 (c ^^^ 2 ^ k); have := xor_lt hc hk3; have := pow_le_256 h3; omega)) (fun (c14 : (T 3) ≤ k) => (by omega)) (fun (c14 : ¬ ((T 3) ≤ k)) => ?_)
    refine ep_iln t138_17 rfl ?_
    refine ep_il t138_18 rfl ?_
    refine ep_cs t138_20 (Nat.ne_of_beq_eq_false rfl) rfl (Nat.le_of_ble_eq_true rfl) (cl_B_bit (by have := live_lt h0 (c ^^^ 2 ^ k); have := xor_lt hc hk3; have := pow_le_256 h3; omega) (by have := live_lt h0 (c ^^^ 2 ^ k); have := xor_lt hc hk3; have := pow_le_256 h3; omega)) ?_
    refine ep_k1 (w := nI 1) t138_23 rfl ?_
    refine ep_b1n t138_24 (fun (c24 : (Nat.testBit S k) = false) => ?_) (fun (c24 : (Nat.testBit S k) = true) => ?_)
    · refine ep_inc (b := nI (k + 1)) (L' := [some (.ref 0), some (.int (nI u)), some (.int (nI S)), some (.int (nI (litn T c S u k))), some (.int (nI (k + 1)))]) t138_51 rfl (nI_add k 1) rfl (Nat.le_of_ble_eq_true rfl) ?_
      refine ep_gt t138_54 ?_
      have e : litn T c S u k = litn T c S u (k + 1) := by
        show _ = litn T c S u k + (S.testBit k && (liveM T (c ^^^ 2 ^ k)).testBit u).toNat
        rw [c24]; rfl
      rw [e]
      exact L_sl_16 hN h0 h3 hc e4 hS hu d (k + 1) (by omega)
    · refine ep_iln t138_27 rfl ?_
      refine ep_aln t138_28 rfl ?_
      refine ep_getr (q := 16) t138_29 rfl (Nat.le_of_ble_eq_true rfl) rfl (rfl) ?_
      refine ep_getr (q := 21) t138_32 rfl (Nat.le_of_ble_eq_true rfl) rfl (rfl) ?_
      refine ep_aln t138_35 rfl ?_
      refine ep_get t138_36 rfl (Nat.le_of_ble_eq_true rfl) rfl ?_
      refine ep_val (b := nI c) (e4) ?_
      refine ep_k1 (w := nI 1) t138_39 rfl ?_
      refine ep_il t138_40 rfl ?_
      refine ep_oneN (b := k) t138_42 (by have := live_lt h0 (c ^^^ 2 ^ k); have := xor_lt hc hk3; have := pow_le_256 h3; omega) ?_
      refine ep_xorN (a := c) (b := 2 ^ k) t138_43 ?_
      refine ep_aldN t138_44 rfl (Nat.le_of_ble_eq_true rfl) (Nat.ne_of_beq_eq_false rfl) (Nat.le_of_ble_eq_true rfl) (by have := live_lt h0 (c ^^^ 2 ^ k); have := xor_lt hc hk3; have := pow_le_256 h3; omega) ?_
      refine ep_val (b := nI (liveM T (c ^^^ 2 ^ k))) ((hN.2.2 _ (xor_lt hc hk3)).1) ?_
      refine ep_iln t138_45 rfl ?_
      refine ep_cs t138_46 (Nat.ne_of_beq_eq_false rfl) rfl (Nat.le_of_ble_eq_true rfl) (cl_B_bit (by have := live_lt h0 (c ^^^ 2 ^ k); have := xor_lt hc hk3; have := pow_le_256 h3; omega) (by have := live_lt h0 (c ^^^ 2 ^ k); have := xor_lt hc hk3; have := pow_le_256 h3; omega)) ?_
      refine ep_val (b := nI ((Nat.testBit (liveM T (c ^^^ 2 ^ k)) u).toNat)) (bI_toNat _) ?_
      refine ep_addN (a := litn T c S u k) (b := (Nat.testBit (liveM T (c ^^^ 2 ^ k)) u).toNat) t138_49 ?_
      refine ep_isn (L' := [some (.ref 0), some (.int (nI u)), some (.int (nI S)), some (.int (nI ((litn T c S u k) + ((Nat.testBit (liveM T (c ^^^ 2 ^ k)) u).toNat)))), some (.int (nI k))]) t138_50 rfl (Nat.le_of_ble_eq_true rfl) ?_
      refine ep_inc (b := nI (k + 1)) (L' := [some (.ref 0), some (.int (nI u)), some (.int (nI S)), some (.int (nI ((litn T c S u k) + ((Nat.testBit (liveM T (c ^^^ 2 ^ k)) u).toNat)))), some (.int (nI (k + 1)))]) t138_51 rfl (nI_add k 1) rfl (Nat.le_of_ble_eq_true rfl) ?_
      refine ep_gt t138_54 ?_
      have e : litn T c S u k + (Nat.testBit (liveM T (c ^^^ 2 ^ k)) u).toNat = litn T c S u (k + 1) := by
        show _ = litn T c S u k + (S.testBit k && (liveM T (c ^^^ 2 ^ k)).testBit u).toNat
        rw [c24]; rfl
      rw [e]
      exact L_sl_16 hN h0 h3 hc e4 hS hu d (k + 1) (by omega)
theorem cl_B_light_16 {X : gX} {u : Nat} {σ : gT1} {T : Nat → Nat} {c S : Nat} (hN : NetC σ 16 T) (h0 : T 0 ≤ 6) (h3 : T 3 ≤ 8) (hc : c < 2 ^ T 3) (e4 : σ 0 4 = nI c) (hS : S < 256) (hu : u < T 0) : Cl X 138 [.ref 0, .int (nI u), .int (nI S)] (47, g_rho true, σ) (some (.int (nI (litn T c S u (T 3))))) (47, g_rho true, σ) := by
  refine Cl.of ⟨Nat.le_of_ble_eq_true rfl, rfl⟩ ?_
  show EvP X 138 0 [some (.ref 0), some (.int (nI u)), some (.int (nI S)), none, none] [] (47, g_rho true, σ) _
  refine ep_k1 (w := nI 0) t138_0 rfl ?_
  refine ep_isn (L' := [some (.ref 0), some (.int (nI u)), some (.int (nI S)), some (.int (nI 0)), none]) t138_1 rfl (Nat.le_of_ble_eq_true rfl) ?_
  refine ep_k1 (w := nI 0) t138_2 rfl ?_
  refine ep_is (L' := [some (.ref 0), some (.int (nI u)), some (.int (nI S)), some (.int (nI 0)), some (.int (nI 0))]) t138_3 rfl (Nat.le_of_ble_eq_true rfl) ?_
  exact L_sl_16 hN h0 h3 hc e4 hS hu (T 3) 0 (by omega)

theorem L_lk_16 {X : gX} {σ : gT1} {T : Nat → Nat} {c S : Nat} (hN : NetC σ 16 T) (h0 : T 0 ≤ 6) (h3 : T 3 ≤ 8) (hc : c < 2 ^ T 3) (e4 : σ 0 4 = nI c) (hS : S < 256) : ∀ (d u : Nat) (o6 o7 : Option Value), u + d = T 0 → EvP X 139 29 [some (.ref 0), some (.int (nI S)), some (.int (nI (pcn 8 S))), some (.int ((lkS (fun u => max (litn T c S u (T 3)) (pcn 8 S - litn T c S u (T 3))) (pcn 8 S + 1) u).2)), some (.int (nI ((lkS (fun u => max (litn T c S u (T 3)) (pcn 8 S - litn T c S u (T 3))) (pcn 8 S + 1) u).1))), some (.int (nI u)), o6, o7] [] (47, g_rho true, σ) (fun v g1 => v = some (.int (lkS (fun u => max (litn T c S u (T 3)) (pcn 8 S - litn T c S u (T 3))) (pcn 8 S + 1) (T 0)).2) ∧ g1 = (47, g_rho true, σ))
  | 0, u, o6, o7, hk => by
    obtain rfl : u = T 0 := by omega
    refine ep_il t139_29 rfl ?_
    refine ep_aln t139_31 rfl ?_
    refine ep_getr (q := 16) t139_32 rfl (Nat.le_of_ble_eq_true rfl) rfl (rfl) ?_
    refine ep_get t139_35 rfl (Nat.le_of_ble_eq_true rfl) rfl ?_
    refine ep_val (b := nI (T 0)) (hN.1 0 (by decide)) ?_
    refine ep_ifP t139_38 (ic_ge (by omega) (by omega)) (fun (c38 : (T 0) ≤ (T 0)) => ?_) (fun (c38 : ¬ ((T 0) ≤ (T 0))) => (by exact absurd (Nat.le_refl _) c38))
    refine ep_iln t139_81 rfl ?_
    refine ep_ri t139_82 (fun h => absurd h (by decide)) ?_
    exact ⟨rfl, rfl⟩
  | d + 1, u, o6, o7, hk => by
    have hu : u < T 0 := by omega
    refine ep_il t139_29 rfl ?_
    refine ep_aln t139_31 rfl ?_
    refine ep_getr (q := 16) t139_32 rfl (Nat.le_of_ble_eq_true rfl) rfl (rfl) ?_
    refine ep_get t139_35 rfl (Nat.le_of_ble_eq_true rfl) rfl ?_
    refine ep_val (b := nI (T 0)) (hN.1 0 (by decide)) ?_
    refine ep_ifP t139_38 (ic_ge (by have := litn_le T c S u (T 3); have := pcn_mono S 8 h3; have := pcn_le S 8; have := lkS_le (g := (fun u => max (litn T c S u (T 3)) (pcn 8 S - litn T c S u (T 3)))) (s0 := pcn 8 S + 1) u; omega) (by have := litn_le T c S u (T 3); have := pcn_mono S 8 h3; have := pcn_le S 8; have := lkS_le (g := (fun u => max (litn T c S u (T 3)) (pcn 8 S - litn T c S u (T 3)))) (s0 := pcn 8 S + 1) u; omega)) (fun (c38 : (T 0) ≤ u) => (by omega)) (fun (c38 : ¬ ((T 0) ≤ u)) => ?_)
    refine ep_aln t139_41 rfl ?_
    refine ep_il t139_42 rfl ?_
    refine ep_iln t139_44 rfl ?_
    refine ep_cv t139_45 rfl rfl (Nat.le_of_ble_eq_true rfl) (Nat.le_of_ble_eq_true rfl) (cl_B_light_16 hN h0 h3 hc e4 hS hu) ?_
    refine ep_is (L' := [some (.ref 0), some (.int (nI S)), some (.int (nI (pcn 8 S))), some (.int ((lkS (fun u => max (litn T c S u (T 3)) (pcn 8 S - litn T c S u (T 3))) (pcn 8 S + 1) u).2)), some (.int (nI ((lkS (fun u => max (litn T c S u (T 3)) (pcn 8 S - litn T c S u (T 3))) (pcn 8 S + 1) u).1))), some (.int (nI u)), some (.int (nI (litn T c S u (T 3)))), o7]) t139_48 rfl (Nat.le_of_ble_eq_true rfl) ?_
    refine ep_il t139_50 rfl ?_
    refine ep_iln t139_52 rfl ?_
    refine ep_il t139_53 rfl ?_
    refine ep_subN (a := pcn 8 S) (b := litn T c S u (T 3)) t139_55 (by have := litn_le T c S u (T 3); have := pcn_mono S 8 h3; have := pcn_le S 8; have := lkS_le (g := (fun u => max (litn T c S u (T 3)) (pcn 8 S - litn T c S u (T 3)))) (s0 := pcn 8 S + 1) u; omega) ?_
    refine ep_max (a := litn T c S u (T 3)) (b := (pcn 8 S) - (litn T c S u (T 3))) t139_56 (by have := litn_le T c S u (T 3); have := pcn_mono S 8 h3; have := pcn_le S 8; have := lkS_le (g := (fun u => max (litn T c S u (T 3)) (pcn 8 S - litn T c S u (T 3)))) (s0 := pcn 8 S + 1) u; omega) (by have := litn_le T c S u (T 3); have := pcn_mono S 8 h3; have := pcn_le S 8; have := lkS_le (g := (fun u => max (litn T c S u (T 3)) (pcn 8 S - litn T c S u (T 3)))) (s0 := pcn 8 S + 1) u; omega) (Nat.le_of_ble_eq_true rfl) ?_
    refine ep_is (L' := [some (.ref 0), some (.int (nI S)), some (.int (nI (pcn 8 S))), some (.int ((lkS (fun u => max (litn T c S u (T 3)) (pcn 8 S - litn T c S u (T 3))) (pcn 8 S + 1) u).2)), some (.int (nI ((lkS (fun u => max (litn T c S u (T 3)) (pcn 8 S - litn T c S u (T 3))) (pcn 8 S + 1) u).1))), some (.int (nI u)), some (.int (nI (litn T c S u (T 3)))), some (.int (nI (max (litn T c S u (T 3)) ((pcn 8 S) - (litn T c S u (T 3))))))]) t139_59 rfl (Nat.le_of_ble_eq_true rfl) ?_
    refine ep_il t139_61 rfl ?_
    refine ep_il t139_63 rfl ?_
    refine ep_ifP t139_65 (ic_ge (by have := litn_le T c S u (T 3); have := pcn_mono S 8 h3; have := pcn_le S 8; have := lkS_le (g := (fun u => max (litn T c S u (T 3)) (pcn 8 S - litn T c S u (T 3)))) (s0 := pcn 8 S + 1) u; omega) (by have := litn_le T c S u (T 3); have := pcn_mono S 8 h3; have := pcn_le S 8; have := lkS_le (g := (fun u => max (litn T c S u (T 3)) (pcn 8 S - litn T c S u (T 3)))) (s0 := pcn 8 S + 1) u; omega)) (fun (c65 : ((lkS (fun u => max (litn T c S u (T 3)) (pcn 8 S - litn T c S u (T 3))) (pcn 8 S + 1) u).1) ≤ (max (litn T c S u (T 3)) ((pcn 8 S) - (litn T c S u (T 3))))) => ?_) (fun (c65 : ¬ (((lkS (fun u => max (litn T c S u (T 3)) (pcn 8 S - litn T c S u (T 3))) (pcn 8 S + 1) u).1) ≤ (max (litn T c S u (T 3)) ((pcn 8 S) - (litn T c S u (T 3)))))) => ?_)
    · refine ep_inc (b := nI (u + 1)) (L' := [some (.ref 0), some (.int (nI S)), some (.int (nI (pcn 8 S))), some (.int ((lkS (fun u => max (litn T c S u (T 3)) (pcn 8 S - litn T c S u (T 3))) (pcn 8 S + 1) u).2)), some (.int (nI ((lkS (fun u => max (litn T c S u (T 3)) (pcn 8 S - litn T c S u (T 3))) (pcn 8 S + 1) u).1))), some (.int (nI (u + 1))), some (.int (nI (litn T c S u (T 3)))), some (.int (nI (max (litn T c S u (T 3)) ((pcn 8 S) - (litn T c S u (T 3))))))]) t139_75 rfl (nI_add u 1) rfl (Nat.le_of_ble_eq_true rfl) ?_
      refine ep_gt t139_78 ?_
      have e := lkS_no (g := (fun u => max (litn T c S u (T 3)) (pcn 8 S - litn T c S u (T 3)))) (s0 := pcn 8 S + 1) (u := u) (Nat.not_lt.mpr c65)
      have e1 := congrArg Prod.fst e
      have e2 := congrArg Prod.snd e
      rw [← e1, ← e2]
      exact L_lk_16 hN h0 h3 hc e4 hS d (u + 1) _ _ (by omega)
    · refine ep_il t139_68 rfl ?_
      refine ep_is (L' := [some (.ref 0), some (.int (nI S)), some (.int (nI (pcn 8 S))), some (.int ((lkS (fun u => max (litn T c S u (T 3)) (pcn 8 S - litn T c S u (T 3))) (pcn 8 S + 1) u).2)), some (.int (nI (max (litn T c S u (T 3)) ((pcn 8 S) - (litn T c S u (T 3)))))), some (.int (nI u)), some (.int (nI (litn T c S u (T 3)))), some (.int (nI (max (litn T c S u (T 3)) ((pcn 8 S) - (litn T c S u (T 3))))))]) t139_70 rfl (Nat.le_of_ble_eq_true rfl) ?_
      refine ep_il t139_72 rfl ?_
      refine ep_isn (L' := [some (.ref 0), some (.int (nI S)), some (.int (nI (pcn 8 S))), some (.int (nI u)), some (.int (nI (max (litn T c S u (T 3)) ((pcn 8 S) - (litn T c S u (T 3)))))), some (.int (nI u)), some (.int (nI (litn T c S u (T 3)))), some (.int (nI (max (litn T c S u (T 3)) ((pcn 8 S) - (litn T c S u (T 3))))))]) t139_74 rfl (Nat.le_of_ble_eq_true rfl) ?_
      refine ep_inc (b := nI (u + 1)) (L' := [some (.ref 0), some (.int (nI S)), some (.int (nI (pcn 8 S))), some (.int (nI u)), some (.int (nI (max (litn T c S u (T 3)) ((pcn 8 S) - (litn T c S u (T 3)))))), some (.int (nI (u + 1))), some (.int (nI (litn T c S u (T 3)))), some (.int (nI (max (litn T c S u (T 3)) ((pcn 8 S) - (litn T c S u (T 3))))))]) t139_75 rfl (nI_add u 1) rfl (Nat.le_of_ble_eq_true rfl) ?_
      refine ep_gt t139_78 ?_
      have e := lkS_yes (g := (fun u => max (litn T c S u (T 3)) (pcn 8 S - litn T c S u (T 3)))) (s0 := pcn 8 S + 1) (u := u) (Nat.lt_of_not_le c65)
      have e1 := congrArg Prod.fst e
      have e2 := congrArg Prod.snd e
      dsimp only at e1 e2
      rw [← e1, ← e2]
      exact L_lk_16 hN h0 h3 hc e4 hS d (u + 1) _ _ (by omega)
theorem cl_B_look_16 {X : gX} {σ : gT1} {T : Nat → Nat} {c n : Nat} {su sb : Nat → Nat} (hN : NetC σ 16 T) (h0 : T 0 ≤ 6) (h3 : T 3 ≤ 8) (hc : c < 2 ^ T 3) (e4 : σ 0 4 = nI c) (hn : n ≤ 6) (e14 : σ 0 14 = nI n) (hs : ∀ j, j < n → (su j < T 0 ∧ sb j < 2) ∧ σ 29 j = nI (2 * su j + sb j))  : Cl X 139 [.ref 0] (47, g_rho true, σ) (some (.int (if pcn 8 (unsM T c n su sb) ≤ 1 then -9 else (lkS (fun u => max (litn T c (unsM T c n su sb) u (T 3)) (pcn 8 (unsM T c n su sb) - litn T c (unsM T c n su sb) u (T 3))) (pcn 8 (unsM T c n su sb) + 1) (T 0)).2))) (47, g_rho true, σ) := by
  have hS : unsM T c n su sb < 256 := Nat.lt_of_lt_of_le (mk_lt _ _) (pow_le_256 h3)
  refine Cl.of ⟨Nat.le_of_ble_eq_true rfl, rfl⟩ ?_
  show EvP X 139 0 [some (.ref 0), none, none, none, none, none, none, none] [] (47, g_rho true, σ) _
  refine ep_aln t139_0 rfl ?_
  refine ep_cv t139_1 rfl rfl (Nat.le_of_ble_eq_true rfl) (Nat.le_of_ble_eq_true rfl) (cl_B_unseen_16 hN h0 h3 hc e4 hn e14 hs) ?_
  refine ep_isn (L' := [some (.ref 0), some (.int (nI (unsM T c n su sb))), none, none, none, none, none, none]) t139_4 rfl (Nat.le_of_ble_eq_true rfl) ?_
  refine ep_iln t139_5 rfl ?_
  refine ep_cs t139_6 (Nat.ne_of_beq_eq_false rfl) rfl (Nat.le_of_ble_eq_true rfl) (cl_bitCount hS) ?_
  refine ep_isn (L' := [some (.ref 0), some (.int (nI (unsM T c n su sb))), some (.int (nI (pcn 8 (unsM T c n su sb)))), none, none, none, none, none]) t139_9 rfl (Nat.le_of_ble_eq_true rfl) ?_
  refine ep_iln t139_10 rfl ?_
  refine ep_k1 (w := nI 1) t139_11 rfl ?_
  refine ep_ifP t139_12 (ic_gt (by have := pcn_le (unsM T c n su sb) 8; omega) (by have := pcn_le (unsM T c n su sb) 8; omega)) (fun (c12 : 1 < (pcn 8 (unsM T c n su sb))) => ?_) (fun (c12 : ¬ (1 < (pcn 8 (unsM T c n su sb)))) => ?_)
  · refine ep_k2 (w := (-9)) t139_18 rfl ?_
    refine ep_isn (L' := [some (.ref 0), some (.int (nI (unsM T c n su sb))), some (.int (nI (pcn 8 (unsM T c n su sb)))), some (.int ((-9))), none, none, none, none]) t139_20 rfl (Nat.le_of_ble_eq_true rfl) ?_
    refine ep_iln t139_21 rfl ?_
    refine ep_k1 (w := nI 1) t139_22 rfl ?_
    refine ep_addN (a := pcn 8 (unsM T c n su sb)) (b := 1) t139_23 ?_
    refine ep_is (L' := [some (.ref 0), some (.int (nI (unsM T c n su sb))), some (.int (nI (pcn 8 (unsM T c n su sb)))), some (.int ((-9))), some (.int (nI ((pcn 8 (unsM T c n su sb)) + 1))), none, none, none]) t139_24 rfl (Nat.le_of_ble_eq_true rfl) ?_
    refine ep_k1 (w := nI 0) t139_26 rfl ?_
    refine ep_is (L' := [some (.ref 0), some (.int (nI (unsM T c n su sb))), some (.int (nI (pcn 8 (unsM T c n su sb)))), some (.int ((-9))), some (.int (nI ((pcn 8 (unsM T c n su sb)) + 1))), some (.int (nI 0)), none, none]) t139_27 rfl (Nat.le_of_ble_eq_true rfl) ?_
    refine (L_lk_16 hN h0 h3 hc e4 hS (T 0) 0 _ _ (by omega)).mono (fun v g1 h => ?_)
    rw [if_neg (by omega)]
    exact h
  · refine ep_k2 (w := (-9)) t139_15 rfl ?_
    refine ep_ri t139_17 (fun h => absurd h (by decide)) ?_
    exact ⟨by rw [if_pos (by omega)], rfl⟩

theorem cl_B_look {X : gX} {q : Bool} {σ : gT1} {T : Nat → Nat} {c n : Nat} {su sb : Nat → Nat} (hN : NetC σ (np q) T) (h0 : T 0 ≤ 6) (h3 : T 3 ≤ 8) (hc : c < 2 ^ T 3) (e4 : σ 0 4 = nI c) (hn : n ≤ 6) (e14 : σ 0 14 = nI n) (hs : ∀ j, j < n → (su j < T 0 ∧ sb j < 2) ∧ σ 29 j = nI (2 * su j + sb j)) : Cl X 139 [.ref 0] (47, g_rho q, σ) (some (.int (if pcn 8 (unsM T c n su sb) ≤ 1 then -9 else (lkS (fun u => max (litn T c (unsM T c n su sb) u (T 3)) (pcn 8 (unsM T c n su sb) - litn T c (unsM T c n su sb) u (T 3))) (pcn 8 (unsM T c n su sb) + 1) (T 0)).2))) (47, g_rho q, σ) := by
  cases q
  · exact cl_B_look_7 hN h0 h3 hc e4 hn e14 hs
  · exact cl_B_look_16 hN h0 h3 hc e4 hn e14 hs
theorem L_ml2 {X : gX} {u : Nat} {P : Option Value → gS → Prop} {q : Bool} {σ : gT1} {T : Nat → Nat} {c S : Nat} (hT : ToldM (σ 33) T) (hw : WF0 T) (h31 : T 1 < 2147483648) (hc : c < 2 ^ T 3) (e36 : σ 36 0 = nI c) (hS : S < 256) (hu : u < T 0) (K : ∀ σ' : gT1, (∀ p, p ≠ 43 → σ' p = σ p) → EvP X 141 110 [some (.ref 31), some (.int (nI S)), some (.int (nI (pcn 8 S))), some (.int ((lkS (fun u => max (litn T c S u (T 3)) (pcn 8 S - litn T c S u (T 3))) 99 u).2)), some (.int (nI ((lkS (fun u => max (litn T c S u (T 3)) (pcn 8 S - litn T c S u (T 3))) 99 u).1))), some (.int (nI u)), some (.int (nI (litn T c S u (T 3)))), some (.int (nI (T 3)))] [] (47, g_rho q, σ') P) : ∀ (d k : Nat) (σ' : gT1), k + d = T 3 → (∀ p, p ≠ 43 → σ' p = σ p) → EvP X 141 47 [some (.ref 31), some (.int (nI S)), some (.int (nI (pcn 8 S))), some (.int ((lkS (fun u => max (litn T c S u (T 3)) (pcn 8 S - litn T c S u (T 3))) 99 u).2)), some (.int (nI ((lkS (fun u => max (litn T c S u (T 3)) (pcn 8 S - litn T c S u (T 3))) 99 u).1))), some (.int (nI u)), some (.int (nI (litn T c S u k))), some (.int (nI k))] [] (47, g_rho q, σ') P
  | 0, k, σ', hk, h1 => by
    obtain rfl : k = T 3 := by omega
    refine ep_il t141_47 rfl ?_
    refine ep_aln t141_49 rfl ?_
    refine ep_getr (q := 33) t141_50 rfl (Nat.le_of_ble_eq_true rfl) rfl (rfl) ?_
    refine ep_k1 (w := nI 3) t141_53 rfl ?_
    refine ep_aldN t141_54 rfl (Nat.le_of_ble_eq_true rfl) (Nat.ne_of_beq_eq_false rfl) (Nat.le_of_ble_eq_true rfl) (by have := hw.2.1; omega) ?_
    refine ep_val (b := nI (T 3)) ((congrFun (h1 33 (by decide)) 3).trans (hT.1 3 (by decide))) ?_
    refine ep_ifP t141_55 (ic_ge (by have := hw.2.1; omega) (by have := hw.2.1; omega)) (fun (c55 : (T 3) ≤ (T 3)) => ?_) (fun (c55 : ¬ ((T 3) ≤ (T 3))) => (by exact absurd (Nat.le_refl _) c55))
    exact K σ' h1
  | d + 1, k, σ', hk, h1 => by
    have hk3 : k < T 3 := by omega
    refine ep_il t141_47 rfl ?_
    refine ep_aln t141_49 rfl ?_
    refine ep_getr (q := 33) t141_50 rfl (Nat.le_of_ble_eq_true rfl) rfl (rfl) ?_
    refine ep_k1 (w := nI 3) t141_53 rfl ?_
    refine ep_aldN t141_54 rfl (Nat.le_of_ble_eq_true rfl) (Nat.ne_of_beq_eq_false rfl) (Nat.le_of_ble_eq_true rfl) (by have := live_lt hw.1 (c ^^^ 2 ^ k); have := hw.2.1; have := hw.1; omega) ?_
    refine ep_val (b := nI (T 3)) ((congrFun (h1 33 (by decide)) 3).trans (hT.1 3 (by decide))) ?_
    refine ep_ifP t141_55 (ic_ge (by have := live_lt hw.1 (c ^^^ 2 ^ k); have := hw.2.1; have := hw.1; omega) (by have := live_lt hw.1 (c ^^^ 2 ^ k); have := hw.2.1; have := hw.1; omega)) (fun (c55 : (T 3) ≤ k) => (by omega)) (fun (c55 : ¬ ((T 3) ≤ k)) => ?_)
    refine ep_il t141_58 rfl ?_
    refine ep_iln t141_60 rfl ?_
    refine ep_il t141_61 rfl ?_
    refine ep_cs t141_63 (Nat.ne_of_beq_eq_false rfl) rfl (Nat.le_of_ble_eq_true rfl) (cl_M_has (by have := live_lt hw.1 (c ^^^ 2 ^ k); have := hw.2.1; have := hw.1; omega) (by have := live_lt hw.1 (c ^^^ 2 ^ k); have := hw.2.1; have := hw.1; omega)) ?_
    refine ep_bF t141_66 (fun (c66 : (Nat.testBit S k) = false) => ?_) (fun (c66 : (Nat.testBit S k) = true) => ?_)
    · refine ep_k1 (w := nI 0) t141_100 rfl ?_
      refine ep_addN (a := litn T c S u k) (b := 0) t141_101 ?_
      refine ep_is (L' := [some (.ref 31), some (.int (nI S)), some (.int (nI (pcn 8 S))), some (.int ((lkS (fun u => max (litn T c S u (T 3)) (pcn 8 S - litn T c S u (T 3))) 99 u).2)), some (.int (nI ((lkS (fun u => max (litn T c S u (T 3)) (pcn 8 S - litn T c S u (T 3))) 99 u).1))), some (.int (nI u)), some (.int (nI ((litn T c S u k) + 0))), some (.int (nI k))]) t141_102 rfl (Nat.le_of_ble_eq_true rfl) ?_
      refine ep_inc (b := nI (k + 1)) (L' := [some (.ref 31), some (.int (nI S)), some (.int (nI (pcn 8 S))), some (.int ((lkS (fun u => max (litn T c S u (T 3)) (pcn 8 S - litn T c S u (T 3))) 99 u).2)), some (.int (nI ((lkS (fun u => max (litn T c S u (T 3)) (pcn 8 S - litn T c S u (T 3))) 99 u).1))), some (.int (nI u)), some (.int (nI ((litn T c S u k) + 0))), some (.int (nI (k + 1)))]) t141_104 rfl (nI_add k 1) rfl (Nat.le_of_ble_eq_true rfl) ?_
      refine ep_gt t141_107 ?_
      have e : litn T c S u k + 0 = litn T c S u (k + 1) := by
        show _ = litn T c S u k + (S.testBit k && (liveM T (c ^^^ 2 ^ k)).testBit u).toNat
        simp only [c66]
        rfl
      rw [e]
      exact L_ml2 hT hw h31 hc e36 hS hu K d (k + 1) _ (by omega) h1
    · refine ep_aln t141_69 rfl ?_
      refine ep_aln t141_70 rfl ?_
      refine ep_getr (q := 33) t141_71 rfl (Nat.le_of_ble_eq_true rfl) rfl (rfl) ?_
      refine ep_aln t141_74 rfl ?_
      refine ep_getr (q := 36) t141_75 rfl (Nat.le_of_ble_eq_true rfl) rfl (rfl) ?_
      refine ep_k1 (w := nI 0) t141_78 rfl ?_
      refine ep_aldN t141_79 rfl (Nat.le_of_ble_eq_true rfl) (Nat.ne_of_beq_eq_false rfl) (Nat.le_of_ble_eq_true rfl) (by have := live_lt hw.1 (c ^^^ 2 ^ k); have := hw.2.1; have := hw.1; omega) ?_
      refine ep_val (b := nI c) ((congrFun (h1 36 (by decide)) 0).trans e36) ?_
      refine ep_k1 (w := nI 1) t141_80 rfl ?_
      refine ep_il t141_81 rfl ?_
      refine ep_oneN (b := k) t141_83 (by have := live_lt hw.1 (c ^^^ 2 ^ k); have := hw.2.1; have := hw.1; omega) ?_
      refine ep_xorN (a := c) (b := 2 ^ k) t141_84 ?_
      obtain ⟨v9, g9, hb9, σ2, lab, rfl, rfl, m1, -, -⟩ := cl_M_liveBy_33 (X := X) (q := q) (σ := σ') (T := T) (c := c ^^^ 2 ^ k) (by rw [h1 33 (by decide)]; exact hT) hw h31 (by have := xor_lt hc hk3; have := pow_le_256 hw.2.1; omega)
      refine ep_cv t141_85 rfl rfl (Nat.le_of_ble_eq_true rfl) (Nat.le_of_ble_eq_true rfl) (hb9) ?_
      refine ep_il t141_88 rfl ?_
      refine ep_cs t141_90 (Nat.ne_of_beq_eq_false rfl) rfl (Nat.le_of_ble_eq_true rfl) (cl_M_has (by have := live_lt hw.1 (c ^^^ 2 ^ k); have := hw.2.1; have := hw.1; omega) (by have := live_lt hw.1 (c ^^^ 2 ^ k); have := hw.2.1; have := hw.1; omega)) ?_
      refine ep_bF t141_93 (fun (c93 : (Nat.testBit (liveM T (c ^^^ 2 ^ k)) u) = false) => ?_) (fun (c93 : (Nat.testBit (liveM T (c ^^^ 2 ^ k)) u) = true) => ?_)
      · refine ep_k1 (w := nI 0) t141_100 rfl ?_
        refine ep_addN (a := litn T c S u k) (b := 0) t141_101 ?_
        refine ep_is (L' := [some (.ref 31), some (.int (nI S)), some (.int (nI (pcn 8 S))), some (.int ((lkS (fun u => max (litn T c S u (T 3)) (pcn 8 S - litn T c S u (T 3))) 99 u).2)), some (.int (nI ((lkS (fun u => max (litn T c S u (T 3)) (pcn 8 S - litn T c S u (T 3))) 99 u).1))), some (.int (nI u)), some (.int (nI ((litn T c S u k) + 0))), some (.int (nI k))]) t141_102 rfl (Nat.le_of_ble_eq_true rfl) ?_
        refine ep_inc (b := nI (k + 1)) (L' := [some (.ref 31), some (.int (nI S)), some (.int (nI (pcn 8 S))), some (.int ((lkS (fun u => max (litn T c S u (T 3)) (pcn 8 S - litn T c S u (T 3))) 99 u).2)), some (.int (nI ((lkS (fun u => max (litn T c S u (T 3)) (pcn 8 S - litn T c S u (T 3))) 99 u).1))), some (.int (nI u)), some (.int (nI ((litn T c S u k) + 0))), some (.int (nI (k + 1)))]) t141_104 rfl (nI_add k 1) rfl (Nat.le_of_ble_eq_true rfl) ?_
        refine ep_gt t141_107 ?_
        have e : litn T c S u k + 0 = litn T c S u (k + 1) := by
          show _ = litn T c S u k + (S.testBit k && (liveM T (c ^^^ 2 ^ k)).testBit u).toNat
          simp only [c66, c93]
          rfl
        rw [e]
        exact L_ml2 hT hw h31 hc e36 hS hu K d (k + 1) _ (by omega) (fun p hp => (m1 p hp).trans (h1 p hp))
      · refine ep_k1 (w := nI 1) t141_96 rfl ?_
        refine ep_gt t141_97 ?_
        refine ep_addN (a := litn T c S u k) (b := 1) t141_101 ?_
        refine ep_is (L' := [some (.ref 31), some (.int (nI S)), some (.int (nI (pcn 8 S))), some (.int ((lkS (fun u => max (litn T c S u (T 3)) (pcn 8 S - litn T c S u (T 3))) 99 u).2)), some (.int (nI ((lkS (fun u => max (litn T c S u (T 3)) (pcn 8 S - litn T c S u (T 3))) 99 u).1))), some (.int (nI u)), some (.int (nI ((litn T c S u k) + 1))), some (.int (nI k))]) t141_102 rfl (Nat.le_of_ble_eq_true rfl) ?_
        refine ep_inc (b := nI (k + 1)) (L' := [some (.ref 31), some (.int (nI S)), some (.int (nI (pcn 8 S))), some (.int ((lkS (fun u => max (litn T c S u (T 3)) (pcn 8 S - litn T c S u (T 3))) 99 u).2)), some (.int (nI ((lkS (fun u => max (litn T c S u (T 3)) (pcn 8 S - litn T c S u (T 3))) 99 u).1))), some (.int (nI u)), some (.int (nI ((litn T c S u k) + 1))), some (.int (nI (k + 1)))]) t141_104 rfl (nI_add k 1) rfl (Nat.le_of_ble_eq_true rfl) ?_
        refine ep_gt t141_107 ?_
        have e : litn T c S u k + 1 = litn T c S u (k + 1) := by
          show _ = litn T c S u k + (S.testBit k && (liveM T (c ^^^ 2 ^ k)).testBit u).toNat
          simp only [c66, c93]
          rfl
        rw [e]
        exact L_ml2 hT hw h31 hc e36 hS hu K d (k + 1) _ (by omega) (fun p hp => (m1 p hp).trans (h1 p hp))
theorem L_ml1 {X : gX} {P : Option Value → gS → Prop} {q : Bool} {σ : gT1} {T : Nat → Nat} {c S : Nat} (hT : ToldM (σ 33) T) (hw : WF0 T) (h31 : T 1 < 2147483648) (hc : c < 2 ^ T 3) (e36 : σ 36 0 = nI c) (hS : S < 256) (hn1 : 1 < pcn 8 S) (K : ∀ σ' : gT1, (∀ p, p ≠ 43 → σ' p = σ p) → P (some (.int (lkS (fun u => max (litn T c S u (T 3)) (pcn 8 S - litn T c S u (T 3))) 99 (T 0)).2)) (47, g_rho q, σ')) : ∀ (d u : Nat) (o6 o7 : Option Value) (σ' : gT1), u + d = T 0 → (∀ p, p ≠ 43 → σ' p = σ p) → EvP X 141 25 [some (.ref 31), some (.int (nI S)), some (.int (nI (pcn 8 S))), some (.int ((lkS (fun u => max (litn T c S u (T 3)) (pcn 8 S - litn T c S u (T 3))) 99 u).2)), some (.int (nI ((lkS (fun u => max (litn T c S u (T 3)) (pcn 8 S - litn T c S u (T 3))) 99 u).1))), some (.int (nI u)), o6, o7] [] (47, g_rho q, σ') P
  | 0, u, o6, o7, σ', hk, h1 => by
    obtain rfl : u = T 0 := by omega
    refine ep_il t141_25 rfl ?_
    refine ep_aln t141_27 rfl ?_
    refine ep_getr (q := 33) t141_28 rfl (Nat.le_of_ble_eq_true rfl) rfl (rfl) ?_
    refine ep_k1 (w := nI 0) t141_31 rfl ?_
    refine ep_aldN t141_32 rfl (Nat.le_of_ble_eq_true rfl) (Nat.ne_of_beq_eq_false rfl) (Nat.le_of_ble_eq_true rfl) (by have := hw.1; omega) ?_
    refine ep_val (b := nI (T 0)) ((congrFun (h1 33 (by decide)) 0).trans (hT.1 0 (by decide))) ?_
    refine ep_ifP t141_33 (ic_ge (by have := hw.1; omega) (by have := hw.1; omega)) (fun (c33 : (T 0) ≤ (T 0)) => ?_) (fun (c33 : ¬ ((T 0) ≤ (T 0))) => (by exact absurd (Nat.le_refl _) c33))
    refine ep_iln t141_166 rfl ?_
    refine ep_ri t141_167 (fun h => absurd h (by decide)) ?_
    exact K σ' h1
  | d + 1, u, o6, o7, σ', hk, h1 => by
    have hu : u < T 0 := by omega
    refine ep_il t141_25 rfl ?_
    refine ep_aln t141_27 rfl ?_
    refine ep_getr (q := 33) t141_28 rfl (Nat.le_of_ble_eq_true rfl) rfl (rfl) ?_
    refine ep_k1 (w := nI 0) t141_31 rfl ?_
    refine ep_aldN t141_32 rfl (Nat.le_of_ble_eq_true rfl) (Nat.ne_of_beq_eq_false rfl) (Nat.le_of_ble_eq_true rfl) (by have := litn_le T c S u (T 3); have := pcn_mono S 8 hw.2.1; have := pcn_le S 8; have := lkS_le (g := (fun u => max (litn T c S u (T 3)) (pcn 8 S - litn T c S u (T 3)))) (s0 := 99) u; have := hw.1; omega) ?_
    refine ep_val (b := nI (T 0)) ((congrFun (h1 33 (by decide)) 0).trans (hT.1 0 (by decide))) ?_
    refine ep_ifP t141_33 (ic_ge (by have := litn_le T c S u (T 3); have := pcn_mono S 8 hw.2.1; have := pcn_le S 8; have := lkS_le (g := (fun u => max (litn T c S u (T 3)) (pcn 8 S - litn T c S u (T 3)))) (s0 := 99) u; have := hw.1; omega) (by have := litn_le T c S u (T 3); have := pcn_mono S 8 hw.2.1; have := pcn_le S 8; have := lkS_le (g := (fun u => max (litn T c S u (T 3)) (pcn 8 S - litn T c S u (T 3)))) (s0 := 99) u; have := hw.1; omega)) (fun (c33 : (T 0) ≤ u) => (by omega)) (fun (c33 : ¬ ((T 0) ≤ u)) => ?_)
    refine ep_iln t141_36 rfl ?_
    refine ep_k1 (w := nI 1) t141_37 rfl ?_
    refine ep_ifP t141_38 (ic_le (by have := litn_le T c S u (T 3); have := pcn_mono S 8 hw.2.1; have := pcn_le S 8; have := lkS_le (g := (fun u => max (litn T c S u (T 3)) (pcn 8 S - litn T c S u (T 3)))) (s0 := 99) u; have := hw.1; omega) (by have := litn_le T c S u (T 3); have := pcn_mono S 8 hw.2.1; have := pcn_le S 8; have := lkS_le (g := (fun u => max (litn T c S u (T 3)) (pcn 8 S - litn T c S u (T 3)))) (s0 := 99) u; have := hw.1; omega)) (fun (c38 : (pcn 8 S) ≤ 1) => (by omega)) (fun (c38 : ¬ ((pcn 8 S) ≤ 1)) => ?_)
    refine ep_k1 (w := nI 0) t141_41 rfl ?_
    refine ep_is (L' := [some (.ref 31), some (.int (nI S)), some (.int (nI (pcn 8 S))), some (.int ((lkS (fun u => max (litn T c S u (T 3)) (pcn 8 S - litn T c S u (T 3))) 99 u).2)), some (.int (nI ((lkS (fun u => max (litn T c S u (T 3)) (pcn 8 S - litn T c S u (T 3))) 99 u).1))), some (.int (nI u)), some (.int (nI 0)), o7]) t141_42 rfl (Nat.le_of_ble_eq_true rfl) ?_
    refine ep_k1 (w := nI 0) t141_44 rfl ?_
    refine ep_is (L' := [some (.ref 31), some (.int (nI S)), some (.int (nI (pcn 8 S))), some (.int ((lkS (fun u => max (litn T c S u (T 3)) (pcn 8 S - litn T c S u (T 3))) 99 u).2)), some (.int (nI ((lkS (fun u => max (litn T c S u (T 3)) (pcn 8 S - litn T c S u (T 3))) 99 u).1))), some (.int (nI u)), some (.int (nI 0)), some (.int (nI 0))]) t141_45 rfl (Nat.le_of_ble_eq_true rfl) ?_
    refine L_ml2 hT hw h31 hc e36 hS hu (fun σ3 h3 => ?_) (T 3) 0 _ (by omega) h1
    refine ep_il t141_110 rfl ?_
    refine ep_iln t141_112 rfl ?_
    refine ep_il t141_113 rfl ?_
    refine ep_subN (a := pcn 8 S) (b := litn T c S u (T 3)) t141_115 (by have := litn_le T c S u (T 3); have := pcn_mono S 8 hw.2.1; have := pcn_le S 8; have := lkS_le (g := (fun u => max (litn T c S u (T 3)) (pcn 8 S - litn T c S u (T 3)))) (s0 := 99) u; have := hw.1; omega) ?_
    refine ep_ifP t141_116 (ic_le (by have := litn_le T c S u (T 3); have := pcn_mono S 8 hw.2.1; have := pcn_le S 8; have := lkS_le (g := (fun u => max (litn T c S u (T 3)) (pcn 8 S - litn T c S u (T 3)))) (s0 := 99) u; have := hw.1; omega) (by have := litn_le T c S u (T 3); have := pcn_mono S 8 hw.2.1; have := pcn_le S 8; have := lkS_le (g := (fun u => max (litn T c S u (T 3)) (pcn 8 S - litn T c S u (T 3)))) (s0 := 99) u; have := hw.1; omega)) (fun (c116 : (litn T c S u (T 3)) ≤ ((pcn 8 S) - (litn T c S u (T 3)))) => ?_) (fun (c116 : ¬ ((litn T c S u (T 3)) ≤ ((pcn 8 S) - (litn T c S u (T 3))))) => ?_)
    · refine ep_iln t141_124 rfl ?_
      refine ep_il t141_125 rfl ?_
      refine ep_subN (a := pcn 8 S) (b := litn T c S u (T 3)) t141_127 (by have := litn_le T c S u (T 3); have := pcn_mono S 8 hw.2.1; have := pcn_le S 8; have := lkS_le (g := (fun u => max (litn T c S u (T 3)) (pcn 8 S - litn T c S u (T 3)))) (s0 := 99) u; have := hw.1; omega) ?_
      refine ep_is (L' := [some (.ref 31), some (.int (nI S)), some (.int (nI (pcn 8 S))), some (.int ((lkS (fun u => max (litn T c S u (T 3)) (pcn 8 S - litn T c S u (T 3))) 99 u).2)), some (.int (nI ((lkS (fun u => max (litn T c S u (T 3)) (pcn 8 S - litn T c S u (T 3))) 99 u).1))), some (.int (nI u)), some (.int (nI (litn T c S u (T 3)))), some (.int (nI ((pcn 8 S) - (litn T c S u (T 3)))))]) t141_128 rfl (Nat.le_of_ble_eq_true rfl) ?_
      refine ep_il t141_130 rfl ?_
      refine ep_il t141_132 rfl ?_
      refine ep_ifP t141_134 (ic_ge (by have := litn_le T c S u (T 3); have := pcn_mono S 8 hw.2.1; have := pcn_le S 8; have := lkS_le (g := (fun u => max (litn T c S u (T 3)) (pcn 8 S - litn T c S u (T 3)))) (s0 := 99) u; have := hw.1; omega) (by have := litn_le T c S u (T 3); have := pcn_mono S 8 hw.2.1; have := pcn_le S 8; have := lkS_le (g := (fun u => max (litn T c S u (T 3)) (pcn 8 S - litn T c S u (T 3)))) (s0 := 99) u; have := hw.1; omega)) (fun (c134 : ((lkS (fun u => max (litn T c S u (T 3)) (pcn 8 S - litn T c S u (T 3))) 99 u).1) ≤ ((pcn 8 S) - (litn T c S u (T 3)))) => ?_) (fun (c134 : ¬ (((lkS (fun u => max (litn T c S u (T 3)) (pcn 8 S - litn T c S u (T 3))) 99 u).1) ≤ ((pcn 8 S) - (litn T c S u (T 3))))) => ?_)
      · refine ep_iln t141_142 rfl ?_
        refine ep_isn (L' := [some (.ref 31), some (.int (nI S)), some (.int (nI (pcn 8 S))), some (.int ((lkS (fun u => max (litn T c S u (T 3)) (pcn 8 S - litn T c S u (T 3))) 99 u).2)), some (.int (nI ((lkS (fun u => max (litn T c S u (T 3)) (pcn 8 S - litn T c S u (T 3))) 99 u).1))), some (.int (nI u)), some (.int (nI (litn T c S u (T 3)))), some (.int (nI ((pcn 8 S) - (litn T c S u (T 3)))))]) t141_143 rfl (Nat.le_of_ble_eq_true rfl) ?_
        refine ep_il t141_144 rfl ?_
        refine ep_il t141_146 rfl ?_
        refine ep_ifP t141_148 (ic_ge (by have := litn_le T c S u (T 3); have := pcn_mono S 8 hw.2.1; have := pcn_le S 8; have := lkS_le (g := (fun u => max (litn T c S u (T 3)) (pcn 8 S - litn T c S u (T 3)))) (s0 := 99) u; have := hw.1; omega) (by have := litn_le T c S u (T 3); have := pcn_mono S 8 hw.2.1; have := pcn_le S 8; have := lkS_le (g := (fun u => max (litn T c S u (T 3)) (pcn 8 S - litn T c S u (T 3)))) (s0 := 99) u; have := hw.1; omega)) (fun (c148 : ((lkS (fun u => max (litn T c S u (T 3)) (pcn 8 S - litn T c S u (T 3))) 99 u).1) ≤ ((pcn 8 S) - (litn T c S u (T 3)))) => ?_) (fun (c148 : ¬ (((lkS (fun u => max (litn T c S u (T 3)) (pcn 8 S - litn T c S u (T 3))) 99 u).1) ≤ ((pcn 8 S) - (litn T c S u (T 3))))) => (by omega))
        refine ep_il t141_156 rfl ?_
        refine ep_is (L' := [some (.ref 31), some (.int (nI S)), some (.int (nI (pcn 8 S))), some (.int ((lkS (fun u => max (litn T c S u (T 3)) (pcn 8 S - litn T c S u (T 3))) 99 u).2)), some (.int (nI ((lkS (fun u => max (litn T c S u (T 3)) (pcn 8 S - litn T c S u (T 3))) 99 u).1))), some (.int (nI u)), some (.int (nI (litn T c S u (T 3)))), some (.int (nI ((pcn 8 S) - (litn T c S u (T 3)))))]) t141_158 rfl (Nat.le_of_ble_eq_true rfl) ?_
        refine ep_inc (b := nI (u + 1)) (L' := [some (.ref 31), some (.int (nI S)), some (.int (nI (pcn 8 S))), some (.int ((lkS (fun u => max (litn T c S u (T 3)) (pcn 8 S - litn T c S u (T 3))) 99 u).2)), some (.int (nI ((lkS (fun u => max (litn T c S u (T 3)) (pcn 8 S - litn T c S u (T 3))) 99 u).1))), some (.int (nI (u + 1))), some (.int (nI (litn T c S u (T 3)))), some (.int (nI ((pcn 8 S) - (litn T c S u (T 3)))))]) t141_160 rfl (nI_add u 1) rfl (Nat.le_of_ble_eq_true rfl) ?_
        refine ep_gt t141_163 ?_
        have hmx : max (litn T c S u (T 3)) (pcn 8 S - litn T c S u (T 3)) = (pcn 8 S) - (litn T c S u (T 3)) := by omega
        have e := lkS_no (g := (fun u => max (litn T c S u (T 3)) (pcn 8 S - litn T c S u (T 3)))) (s0 := 99) (u := u) (by show ¬ max (litn T c S u (T 3)) (pcn 8 S - litn T c S u (T 3)) < _; rw [hmx]; omega)
        have e1 := congrArg Prod.fst e
        have e2 := congrArg Prod.snd e
        rw [← e1, ← e2]
        exact L_ml1 hT hw h31 hc e36 hS hn1 K d (u + 1) _ _ _ (by omega) h3
      · refine ep_il t141_137 rfl ?_
        refine ep_gt t141_139 ?_
        refine ep_isn (L' := [some (.ref 31), some (.int (nI S)), some (.int (nI (pcn 8 S))), some (.int (nI u)), some (.int (nI ((lkS (fun u => max (litn T c S u (T 3)) (pcn 8 S - litn T c S u (T 3))) 99 u).1))), some (.int (nI u)), some (.int (nI (litn T c S u (T 3)))), some (.int (nI ((pcn 8 S) - (litn T c S u (T 3)))))]) t141_143 rfl (Nat.le_of_ble_eq_true rfl) ?_
        refine ep_il t141_144 rfl ?_
        refine ep_il t141_146 rfl ?_
        refine ep_ifP t141_148 (ic_ge (by have := litn_le T c S u (T 3); have := pcn_mono S 8 hw.2.1; have := pcn_le S 8; have := lkS_le (g := (fun u => max (litn T c S u (T 3)) (pcn 8 S - litn T c S u (T 3)))) (s0 := 99) u; have := hw.1; omega) (by have := litn_le T c S u (T 3); have := pcn_mono S 8 hw.2.1; have := pcn_le S 8; have := lkS_le (g := (fun u => max (litn T c S u (T 3)) (pcn 8 S - litn T c S u (T 3)))) (s0 := 99) u; have := hw.1; omega)) (fun (c148 : ((lkS (fun u => max (litn T c S u (T 3)) (pcn 8 S - litn T c S u (T 3))) 99 u).1) ≤ ((pcn 8 S) - (litn T c S u (T 3)))) => (by omega)) (fun (c148 : ¬ (((lkS (fun u => max (litn T c S u (T 3)) (pcn 8 S - litn T c S u (T 3))) 99 u).1) ≤ ((pcn 8 S) - (litn T c S u (T 3))))) => ?_)
        refine ep_il t141_151 rfl ?_
        refine ep_gt t141_153 ?_
        refine ep_is (L' := [some (.ref 31), some (.int (nI S)), some (.int (nI (pcn 8 S))), some (.int (nI u)), some (.int (nI ((pcn 8 S) - (litn T c S u (T 3))))), some (.int (nI u)), some (.int (nI (litn T c S u (T 3)))), some (.int (nI ((pcn 8 S) - (litn T c S u (T 3)))))]) t141_158 rfl (Nat.le_of_ble_eq_true rfl) ?_
        refine ep_inc (b := nI (u + 1)) (L' := [some (.ref 31), some (.int (nI S)), some (.int (nI (pcn 8 S))), some (.int (nI u)), some (.int (nI ((pcn 8 S) - (litn T c S u (T 3))))), some (.int (nI (u + 1))), some (.int (nI (litn T c S u (T 3)))), some (.int (nI ((pcn 8 S) - (litn T c S u (T 3)))))]) t141_160 rfl (nI_add u 1) rfl (Nat.le_of_ble_eq_true rfl) ?_
        refine ep_gt t141_163 ?_
        have hmx : max (litn T c S u (T 3)) (pcn 8 S - litn T c S u (T 3)) = (pcn 8 S) - (litn T c S u (T 3)) := by omega
        have e := lkS_yes (g := (fun u => max (litn T c S u (T 3)) (pcn 8 S - litn T c S u (T 3)))) (s0 := 99) (u := u) (by show max (litn T c S u (T 3)) (pcn 8 S - litn T c S u (T 3)) < _; rw [hmx]; omega)
        have e1 := congrArg Prod.fst e
        have e2 := congrArg Prod.snd e
        dsimp only at e1 e2
        rw [hmx] at e1
        rw [← e1, ← e2]
        exact L_ml1 hT hw h31 hc e36 hS hn1 K d (u + 1) _ _ _ (by omega) h3
    · refine ep_il t141_119 rfl ?_
      refine ep_gt t141_121 ?_
      refine ep_is (L' := [some (.ref 31), some (.int (nI S)), some (.int (nI (pcn 8 S))), some (.int ((lkS (fun u => max (litn T c S u (T 3)) (pcn 8 S - litn T c S u (T 3))) 99 u).2)), some (.int (nI ((lkS (fun u => max (litn T c S u (T 3)) (pcn 8 S - litn T c S u (T 3))) 99 u).1))), some (.int (nI u)), some (.int (nI (litn T c S u (T 3)))), some (.int (nI (litn T c S u (T 3))))]) t141_128 rfl (Nat.le_of_ble_eq_true rfl) ?_
      refine ep_il t141_130 rfl ?_
      refine ep_il t141_132 rfl ?_
      refine ep_ifP t141_134 (ic_ge (by have := litn_le T c S u (T 3); have := pcn_mono S 8 hw.2.1; have := pcn_le S 8; have := lkS_le (g := (fun u => max (litn T c S u (T 3)) (pcn 8 S - litn T c S u (T 3)))) (s0 := 99) u; have := hw.1; omega) (by have := litn_le T c S u (T 3); have := pcn_mono S 8 hw.2.1; have := pcn_le S 8; have := lkS_le (g := (fun u => max (litn T c S u (T 3)) (pcn 8 S - litn T c S u (T 3)))) (s0 := 99) u; have := hw.1; omega)) (fun (c134 : ((lkS (fun u => max (litn T c S u (T 3)) (pcn 8 S - litn T c S u (T 3))) 99 u).1) ≤ (litn T c S u (T 3))) => ?_) (fun (c134 : ¬ (((lkS (fun u => max (litn T c S u (T 3)) (pcn 8 S - litn T c S u (T 3))) 99 u).1) ≤ (litn T c S u (T 3)))) => ?_)
      · refine ep_iln t141_142 rfl ?_
        refine ep_isn (L' := [some (.ref 31), some (.int (nI S)), some (.int (nI (pcn 8 S))), some (.int ((lkS (fun u => max (litn T c S u (T 3)) (pcn 8 S - litn T c S u (T 3))) 99 u).2)), some (.int (nI ((lkS (fun u => max (litn T c S u (T 3)) (pcn 8 S - litn T c S u (T 3))) 99 u).1))), some (.int (nI u)), some (.int (nI (litn T c S u (T 3)))), some (.int (nI (litn T c S u (T 3))))]) t141_143 rfl (Nat.le_of_ble_eq_true rfl) ?_
        refine ep_il t141_144 rfl ?_
        refine ep_il t141_146 rfl ?_
        refine ep_ifP t141_148 (ic_ge (by have := litn_le T c S u (T 3); have := pcn_mono S 8 hw.2.1; have := pcn_le S 8; have := lkS_le (g := (fun u => max (litn T c S u (T 3)) (pcn 8 S - litn T c S u (T 3)))) (s0 := 99) u; have := hw.1; omega) (by have := litn_le T c S u (T 3); have := pcn_mono S 8 hw.2.1; have := pcn_le S 8; have := lkS_le (g := (fun u => max (litn T c S u (T 3)) (pcn 8 S - litn T c S u (T 3)))) (s0 := 99) u; have := hw.1; omega)) (fun (c148 : ((lkS (fun u => max (litn T c S u (T 3)) (pcn 8 S - litn T c S u (T 3))) 99 u).1) ≤ (litn T c S u (T 3))) => ?_) (fun (c148 : ¬ (((lkS (fun u => max (litn T c S u (T 3)) (pcn 8 S - litn T c S u (T 3))) 99 u).1) ≤ (litn T c S u (T 3)))) => (by omega))
        refine ep_il t141_156 rfl ?_
        refine ep_is (L' := [some (.ref 31), some (.int (nI S)), some (.int (nI (pcn 8 S))), some (.int ((lkS (fun u => max (litn T c S u (T 3)) (pcn 8 S - litn T c S u (T 3))) 99 u).2)), some (.int (nI ((lkS (fun u => max (litn T c S u (T 3)) (pcn 8 S - litn T c S u (T 3))) 99 u).1))), some (.int (nI u)), some (.int (nI (litn T c S u (T 3)))), some (.int (nI (litn T c S u (T 3))))]) t141_158 rfl (Nat.le_of_ble_eq_true rfl) ?_
        refine ep_inc (b := nI (u + 1)) (L' := [some (.ref 31), some (.int (nI S)), some (.int (nI (pcn 8 S))), some (.int ((lkS (fun u => max (litn T c S u (T 3)) (pcn 8 S - litn T c S u (T 3))) 99 u).2)), some (.int (nI ((lkS (fun u => max (litn T c S u (T 3)) (pcn 8 S - litn T c S u (T 3))) 99 u).1))), some (.int (nI (u + 1))), some (.int (nI (litn T c S u (T 3)))), some (.int (nI (litn T c S u (T 3))))]) t141_160 rfl (nI_add u 1) rfl (Nat.le_of_ble_eq_true rfl) ?_
        refine ep_gt t141_163 ?_
        have hmx : max (litn T c S u (T 3)) (pcn 8 S - litn T c S u (T 3)) = litn T c S u (T 3) := by omega
        have e := lkS_no (g := (fun u => max (litn T c S u (T 3)) (pcn 8 S - litn T c S u (T 3)))) (s0 := 99) (u := u) (by show ¬ max (litn T c S u (T 3)) (pcn 8 S - litn T c S u (T 3)) < _; rw [hmx]; omega)
        have e1 := congrArg Prod.fst e
        have e2 := congrArg Prod.snd e
        rw [← e1, ← e2]
        exact L_ml1 hT hw h31 hc e36 hS hn1 K d (u + 1) _ _ _ (by omega) h3
      · refine ep_il t141_137 rfl ?_
        refine ep_gt t141_139 ?_
        refine ep_isn (L' := [some (.ref 31), some (.int (nI S)), some (.int (nI (pcn 8 S))), some (.int (nI u)), some (.int (nI ((lkS (fun u => max (litn T c S u (T 3)) (pcn 8 S - litn T c S u (T 3))) 99 u).1))), some (.int (nI u)), some (.int (nI (litn T c S u (T 3)))), some (.int (nI (litn T c S u (T 3))))]) t141_143 rfl (Nat.le_of_ble_eq_true rfl) ?_
        refine ep_il t141_144 rfl ?_
        refine ep_il t141_146 rfl ?_
        refine ep_ifP t141_148 (ic_ge (by have := litn_le T c S u (T 3); have := pcn_mono S 8 hw.2.1; have := pcn_le S 8; have := lkS_le (g := (fun u => max (litn T c S u (T 3)) (pcn 8 S - litn T c S u (T 3)))) (s0 := 99) u; have := hw.1; omega) (by have := litn_le T c S u (T 3); have := pcn_mono S 8 hw.2.1; have := pcn_le S 8; have := lkS_le (g := (fun u => max (litn T c S u (T 3)) (pcn 8 S - litn T c S u (T 3)))) (s0 := 99) u; have := hw.1; omega)) (fun (c148 : ((lkS (fun u => max (litn T c S u (T 3)) (pcn 8 S - litn T c S u (T 3))) 99 u).1) ≤ (litn T c S u (T 3))) => (by omega)) (fun (c148 : ¬ (((lkS (fun u => max (litn T c S u (T 3)) (pcn 8 S - litn T c S u (T 3))) 99 u).1) ≤ (litn T c S u (T 3)))) => ?_)
        refine ep_il t141_151 rfl ?_
        refine ep_gt t141_153 ?_
        refine ep_is (L' := [some (.ref 31), some (.int (nI S)), some (.int (nI (pcn 8 S))), some (.int (nI u)), some (.int (nI (litn T c S u (T 3)))), some (.int (nI u)), some (.int (nI (litn T c S u (T 3)))), some (.int (nI (litn T c S u (T 3))))]) t141_158 rfl (Nat.le_of_ble_eq_true rfl) ?_
        refine ep_inc (b := nI (u + 1)) (L' := [some (.ref 31), some (.int (nI S)), some (.int (nI (pcn 8 S))), some (.int (nI u)), some (.int (nI (litn T c S u (T 3)))), some (.int (nI (u + 1))), some (.int (nI (litn T c S u (T 3)))), some (.int (nI (litn T c S u (T 3))))]) t141_160 rfl (nI_add u 1) rfl (Nat.le_of_ble_eq_true rfl) ?_
        refine ep_gt t141_163 ?_
        have hmx : max (litn T c S u (T 3)) (pcn 8 S - litn T c S u (T 3)) = litn T c S u (T 3) := by omega
        have e := lkS_yes (g := (fun u => max (litn T c S u (T 3)) (pcn 8 S - litn T c S u (T 3)))) (s0 := 99) (u := u) (by show max (litn T c S u (T 3)) (pcn 8 S - litn T c S u (T 3)) < _; rw [hmx]; omega)
        have e1 := congrArg Prod.fst e
        have e2 := congrArg Prod.snd e
        dsimp only at e1 e2
        rw [hmx] at e1
        rw [← e1, ← e2]
        exact L_ml1 hT hw h31 hc e36 hS hn1 K d (u + 1) _ _ _ (by omega) h3
theorem pr_look {X : gX} {q : Bool} {σ : gT1} (hR : Rel q σ) : Pair X 139 141 [] q σ := by
  have hR0 := hR
  obtain ⟨T, c, l, pr, hN, hW, hT, hO, hU, hI, hS⟩ := hR
  obtain ⟨⟨hwf0, hwf1⟩, ⟨hwf2, hwf3⟩, hwf4, hwf5, hwf6⟩ := hN.1
  have hB3 : σ (np q) 3 = nI (T 3) := hN.2.1.1 3 (by decide)
  have hB0 : σ (np q) 0 = nI (T 0) := hN.2.1.1 0 (by decide)
  have hM3 : σ 33 3 = nI (T 3) := hN.2.2.1 3 (by decide)
  have hM0 : σ 33 0 = nI (T 0) := hN.2.2.1 0 (by decide)
  obtain ⟨hsn, e4, e5, e25, e36⟩ := id hW
  obtain ⟨hc, hl, hp0, hp1, hp2⟩ := hsn.lt hwf4
  have hw0 := hN.1.w0
  have hx2 := pow_le_256 hwf4
  have hx3 : (2 : Nat) ^ T 0 ≤ 256 := pow_le_256 (by omega)
  have h31 : T 1 < 2147483648 := by omega
  obtain ⟨n, su, sb, hn, e14, e20, hsee⟩ := hS.get
  have hp : np q = 7 ∨ np q = 16 := by cases q <;> decide
  have hSS : unsM T c n su sb < 256 := Nat.lt_of_lt_of_le (mk_lt _ _) (pow_le_256 hwf4)
  refine Pair.one (v := if pcn 8 (unsM T c n su sb) ≤ 1 then -9 else (lkS (fun u => max (litn T c (unsM T c n su sb) u (T 3)) (pcn 8 (unsM T c n su sb) - litn T c (unsM T c n su sb) u (T 3))) (pcn 8 (unsM T c n su sb) + 1) (T 0)).2) hR0 ⟨_, _, cl_B_look hN.2.1 hwf1 hwf4 hsn.1 e4 hn e14 (fun j hj => ⟨(hsee j hj).1, (hsee j hj).2.1⟩), σ, rfl, rfl, fun _ _ _ => rfl⟩ (fun σ1 h1 => ?_)
  have r : ∀ p, (p < 7 ∨ 30 < p) → σ1 p = σ p := fun p hp2 => h1 p (by omega) (by omega)
  have hT1 : ToldM (g_up σ1 31 0 (nI 0) 33) T := by show ToldM (σ1 33) T; rw [r 33 (by decide)]; exact hN.2.2
  obtain ⟨v9, g9, hm9, σ2, rfl, rfl, m1⟩ := cl_M_unseenSet (X := X) (q := q) (σ := g_up σ1 31 0 (nI 0)) (T := T) (c := c) (n := n) (su := su) (sb := sb) hT1 hw0 h31 hsn.1 ((congrFun (r 36 (by decide)) 0).trans (e36 0 (by decide))) hn ((congrFun (r 31 (by decide)) 20).trans e20) (fun j hj => ⟨(hsee j hj).1, (congrFun (r 41 (by decide)) j).trans (hsee j hj).2.2.1, (congrFun (r 42 (by decide)) j).trans (hsee j hj).2.2.2⟩)
  refine ClP.of ⟨Nat.le_of_ble_eq_true rfl, rfl⟩ ?_
  show EvP X 141 0 [some (.ref 31), none, none, none, none, none, none, none] [] (47, g_rho q, σ1) _
  refine ep_aln t141_0 rfl ?_
  refine ep_k1 (w := nI 0) t141_1 rfl ?_
  refine ep_put t141_2 rfl (Nat.le_of_ble_eq_true rfl) rfl ?_
  refine ep_aln t141_5 rfl ?_
  refine ep_cv t141_6 rfl rfl (Nat.le_of_ble_eq_true rfl) (Nat.le_of_ble_eq_true rfl) (hm9) ?_
  refine ep_isn (L' := [some (.ref 31), some (.int (nI (unsM T c n su sb))), none, none, none, none, none, none]) t141_9 rfl (Nat.le_of_ble_eq_true rfl) ?_
  refine ep_iln t141_10 rfl ?_
  refine ep_cs t141_11 (Nat.ne_of_beq_eq_false rfl) rfl (Nat.le_of_ble_eq_true rfl) (cl_M_ones hSS) ?_
  refine ep_isn (L' := [some (.ref 31), some (.int (nI (unsM T c n su sb))), some (.int (nI (pcn 8 (unsM T c n su sb)))), none, none, none, none, none]) t141_14 rfl (Nat.le_of_ble_eq_true rfl) ?_
  refine ep_k2 (w := (-9)) t141_15 rfl ?_
  refine ep_isn (L' := [some (.ref 31), some (.int (nI (unsM T c n su sb))), some (.int (nI (pcn 8 (unsM T c n su sb)))), some (.int ((-9))), none, none, none, none]) t141_17 rfl (Nat.le_of_ble_eq_true rfl) ?_
  refine ep_k2 (w := nI 99) t141_18 rfl ?_
  refine ep_is (L' := [some (.ref 31), some (.int (nI (unsM T c n su sb))), some (.int (nI (pcn 8 (unsM T c n su sb)))), some (.int ((-9))), some (.int (nI 99)), none, none, none]) t141_20 rfl (Nat.le_of_ble_eq_true rfl) ?_
  refine ep_k1 (w := nI 0) t141_22 rfl ?_
  refine ep_is (L' := [some (.ref 31), some (.int (nI (unsM T c n su sb))), some (.int (nI (pcn 8 (unsM T c n su sb)))), some (.int ((-9))), some (.int (nI 99)), some (.int (nI 0)), none, none]) t141_23 rfl (Nat.le_of_ble_eq_true rfl) ?_
  by_cases hle : pcn 8 (unsM T c n su sb) ≤ 1
  · refine ep_il t141_25 rfl ?_
    refine ep_aln t141_27 rfl ?_
    refine ep_getr (q := 33) t141_28 rfl (Nat.le_of_ble_eq_true rfl) rfl (rfl) ?_
    refine ep_k1 (w := nI 0) t141_31 rfl ?_
    refine ep_aldN t141_32 rfl (Nat.le_of_ble_eq_true rfl) (Nat.ne_of_beq_eq_false rfl) (Nat.le_of_ble_eq_true rfl) (by omega) ?_
    refine ep_val (b := nI (T 0)) ((congrFun (m1 33 (by decide)) 0).trans (hT1.1 0 (by decide))) ?_
    refine ep_ifP t141_33 (ic_ge (by omega) (by omega)) (fun (c33 : (T 0) ≤ 0) => ?_) (fun (c33 : ¬ ((T 0) ≤ 0)) => ?_)
    · refine ep_iln t141_166 rfl ?_
      refine ep_ri t141_167 (fun h => absurd h (by decide)) ?_
      exact ⟨σ2, by rw [if_pos hle], rfl, fun p a b _ _ _ => (m1 p b).trans (g_up_ne a), fun k hk => (congrFun (m1 31 (by decide)) k).trans (g_up_j hk)⟩
    · refine ep_iln t141_36 rfl ?_
      refine ep_k1 (w := nI 1) t141_37 rfl ?_
      refine ep_ifP t141_38 (ic_le (by omega) (by omega)) (fun (c38 : (pcn 8 (unsM T c n su sb)) ≤ 1) => ?_) (fun (c38 : ¬ ((pcn 8 (unsM T c n su sb)) ≤ 1)) => (by omega))
      refine ep_iln t141_166 rfl ?_
      refine ep_ri t141_167 (fun h => absurd h (by decide)) ?_
      exact ⟨σ2, by rw [if_pos hle], rfl, fun p a b _ _ _ => (m1 p b).trans (g_up_ne a), fun k hk => (congrFun (m1 31 (by decide)) k).trans (g_up_j hk)⟩
  · refine L_ml1 (S := unsM T c n su sb) (σ := σ2) (c := c) (by rw [m1 33 (by decide)]; exact hT1) hw0 h31 hsn.1 ((congrFun (m1 36 (by decide)) 0).trans ((congrFun (r 36 (by decide)) 0).trans (e36 0 (by decide)))) hSS (by omega) (fun σ3 h3 => ?_) (T 0) 0 none none σ2 (by omega) (fun _ _ => rfl)
    have h4 : ∀ p, p ≠ 43 → σ3 p = g_up σ1 31 0 (nI 0) p := fun p hp3 => (h3 p hp3).trans (m1 p hp3)
    have hl0 := litn_le T c (unsM T c n su sb) 0 (T 3)
    have hl1 := pcn_mono (unsM T c n su sb) 8 hwf4
    have hl2 := pcn_le (unsM T c n su sb) 8
    have e := lkS_eq (g := (fun u => max (litn T c (unsM T c n su sb) u (T 3)) (pcn 8 (unsM T c n su sb) - litn T c (unsM T c n su sb) u (T 3)))) (a := 99) (b := pcn 8 (unsM T c n su sb) + 1) (by omega) (by omega) (T 0 - 1)
    rw [show T 0 - 1 + 1 = T 0 by omega] at e
    exact ⟨σ3, by rw [if_neg hle, e], rfl, fun p a b _ _ _ => (h4 p b).trans (g_up_ne a), fun k hk => (congrFun (h4 31 (by decide)) k).trans (g_up_j hk)⟩
