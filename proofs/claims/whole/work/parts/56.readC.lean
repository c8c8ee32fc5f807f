/-! The class reads an item. -/
def FrC (σ σ1 : gT1) : Prop := (∀ r, r ≠ 1 → r ≠ 3 → r ≠ 4 → r ≠ 5 → r ≠ 6 → σ1 r = σ r) ∧ σ1 1 1 = σ 1 1
def RC (σ : gT1) (v : Option Value) : Sum Nat (Nat × (Nat → Nat) × Nat × Nat) → Prop
  | .inl f => v = some (.int (bI false)) ∧ σ 1 3 = nI f
  | .inr (p, T, c, l) => v = some (.int (bI true)) ∧ σ 1 2 = nI p ∧ DrC σ T c l
theorem RC.v {σ : gT1} {v : Option Value} {r : Sum Nat (Nat × (Nat → Nat) × Nat × Nat)} (h : RC σ v r) : ∃ b : Bool, v = some (.int (bI b)) := by
  cases r with
  | inl f => exact ⟨false, h.1⟩
  | inr r =>
    obtain ⟨p, T, c, l⟩ := r
    exact ⟨true, h.1⟩
theorem FrC.tx {σ σ1 : gT1} {a : Nat → Nat} {n : Nat} (h : FrC σ σ1) (hx : TxC σ a n) : TxC σ1 a n := hx.fr h.2 (h.1 2 (by decide) (by decide) (by decide) (by decide) (by decide))
theorem FrC.tr {σ σ1 σ2 : gT1} (h : FrC σ σ1) (h2 : FrC σ1 σ2) : FrC σ σ2 := ⟨fun r a b c d e => (h2.1 r a b c d e).trans (h.1 r a b c d e), h2.2.trans h.2⟩
theorem b124 : ∀ v, Nat.testBit 124 v = true ↔ 2 ≤ v ∧ v ≤ 6 := fun v => by
  by_cases h : v < 8
  · revert v
    decide
  · have e : Nat.testBit 124 v = false := Nat.testBit_lt_two_pow (Nat.lt_of_lt_of_le (by decide : 124 < 2 ^ 7) (Nat.pow_le_pow_right (by decide) (by omega)))
    rw [e]
    constructor
    · intro q; exact absurd q (by decide)
    · intro q; omega
theorem al_bit {t y v : Nat} : (andN (2 ^ t - 1) y).testBit v = true ↔ v < t ∧ y.testBit v = false := by
  rw [andN_bit, Bool.and_eq_true, Nat.testBit_two_pow_sub_one, decide_eq_true_eq]
  cases y.testBit v <;> simp
theorem al_lt {t y : Nat} (h : t ≤ 6) : andN (2 ^ t - 1) y < 2147483648 := by
  have h1 : andN (2 ^ t - 1) y < 2 ^ t := andN_le _ _ (by have := Nat.two_pow_pos t; omega)
  have h2 := pow_le_256 (m := t) (by omega)
  omega
theorem pm1_bit {t v : Nat} : (2 ^ t - 1).testBit v = true ↔ v < t := by
  rw [Nat.testBit_two_pow_sub_one, decide_eq_true_eq]
theorem DrC.mark {σ : gT1} {T : Nat → Nat} {c l x : Nat} (h : DrC σ T c l) (hx : x < 26) (hk : okC T c (97 + x)) : DrC (g_up σ 3 4 (nI (bnM T c ||| 2 ^ x))) T (adC T c (97 + x)) l := by
  obtain ⟨⟨h0, h1, h2, h3, h4, h5⟩, h6⟩ := h
  unfold DrC
  rw [← bn_or hx hk, g_up_ne (by decide : (4 : Nat) ≠ 3), g_up_ne (by decide : (5 : Nat) ≠ 3), g_up_ne (by decide : (6 : Nat) ≠ 3)]
  exact ⟨⟨(g_up_j (by decide)).trans h0, (g_up_j (by decide)).trans h1, (g_up_j (by decide)).trans h2, (g_up_j (by decide)).trans h3, g_up_eq, (g_up_j (by decide)).trans h5⟩, h6⟩
theorem DrC.markl {σ : gT1} {T : Nat → Nat} {c l x : Nat} (h : DrC σ T c l) (hx : x < 26) (hk : okC T l (97 + x)) : DrC (g_up σ 3 5 (nI (bnM T l ||| 2 ^ x))) T c (adC T l (97 + x)) := by
  obtain ⟨⟨h0, h1, h2, h3, h4, h5⟩, h6⟩ := h
  unfold DrC
  rw [← bn_or hx hk, g_up_ne (by decide : (4 : Nat) ≠ 3), g_up_ne (by decide : (5 : Nat) ≠ 3), g_up_ne (by decide : (6 : Nat) ≠ 3)]
  exact ⟨⟨(g_up_j (by decide)).trans h0, (g_up_j (by decide)).trans h1, (g_up_j (by decide)).trans h2, (g_up_j (by decide)).trans h3, (g_up_j (by decide)).trans h4, g_up_eq⟩, h6⟩
theorem cl_tk1_y {X : gX} {q : Bool} {σ : gT1} {a : Nat → Nat} {n : Nat} (ha : ∀ j, a j < 256) (hn : n ≤ 120) (hx : TxC σ a n) {p al : Nat} (hp : p ≤ n) (e2 : σ 1 2 = nI p) (hal : al < 2147483648) (hq : tK a n p = 1 ∧ al.testBit (tV a n p - 97) = true) : ClP X 20 [.ref 1, .int (nI 1), .int (nI al)] (47, g_rho q, σ) (fun v g1 => ∃ σ1, v = some (.int (nI (tV a n p - 97))) ∧ g1 = (47, g_rho q, σ1) ∧ (∀ r, r ≠ 1 → σ1 r = σ r) ∧ σ1 1 1 = σ 1 1 ∧ TokC σ1 a n p) := by
  obtain ⟨v, g1, h, σ1, e, m1, m2, m3, h1 | h1⟩ := cl_Text_take1 (X := X) ha hn hx hp e2 hal
  · exact ⟨v, g1, h, σ1, h1.2.2, e, m1, m2, m3⟩
  · exact absurd hq h1.1
theorem cl_tk1_n {X : gX} {q : Bool} {σ : gT1} {a : Nat → Nat} {n : Nat} (ha : ∀ j, a j < 256) (hn : n ≤ 120) (hx : TxC σ a n) {p al : Nat} (hp : p ≤ n) (e2 : σ 1 2 = nI p) (hal : al < 2147483648) (hq : ¬ (tK a n p = 1 ∧ al.testBit (tV a n p - 97) = true)) : ClP X 20 [.ref 1, .int (nI 1), .int (nI al)] (47, g_rho q, σ) (fun v g1 => ∃ σ1, v = some (.int (-1)) ∧ g1 = (47, g_rho q, σ1) ∧ (∀ r, r ≠ 1 → σ1 r = σ r) ∧ σ1 1 1 = σ 1 1 ∧ TokC σ1 a n p) := by
  obtain ⟨v, g1, h, σ1, e, m1, m2, m3, h1 | h1⟩ := cl_Text_take1 (X := X) ha hn hx hp e2 hal
  · exact absurd ⟨h1.1, h1.2.1⟩ hq
  · exact ⟨v, g1, h, σ1, h1.2, e, m1, m2, m3⟩
theorem cl_tk2_y {X : gX} {q : Bool} {σ : gT1} {a : Nat → Nat} {n : Nat} (ha : ∀ j, a j < 256) (hn : n ≤ 120) (hx : TxC σ a n) {p al : Nat} (hp : p ≤ n) (e2 : σ 1 2 = nI p) (hal : al < 2147483648) (hq : tK a n p = 2 ∧ al.testBit (tV a n p) = true) : ClP X 20 [.ref 1, .int (nI 2), .int (nI al)] (47, g_rho q, σ) (fun v g1 => ∃ σ1, v = some (.int (nI (tV a n p))) ∧ g1 = (47, g_rho q, σ1) ∧ (∀ r, r ≠ 1 → σ1 r = σ r) ∧ σ1 1 1 = σ 1 1 ∧ TokC σ1 a n p) := by
  obtain ⟨v, g1, h, σ1, e, m1, m2, m3, h1 | h1⟩ := cl_Text_take2 (X := X) ha hn hx hp e2 hal
  · exact ⟨v, g1, h, σ1, h1.2.2, e, m1, m2, m3⟩
  · exact absurd hq h1.1
theorem cl_tk2_n {X : gX} {q : Bool} {σ : gT1} {a : Nat → Nat} {n : Nat} (ha : ∀ j, a j < 256) (hn : n ≤ 120) (hx : TxC σ a n) {p al : Nat} (hp : p ≤ n) (e2 : σ 1 2 = nI p) (hal : al < 2147483648) (hq : ¬ (tK a n p = 2 ∧ al.testBit (tV a n p) = true)) : ClP X 20 [.ref 1, .int (nI 2), .int (nI al)] (47, g_rho q, σ) (fun v g1 => ∃ σ1, v = some (.int (-1)) ∧ g1 = (47, g_rho q, σ1) ∧ (∀ r, r ≠ 1 → σ1 r = σ r) ∧ σ1 1 1 = σ 1 1 ∧ TokC σ1 a n p) := by
  obtain ⟨v, g1, h, σ1, e, m1, m2, m3, h1 | h1⟩ := cl_Text_take2 (X := X) ha hn hx hp e2 hal
  · exact absurd ⟨h1.1, h1.2.1⟩ hq
  · exact ⟨v, g1, h, σ1, h1.2, e, m1, m2, m3⟩
theorem cl_allNodes {X : gX} {q : Bool} {σ : gT1} {t : Nat} (ht : t ≤ 6) (e0 : σ 3 0 = nI t) : Cl X 22 [.ref 3] (47, g_rho q, σ) (some (.int (nI (2 ^ t - 1)))) (47, g_rho q, σ) := by
  refine Cl.of ⟨Nat.le_of_ble_eq_true rfl, rfl⟩ ?_
  show EvP X 22 0 [some (.ref 3)] [] (47, g_rho q, σ) _
  refine ep_k1 (w := nI 1) t22_0 rfl ?_
  refine ep_aln t22_1 rfl ?_
  refine ep_get t22_2 rfl (Nat.le_of_ble_eq_true rfl) rfl ?_
  refine ep_val (b := nI t) (e0) ?_
  refine ep_oneN (b := t) t22_5 (by have := Nat.two_pow_pos t; omega) ?_
  refine ep_k1 (w := nI 1) t22_6 rfl ?_
  refine ep_subN (a := 2 ^ t) (b := 1) t22_7 (by have := Nat.two_pow_pos t; omega) ?_
  refine ep_ri t22_8 (fun h => absurd h (by decide)) ?_
  exact ⟨rfl, rfl⟩

theorem cl_asSet {X : gX} {g : gS} {v : Nat} (hv : v < 31) : Cl X 23 [.int (nI v)] g (some (.int (nI (2 ^ v)))) g := by
  refine Cl.of ⟨Nat.le_of_ble_eq_true rfl, rfl⟩ ?_
  show EvP X 23 0 [some (.int (nI v))] [] g _
  refine ep_iln t23_0 rfl ?_
  refine ep_if0P t23_1 (ic0_ge (by omega)) (fun (c1 : 0 ≤ v) => ?_) (fun (c1 : ¬ (0 ≤ v)) => (by omega))
  refine ep_k1 (w := nI 1) t23_8 rfl ?_
  refine ep_iln t23_9 rfl ?_
  refine ep_oneN (b := v) t23_10 (by omega) ?_
  refine ep_ri t23_11 (fun h => absurd h (by decide)) ?_
  exact ⟨rfl, rfl⟩

theorem cl_asSet_m {X : gX} {g : gS} : Cl X 23 [.int ((-1))] g (some (.int (nI 0))) g := by
  refine Cl.of ⟨Nat.le_of_ble_eq_true rfl, rfl⟩ ?_
  show EvP X 23 0 [some (.int ((-1)))] [] g _
  refine ep_iln t23_0 rfl ?_
  refine ep_if0 t23_1 (fun (c1 : 0 ≤ ((-1))) => (by exact absurd c1 (by decide))) (fun (c1 : ¬ (0 ≤ ((-1)))) => ?_)
  refine ep_k1 (w := nI 0) t23_4 rfl ?_
  refine ep_gt t23_5 ?_
  refine ep_ri t23_11 (fun h => absurd h (by decide)) ?_
  exact ⟨rfl, rfl⟩

theorem cl_readNodes {X : gX} {q : Bool} {σ : gT1} {a : Nat → Nat} {n : Nat} (ha : ∀ j, a j < 256) (hn : n ≤ 120) (hx : TxC σ a n) {p : Nat} (hp : p ≤ n) (e2 : σ 1 2 = nI p) {T : Nat → Nat} {c l : Nat} (hw : WFD T c l) (hd : DrC σ T c l) : ClP X 21 [.ref 3, .ref 1] (47, g_rho q, σ) (fun v g1 => ∃ σ1, g1 = (47, g_rho q, σ1) ∧ FrC σ σ1 ∧ RC σ1 v (rN a n p T c l)) := by
  have h6 := hw.1.1.2
  have hk9 := tk_all (a := a) hp
  refine ClP.of ⟨Nat.le_of_ble_eq_true rfl, rfl⟩ ?_
  show EvP X 21 0 [some (.ref 3), some (.ref 1), none] [] (47, g_rho q, σ) _
  by_cases hq : tK a n p = 2 ∧ 2 ≤ tV a n p ∧ tV a n p ≤ 6
  · refine ep_aln t21_0 rfl ?_
    refine ep_k1 (w := nI 2) t21_1 rfl ?_
    refine ep_k2 (w := nI 124) t21_2 rfl ?_
    obtain ⟨v9, g9, h9, σ1, rfl, rfl, m1, m2, m3⟩ := cl_tk2_y (X := X) (q := q) (σ := σ) (a := a) (n := n) (p := p) (al := 124) ha hn (hx) (hp) (e2) (by decide) (⟨hq.1, (b124 _).mpr hq.2⟩)
    refine ep_cv t21_4 rfl rfl (Nat.le_of_ble_eq_true rfl) (Nat.le_of_ble_eq_true rfl) (h9) ?_
    refine ep_isn (L' := [some (.ref 3), some (.ref 1), some (.int (nI (tV a n p)))]) t21_7 rfl (Nat.le_of_ble_eq_true rfl) ?_
    refine ep_iln t21_8 rfl ?_
    refine ep_if0P t21_9 (ic0_ge (by omega)) (fun (c9 : 0 ≤ (tV a n p)) => ?_) (fun (c9 : ¬ (0 ≤ (tV a n p))) => (by omega))
    refine ep_aln t21_14 rfl ?_
    refine ep_iln t21_15 rfl ?_
    refine ep_put t21_16 rfl (Nat.le_of_ble_eq_true rfl) rfl ?_
    refine ep_k1 (w := nI 1) t21_19 rfl ?_
    refine ep_ri t21_20 (fun _ => rfl) ?_
    refine ⟨_, rfl, ⟨fun r h1 h3 h4 h5 h6 => by (repeat rw [g_up_ne (by assumption)]); exact m1 r h1, m2⟩, ?_⟩
    unfold rN
    rw [cif_pos hq]
    exact ⟨rfl, m3.1, DrC.set (i := 0) (by decide) (hd.fr (m1 3 (by decide)) (m1 4 (by decide)) (m1 5 (by decide)) (m1 6 (by decide))) _⟩
  · refine ep_aln t21_0 rfl ?_
    refine ep_k1 (w := nI 2) t21_1 rfl ?_
    refine ep_k2 (w := nI 124) t21_2 rfl ?_
    obtain ⟨v9, g9, h9, σ1, rfl, rfl, m1, m2, m3⟩ := cl_tk2_n (X := X) (q := q) (σ := σ) (a := a) (n := n) (p := p) (al := 124) ha hn (hx) (hp) (e2) (by decide) (fun h => hq ⟨h.1, (b124 _).mp h.2⟩)
    refine ep_cv t21_4 rfl rfl (Nat.le_of_ble_eq_true rfl) (Nat.le_of_ble_eq_true rfl) (h9) ?_
    refine ep_isn (L' := [some (.ref 3), some (.ref 1), some (.int ((-1)))]) t21_7 rfl (Nat.le_of_ble_eq_true rfl) ?_
    refine ep_iln t21_8 rfl ?_
    refine ep_if0 t21_9 (fun (c9 : 0 ≤ ((-1))) => (by exact absurd c9 (by decide))) (fun (c9 : ¬ (0 ≤ ((-1)))) => ?_)
    refine ep_k1 (w := nI 0) t21_12 rfl ?_
    refine ep_ri t21_13 (fun _ => rfl) ?_
    refine ⟨_, rfl, ⟨fun r h1 h3 h4 h5 h6 => by (repeat rw [g_up_ne (by assumption)]); exact m1 r h1, m2⟩, ?_⟩
    unfold rN
    rw [cif_neg hq]
    exact ⟨rfl, m3.2.1⟩

theorem cl_readSource {X : gX} {q : Bool} {σ : gT1} {a : Nat → Nat} {n : Nat} (ha : ∀ j, a j < 256) (hn : n ≤ 120) (hx : TxC σ a n) {p : Nat} (hp : p ≤ n) (e2 : σ 1 2 = nI p) {T : Nat → Nat} {c l : Nat} (hw : WFD T c l) (hd : DrC σ T c l) : ClP X 24 [.ref 3, .ref 1] (47, g_rho q, σ) (fun v g1 => ∃ σ1, g1 = (47, g_rho q, σ1) ∧ FrC σ σ1 ∧ RC σ1 v (rS a n 1 p T c l)) := by
  have h6 := hw.1.1.2
  have hk9 := tk_all (a := a) hp
  refine ClP.of ⟨Nat.le_of_ble_eq_true rfl, rfl⟩ ?_
  show EvP X 24 0 [some (.ref 3), some (.ref 1), none] [] (47, g_rho q, σ) _
  by_cases hq : tK a n p = 2 ∧ tV a n p < T 0 ∧ (T 1).testBit (tV a n p) = false
  · refine ep_aln t24_0 rfl ?_
    refine ep_k1 (w := nI 2) t24_1 rfl ?_
    refine ep_aln t24_2 rfl ?_
    refine ep_cv t24_3 rfl rfl (Nat.le_of_ble_eq_true rfl) (Nat.le_of_ble_eq_true rfl) (cl_allNodes h6 hd.1.1) ?_
    refine ep_aln t24_6 rfl ?_
    refine ep_get t24_7 rfl (Nat.le_of_ble_eq_true rfl) rfl ?_
    refine ep_val (b := nI (T 1)) (hd.1.2.1) ?_
    refine ep_k1 (w := (-1)) t24_10 rfl ?_
    refine ep_xor t24_11 ?_
    refine ep_and t24_12 ?_
    refine ep_val (b := nI (andN (2 ^ T 0 - 1) (T 1))) (and_notG _ _) ?_
    obtain ⟨v9, g9, h9, σ1, rfl, rfl, m1, m2, m3⟩ := cl_tk2_y (X := X) (q := q) (σ := σ) (a := a) (n := n) (p := p) (al := andN (2 ^ T 0 - 1) (T 1)) ha hn (hx) (hp) (e2) (al_lt h6) (⟨hq.1, al_bit.mpr hq.2⟩)
    refine ep_cv t24_13 rfl rfl (Nat.le_of_ble_eq_true rfl) (Nat.le_of_ble_eq_true rfl) (h9) ?_
    refine ep_isn (L' := [some (.ref 3), some (.ref 1), some (.int (nI (tV a n p)))]) t24_16 rfl (Nat.le_of_ble_eq_true rfl) ?_
    refine ep_aln t24_17 rfl ?_
    refine ep_dup t24_18 rfl ?_
    refine ep_get t24_19 rfl (Nat.le_of_ble_eq_true rfl) rfl ?_
    refine ep_val (b := nI (T 1)) ((congrFun (m1 3 (by decide)) 1).trans hd.1.2.1) ?_
    refine ep_iln t24_22 rfl ?_
    refine ep_cs t24_23 (Nat.ne_of_beq_eq_false rfl) rfl (Nat.le_of_ble_eq_true rfl) (cl_asSet (by omega)) ?_
    refine ep_orN (a := T 1) (b := 2 ^ tV a n p) t24_26 ?_
    refine ep_put t24_27 rfl (Nat.le_of_ble_eq_true rfl) rfl ?_
    refine ep_iln t24_30 rfl ?_
    refine ep_if0P t24_31 (ic0_lt (by omega)) (fun (c31 : (tV a n p) < 0) => (by omega)) (fun (c31 : ¬ ((tV a n p) < 0)) => ?_)
    refine ep_k1 (w := nI 1) t24_34 rfl ?_
    refine ep_gt t24_35 ?_
    refine ep_ri t24_39 (fun _ => rfl) ?_
    refine ⟨_, rfl, ⟨fun r h1 h3 h4 h5 h6 => by (repeat rw [g_up_ne (by assumption)]); exact m1 r h1, m2⟩, ?_⟩
    unfold rS
    rw [cif_pos hq]
    exact ⟨rfl, m3.1, DrC.set (i := 1) (by decide) (hd.fr (m1 3 (by decide)) (m1 4 (by decide)) (m1 5 (by decide)) (m1 6 (by decide))) _⟩
  · refine ep_aln t24_0 rfl ?_
    refine ep_k1 (w := nI 2) t24_1 rfl ?_
    refine ep_aln t24_2 rfl ?_
    refine ep_cv t24_3 rfl rfl (Nat.le_of_ble_eq_true rfl) (Nat.le_of_ble_eq_true rfl) (cl_allNodes h6 hd.1.1) ?_
    refine ep_aln t24_6 rfl ?_
    refine ep_get t24_7 rfl (Nat.le_of_ble_eq_true rfl) rfl ?_
    refine ep_val (b := nI (T 1)) (hd.1.2.1) ?_
    refine ep_k1 (w := (-1)) t24_10 rfl ?_
    refine ep_xor t24_11 ?_
    refine ep_and t24_12 ?_
    refine ep_val (b := nI (andN (2 ^ T 0 - 1) (T 1))) (and_notG _ _) ?_
    obtain ⟨v9, g9, h9, σ1, rfl, rfl, m1, m2, m3⟩ := cl_tk2_n (X := X) (q := q) (σ := σ) (a := a) (n := n) (p := p) (al := andN (2 ^ T 0 - 1) (T 1)) ha hn (hx) (hp) (e2) (al_lt h6) (fun h => hq ⟨h.1, al_bit.mp h.2⟩)
    refine ep_cv t24_13 rfl rfl (Nat.le_of_ble_eq_true rfl) (Nat.le_of_ble_eq_true rfl) (h9) ?_
    refine ep_isn (L' := [some (.ref 3), some (.ref 1), some (.int ((-1)))]) t24_16 rfl (Nat.le_of_ble_eq_true rfl) ?_
    refine ep_aln t24_17 rfl ?_
    refine ep_dup t24_18 rfl ?_
    refine ep_get t24_19 rfl (Nat.le_of_ble_eq_true rfl) rfl ?_
    refine ep_val (b := nI (T 1)) ((congrFun (m1 3 (by decide)) 1).trans hd.1.2.1) ?_
    refine ep_iln t24_22 rfl ?_
    refine ep_cs t24_23 (Nat.ne_of_beq_eq_false rfl) rfl (Nat.le_of_ble_eq_true rfl) (cl_asSet_m) ?_
    refine ep_orN (a := T 1) (b := 0) t24_26 ?_
    refine ep_put t24_27 rfl (Nat.le_of_ble_eq_true rfl) rfl ?_
    refine ep_iln t24_30 rfl ?_
    refine ep_if0 t24_31 (fun (c31 : ((-1)) < 0) => ?_) (fun (c31 : ¬ (((-1)) < 0)) => (by exact absurd (by decide) c31))
    refine ep_k1 (w := nI 0) t24_38 rfl ?_
    refine ep_ri t24_39 (fun _ => rfl) ?_
    refine ⟨_, rfl, ⟨fun r h1 h3 h4 h5 h6 => by (repeat rw [g_up_ne (by assumption)]); exact m1 r h1, m2⟩, ?_⟩
    unfold rS
    rw [cif_neg hq]
    exact ⟨rfl, m3.2.1⟩

theorem cl_readLoad {X : gX} {q : Bool} {σ : gT1} {a : Nat → Nat} {n : Nat} (ha : ∀ j, a j < 256) (hn : n ≤ 120) (hx : TxC σ a n) {p : Nat} (hp : p ≤ n) (e2 : σ 1 2 = nI p) {T : Nat → Nat} {c l : Nat} (hw : WFD T c l) (hd : DrC σ T c l) : ClP X 25 [.ref 3, .ref 1] (47, g_rho q, σ) (fun v g1 => ∃ σ1, g1 = (47, g_rho q, σ1) ∧ FrC σ σ1 ∧ RC σ1 v (rS a n 2 p T c l)) := by
  have h6 := hw.1.1.2
  have hk9 := tk_all (a := a) hp
  refine ClP.of ⟨Nat.le_of_ble_eq_true rfl, rfl⟩ ?_
  show EvP X 25 0 [some (.ref 3), some (.ref 1), none] [] (47, g_rho q, σ) _
  by_cases hq : tK a n p = 2 ∧ tV a n p < T 0 ∧ (T 2).testBit (tV a n p) = false
  · refine ep_aln t25_0 rfl ?_
    refine ep_k1 (w := nI 2) t25_1 rfl ?_
    refine ep_aln t25_2 rfl ?_
    refine ep_cv t25_3 rfl rfl (Nat.le_of_ble_eq_true rfl) (Nat.le_of_ble_eq_true rfl) (cl_allNodes h6 hd.1.1) ?_
    refine ep_aln t25_6 rfl ?_
    refine ep_get t25_7 rfl (Nat.le_of_ble_eq_true rfl) rfl ?_
    refine ep_val (b := nI (T 2)) (hd.1.2.2.1) ?_
    refine ep_k1 (w := (-1)) t25_10 rfl ?_
    refine ep_xor t25_11 ?_
    refine ep_and t25_12 ?_
    refine ep_val (b := nI (andN (2 ^ T 0 - 1) (T 2))) (and_notG _ _) ?_
    obtain ⟨v9, g9, h9, σ1, rfl, rfl, m1, m2, m3⟩ := cl_tk2_y (X := X) (q := q) (σ := σ) (a := a) (n := n) (p := p) (al := andN (2 ^ T 0 - 1) (T 2)) ha hn (hx) (hp) (e2) (al_lt h6) (⟨hq.1, al_bit.mpr hq.2⟩)
    refine ep_cv t25_13 rfl rfl (Nat.le_of_ble_eq_true rfl) (Nat.le_of_ble_eq_true rfl) (h9) ?_
    refine ep_isn (L' := [some (.ref 3), some (.ref 1), some (.int (nI (tV a n p)))]) t25_16 rfl (Nat.le_of_ble_eq_true rfl) ?_
    refine ep_aln t25_17 rfl ?_
    refine ep_dup t25_18 rfl ?_
    refine ep_get t25_19 rfl (Nat.le_of_ble_eq_true rfl) rfl ?_
    refine ep_val (b := nI (T 2)) ((congrFun (m1 3 (by decide)) 2).trans hd.1.2.2.1) ?_
    refine ep_iln t25_22 rfl ?_
    refine ep_cs t25_23 (Nat.ne_of_beq_eq_false rfl) rfl (Nat.le_of_ble_eq_true rfl) (cl_asSet (by omega)) ?_
    refine ep_orN (a := T 2) (b := 2 ^ tV a n p) t25_26 ?_
    refine ep_put t25_27 rfl (Nat.le_of_ble_eq_true rfl) rfl ?_
    refine ep_iln t25_30 rfl ?_
    refine ep_if0P t25_31 (ic0_lt (by omega)) (fun (c31 : (tV a n p) < 0) => (by omega)) (fun (c31 : ¬ ((tV a n p) < 0)) => ?_)
    refine ep_k1 (w := nI 1) t25_34 rfl ?_
    refine ep_gt t25_35 ?_
    refine ep_ri t25_39 (fun _ => rfl) ?_
    refine ⟨_, rfl, ⟨fun r h1 h3 h4 h5 h6 => by (repeat rw [g_up_ne (by assumption)]); exact m1 r h1, m2⟩, ?_⟩
    unfold rS
    rw [cif_pos hq]
    exact ⟨rfl, m3.1, DrC.set (i := 2) (by decide) (hd.fr (m1 3 (by decide)) (m1 4 (by decide)) (m1 5 (by decide)) (m1 6 (by decide))) _⟩
  · refine ep_aln t25_0 rfl ?_
    refine ep_k1 (w := nI 2) t25_1 rfl ?_
    refine ep_aln t25_2 rfl ?_
    refine ep_cv t25_3 rfl rfl (Nat.le_of_ble_eq_true rfl) (Nat.le_of_ble_eq_true rfl) (cl_allNodes h6 hd.1.1) ?_
    refine ep_aln t25_6 rfl ?_
    refine ep_get t25_7 rfl (Nat.le_of_ble_eq_true rfl) rfl ?_
    refine ep_val (b := nI (T 2)) (hd.1.2.2.1) ?_
    refine ep_k1 (w := (-1)) t25_10 rfl ?_
    refine ep_xor t25_11 ?_
    refine ep_and t25_12 ?_
    refine ep_val (b := nI (andN (2 ^ T 0 - 1) (T 2))) (and_notG _ _) ?_
    obtain ⟨v9, g9, h9, σ1, rfl, rfl, m1, m2, m3⟩ := cl_tk2_n (X := X) (q := q) (σ := σ) (a := a) (n := n) (p := p) (al := andN (2 ^ T 0 - 1) (T 2)) ha hn (hx) (hp) (e2) (al_lt h6) (fun h => hq ⟨h.1, al_bit.mp h.2⟩)
    refine ep_cv t25_13 rfl rfl (Nat.le_of_ble_eq_true rfl) (Nat.le_of_ble_eq_true rfl) (h9) ?_
    refine ep_isn (L' := [some (.ref 3), some (.ref 1), some (.int ((-1)))]) t25_16 rfl (Nat.le_of_ble_eq_true rfl) ?_
    refine ep_aln t25_17 rfl ?_
    refine ep_dup t25_18 rfl ?_
    refine ep_get t25_19 rfl (Nat.le_of_ble_eq_true rfl) rfl ?_
    refine ep_val (b := nI (T 2)) ((congrFun (m1 3 (by decide)) 2).trans hd.1.2.2.1) ?_
    refine ep_iln t25_22 rfl ?_
    refine ep_cs t25_23 (Nat.ne_of_beq_eq_false rfl) rfl (Nat.le_of_ble_eq_true rfl) (cl_asSet_m) ?_
    refine ep_orN (a := T 2) (b := 0) t25_26 ?_
    refine ep_put t25_27 rfl (Nat.le_of_ble_eq_true rfl) rfl ?_
    refine ep_iln t25_30 rfl ?_
    refine ep_if0 t25_31 (fun (c31 : ((-1)) < 0) => ?_) (fun (c31 : ¬ (((-1)) < 0)) => (by exact absurd (by decide) c31))
    refine ep_k1 (w := nI 0) t25_38 rfl ?_
    refine ep_ri t25_39 (fun _ => rfl) ?_
    refine ⟨_, rfl, ⟨fun r h1 h3 h4 h5 h6 => by (repeat rw [g_up_ne (by assumption)]); exact m1 r h1, m2⟩, ?_⟩
    unfold rS
    rw [cif_neg hq]
    exact ⟨rfl, m3.2.1⟩

theorem cl_readClosed {X : gX} {q : Bool} {σ : gT1} {a : Nat → Nat} {n : Nat} (ha : ∀ j, a j < 256) (hn : n ≤ 120) (hx : TxC σ a n) {p : Nat} (hp : p ≤ n) (e2 : σ 1 2 = nI p) {T : Nat → Nat} {c l : Nat} (hw : WFD T c l) (hd : DrC σ T c l) : ClP X 28 [.ref 3, .ref 1] (47, g_rho q, σ) (fun v g1 => ∃ σ1, g1 = (47, g_rho q, σ1) ∧ FrC σ σ1 ∧ RC σ1 v (rC a n p T c l)) := by
  have h6 := hw.1.1.2
  have hk9 := tk_all (a := a) hp
  refine ClP.of ⟨Nat.le_of_ble_eq_true rfl, rfl⟩ ?_
  show EvP X 28 0 [some (.ref 3), some (.ref 1), none] [] (47, g_rho q, σ) _
  by_cases hq : tK a n p = 1 ∧ okC T c (tV a n p)
  · refine ep_aln t28_0 rfl ?_
    refine ep_k1 (w := nI 1) t28_1 rfl ?_
    refine ep_aln t28_2 rfl ?_
    refine ep_get t28_3 rfl (Nat.le_of_ble_eq_true rfl) rfl ?_
    refine ep_val (b := nI (nmM T)) (hd.1.2.2.2.1) ?_
    refine ep_aln t28_6 rfl ?_
    refine ep_get t28_7 rfl (Nat.le_of_ble_eq_true rfl) rfl ?_
    refine ep_val (b := nI (bnM T c)) (hd.1.2.2.2.2.1) ?_
    refine ep_k1 (w := (-1)) t28_10 rfl ?_
    refine ep_xor t28_11 ?_
    refine ep_and t28_12 ?_
    refine ep_val (b := nI (andN (nmM T) (bnM T c))) (and_notG _ _) ?_
    obtain ⟨v9, g9, h9, σ1, rfl, rfl, m1, m2, m3⟩ := cl_tk1_y (X := X) (q := q) (σ := σ) (a := a) (n := n) (p := p) (al := andN (nmM T) (bnM T c)) ha hn (hx) (hp) (e2) (Nat.lt_trans (andN_le (n := 26) _ _ (nm_lt T)) (by decide)) (⟨hq.1, (ok_bit hw.1 (by have := hk9.2.2.1 hq.1; omega)).mpr (by rw [show 97 + (tV a n p - 97) = tV a n p by have := hk9.2.2.1 hq.1; omega]; exact hq.2)⟩)
    refine ep_cv t28_13 rfl rfl (Nat.le_of_ble_eq_true rfl) (Nat.le_of_ble_eq_true rfl) (h9) ?_
    refine ep_isn (L' := [some (.ref 3), some (.ref 1), some (.int (nI (tV a n p - 97)))]) t28_16 rfl (Nat.le_of_ble_eq_true rfl) ?_
    refine ep_aln t28_17 rfl ?_
    refine ep_dup t28_18 rfl ?_
    refine ep_get t28_19 rfl (Nat.le_of_ble_eq_true rfl) rfl ?_
    refine ep_val (b := nI (bnM T c)) ((congrFun (m1 3 (by decide)) 4).trans hd.1.2.2.2.2.1) ?_
    refine ep_iln t28_22 rfl ?_
    refine ep_cs t28_23 (Nat.ne_of_beq_eq_false rfl) rfl (Nat.le_of_ble_eq_true rfl) (cl_asSet (by have := hk9.2.2.1 hq.1; omega)) ?_
    refine ep_orN (a := bnM T c) (b := 2 ^ (tV a n p - 97)) t28_26 ?_
    refine ep_put t28_27 rfl (Nat.le_of_ble_eq_true rfl) rfl ?_
    refine ep_iln t28_30 rfl ?_
    refine ep_if0P t28_31 (ic0_lt (by have := hk9.2.2.1 hq.1; omega)) (fun (c31 : (tV a n p - 97) < 0) => (by omega)) (fun (c31 : ¬ ((tV a n p - 97) < 0)) => ?_)
    refine ep_k1 (w := nI 1) t28_34 rfl ?_
    refine ep_gt t28_35 ?_
    refine ep_ri t28_39 (fun _ => rfl) ?_
    refine ⟨_, rfl, ⟨fun r h1 h3 h4 h5 h6 => by (repeat rw [g_up_ne (by assumption)]); exact m1 r h1, m2⟩, ?_⟩
    unfold rC
    rw [cif_pos hq]
    have hv := hk9.2.2.1 hq.1
    have e9 : 97 + (tV a n p - 97) = tV a n p := by omega
    have h9 := DrC.mark (x := tV a n p - 97) (hd.fr (m1 3 (by decide)) (m1 4 (by decide)) (m1 5 (by decide)) (m1 6 (by decide))) (by omega) (by rw [e9]; exact hq.2)
    rw [e9] at h9
    exact ⟨rfl, m3.1, h9⟩
  · refine ep_aln t28_0 rfl ?_
    refine ep_k1 (w := nI 1) t28_1 rfl ?_
    refine ep_aln t28_2 rfl ?_
    refine ep_get t28_3 rfl (Nat.le_of_ble_eq_true rfl) rfl ?_
    refine ep_val (b := nI (nmM T)) (hd.1.2.2.2.1) ?_
    refine ep_aln t28_6 rfl ?_
    refine ep_get t28_7 rfl (Nat.le_of_ble_eq_true rfl) rfl ?_
    refine ep_val (b := nI (bnM T c)) (hd.1.2.2.2.2.1) ?_
    refine ep_k1 (w := (-1)) t28_10 rfl ?_
    refine ep_xor t28_11 ?_
    refine ep_and t28_12 ?_
    refine ep_val (b := nI (andN (nmM T) (bnM T c))) (and_notG _ _) ?_
    obtain ⟨v9, g9, h9, σ1, rfl, rfl, m1, m2, m3⟩ := cl_tk1_n (X := X) (q := q) (σ := σ) (a := a) (n := n) (p := p) (al := andN (nmM T) (bnM T c)) ha hn (hx) (hp) (e2) (Nat.lt_trans (andN_le (n := 26) _ _ (nm_lt T)) (by decide)) (fun h => hq ⟨h.1, by have z := (ok_bit hw.1 (by have := hk9.2.2.1 h.1; omega)).mp h.2; rw [show 97 + (tV a n p - 97) = tV a n p by have := hk9.2.2.1 h.1; omega] at z; exact z⟩)
    refine ep_cv t28_13 rfl rfl (Nat.le_of_ble_eq_true rfl) (Nat.le_of_ble_eq_true rfl) (h9) ?_
    refine ep_isn (L' := [some (.ref 3), some (.ref 1), some (.int ((-1)))]) t28_16 rfl (Nat.le_of_ble_eq_true rfl) ?_
    refine ep_aln t28_17 rfl ?_
    refine ep_dup t28_18 rfl ?_
    refine ep_get t28_19 rfl (Nat.le_of_ble_eq_true rfl) rfl ?_
    refine ep_val (b := nI (bnM T c)) ((congrFun (m1 3 (by decide)) 4).trans hd.1.2.2.2.2.1) ?_
    refine ep_iln t28_22 rfl ?_
    refine ep_cs t28_23 (Nat.ne_of_beq_eq_false rfl) rfl (Nat.le_of_ble_eq_true rfl) (cl_asSet_m) ?_
    refine ep_orN (a := bnM T c) (b := 0) t28_26 ?_
    refine ep_put t28_27 rfl (Nat.le_of_ble_eq_true rfl) rfl ?_
    refine ep_iln t28_30 rfl ?_
    refine ep_if0 t28_31 (fun (c31 : ((-1)) < 0) => ?_) (fun (c31 : ¬ (((-1)) < 0)) => (by exact absurd (by decide) c31))
    refine ep_k1 (w := nI 0) t28_38 rfl ?_
    refine ep_ri t28_39 (fun _ => rfl) ?_
    refine ⟨_, rfl, ⟨fun r h1 h3 h4 h5 h6 => by (repeat rw [g_up_ne (by assumption)]); exact m1 r h1, m2⟩, ?_⟩
    unfold rC
    rw [cif_neg hq]
    exact ⟨rfl, m3.2.1⟩

theorem cl_readLocked {X : gX} {q : Bool} {σ : gT1} {a : Nat → Nat} {n : Nat} (ha : ∀ j, a j < 256) (hn : n ≤ 120) (hx : TxC σ a n) {p : Nat} (hp : p ≤ n) (e2 : σ 1 2 = nI p) {T : Nat → Nat} {c l : Nat} (hw : WFD T c l) (hd : DrC σ T c l) : ClP X 29 [.ref 3, .ref 1] (47, g_rho q, σ) (fun v g1 => ∃ σ1, g1 = (47, g_rho q, σ1) ∧ FrC σ σ1 ∧ RC σ1 v (rL a n p T c l)) := by
  have h6 := hw.1.1.2
  have hk9 := tk_all (a := a) hp
  refine ClP.of ⟨Nat.le_of_ble_eq_true rfl, rfl⟩ ?_
  show EvP X 29 0 [some (.ref 3), some (.ref 1), none] [] (47, g_rho q, σ) _
  by_cases hq : tK a n p = 1 ∧ okC T l (tV a n p)
  · refine ep_aln t29_0 rfl ?_
    refine ep_k1 (w := nI 1) t29_1 rfl ?_
    refine ep_aln t29_2 rfl ?_
    refine ep_get t29_3 rfl (Nat.le_of_ble_eq_true rfl) rfl ?_
    refine ep_val (b := nI (nmM T)) (hd.1.2.2.2.1) ?_
    refine ep_aln t29_6 rfl ?_
    refine ep_get t29_7 rfl (Nat.le_of_ble_eq_true rfl) rfl ?_
    refine ep_val (b := nI (bnM T l)) (hd.1.2.2.2.2.2) ?_
    refine ep_k1 (w := (-1)) t29_10 rfl ?_
    refine ep_xor t29_11 ?_
    refine ep_and t29_12 ?_
    refine ep_val (b := nI (andN (nmM T) (bnM T l))) (and_notG _ _) ?_
    obtain ⟨v9, g9, h9, σ1, rfl, rfl, m1, m2, m3⟩ := cl_tk1_y (X := X) (q := q) (σ := σ) (a := a) (n := n) (p := p) (al := andN (nmM T) (bnM T l)) ha hn (hx) (hp) (e2) (Nat.lt_trans (andN_le (n := 26) _ _ (nm_lt T)) (by decide)) (⟨hq.1, (ok_bit hw.1 (by have := hk9.2.2.1 hq.1; omega)).mpr (by rw [show 97 + (tV a n p - 97) = tV a n p by have := hk9.2.2.1 hq.1; omega]; exact hq.2)⟩)
    refine ep_cv t29_13 rfl rfl (Nat.le_of_ble_eq_true rfl) (Nat.le_of_ble_eq_true rfl) (h9) ?_
    refine ep_isn (L' := [some (.ref 3), some (.ref 1), some (.int (nI (tV a n p - 97)))]) t29_16 rfl (Nat.le_of_ble_eq_true rfl) ?_
    refine ep_aln t29_17 rfl ?_
    refine ep_dup t29_18 rfl ?_
    refine ep_get t29_19 rfl (Nat.le_of_ble_eq_true rfl) rfl ?_
    refine ep_val (b := nI (bnM T l)) ((congrFun (m1 3 (by decide)) 5).trans hd.1.2.2.2.2.2) ?_
    refine ep_iln t29_22 rfl ?_
    refine ep_cs t29_23 (Nat.ne_of_beq_eq_false rfl) rfl (Nat.le_of_ble_eq_true rfl) (cl_asSet (by have := hk9.2.2.1 hq.1; omega)) ?_
    refine ep_orN (a := bnM T l) (b := 2 ^ (tV a n p - 97)) t29_26 ?_
    refine ep_put t29_27 rfl (Nat.le_of_ble_eq_true rfl) rfl ?_
    refine ep_iln t29_30 rfl ?_
    refine ep_if0P t29_31 (ic0_lt (by have := hk9.2.2.1 hq.1; omega)) (fun (c31 : (tV a n p - 97) < 0) => (by omega)) (fun (c31 : ¬ ((tV a n p - 97) < 0)) => ?_)
    refine ep_k1 (w := nI 1) t29_34 rfl ?_
    refine ep_gt t29_35 ?_
    refine ep_ri t29_39 (fun _ => rfl) ?_
    refine ⟨_, rfl, ⟨fun r h1 h3 h4 h5 h6 => by (repeat rw [g_up_ne (by assumption)]); exact m1 r h1, m2⟩, ?_⟩
    unfold rL
    rw [cif_pos hq]
    have hv := hk9.2.2.1 hq.1
    have e9 : 97 + (tV a n p - 97) = tV a n p := by omega
    have h9 := DrC.markl (x := tV a n p - 97) (hd.fr (m1 3 (by decide)) (m1 4 (by decide)) (m1 5 (by decide)) (m1 6 (by decide))) (by omega) (by rw [e9]; exact hq.2)
    rw [e9] at h9
    exact ⟨rfl, m3.1, h9⟩
  · refine ep_aln t29_0 rfl ?_
    refine ep_k1 (w := nI 1) t29_1 rfl ?_
    refine ep_aln t29_2 rfl ?_
    refine ep_get t29_3 rfl (Nat.le_of_ble_eq_true rfl) rfl ?_
    refine ep_val (b := nI (nmM T)) (hd.1.2.2.2.1) ?_
    refine ep_aln t29_6 rfl ?_
    refine ep_get t29_7 rfl (Nat.le_of_ble_eq_true rfl) rfl ?_
    refine ep_val (b := nI (bnM T l)) (hd.1.2.2.2.2.2) ?_
    refine ep_k1 (w := (-1)) t29_10 rfl ?_
    refine ep_xor t29_11 ?_
    refine ep_and t29_12 ?_
    refine ep_val (b := nI (andN (nmM T) (bnM T l))) (and_notG _ _) ?_
    obtain ⟨v9, g9, h9, σ1, rfl, rfl, m1, m2, m3⟩ := cl_tk1_n (X := X) (q := q) (σ := σ) (a := a) (n := n) (p := p) (al := andN (nmM T) (bnM T l)) ha hn (hx) (hp) (e2) (Nat.lt_trans (andN_le (n := 26) _ _ (nm_lt T)) (by decide)) (fun h => hq ⟨h.1, by have z := (ok_bit hw.1 (by have := hk9.2.2.1 h.1; omega)).mp h.2; rw [show 97 + (tV a n p - 97) = tV a n p by have := hk9.2.2.1 h.1; omega] at z; exact z⟩)
    refine ep_cv t29_13 rfl rfl (Nat.le_of_ble_eq_true rfl) (Nat.le_of_ble_eq_true rfl) (h9) ?_
    refine ep_isn (L' := [some (.ref 3), some (.ref 1), some (.int ((-1)))]) t29_16 rfl (Nat.le_of_ble_eq_true rfl) ?_
    refine ep_aln t29_17 rfl ?_
    refine ep_dup t29_18 rfl ?_
    refine ep_get t29_19 rfl (Nat.le_of_ble_eq_true rfl) rfl ?_
    refine ep_val (b := nI (bnM T l)) ((congrFun (m1 3 (by decide)) 5).trans hd.1.2.2.2.2.2) ?_
    refine ep_iln t29_22 rfl ?_
    refine ep_cs t29_23 (Nat.ne_of_beq_eq_false rfl) rfl (Nat.le_of_ble_eq_true rfl) (cl_asSet_m) ?_
    refine ep_orN (a := bnM T l) (b := 0) t29_26 ?_
    refine ep_put t29_27 rfl (Nat.le_of_ble_eq_true rfl) rfl ?_
    refine ep_iln t29_30 rfl ?_
    refine ep_if0 t29_31 (fun (c31 : ((-1)) < 0) => ?_) (fun (c31 : ¬ (((-1)) < 0)) => (by exact absurd (by decide) c31))
    refine ep_k1 (w := nI 0) t29_38 rfl ?_
    refine ep_ri t29_39 (fun _ => rfl) ?_
    refine ⟨_, rfl, ⟨fun r h1 h3 h4 h5 h6 => by (repeat rw [g_up_ne (by assumption)]); exact m1 r h1, m2⟩, ?_⟩
    unfold rL
    rw [cif_neg hq]
    exact ⟨rfl, m3.2.1⟩

