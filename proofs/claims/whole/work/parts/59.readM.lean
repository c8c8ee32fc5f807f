/-! The model reads an item. -/
def FrM (σ σ1 : gT1) : Prop := (∀ r, r ≠ 31 → r ≠ 34 → r ≠ 35 → σ1 r = σ r) ∧ ∀ k, k ≠ 3 → k ≠ 4 → k ≠ 5 → k ≠ 6 → k ≠ 7 → σ1 31 k = σ 31 k
theorem FrM.rf {σ : gT1} : FrM σ σ := ⟨fun _ _ _ _ => rfl, fun _ _ _ _ _ _ => rfl⟩
theorem FrM.tr {σ σ1 σ2 : gT1} (h : FrM σ σ1) (h2 : FrM σ1 σ2) : FrM σ σ2 := ⟨fun r a b c => (h2.1 r a b c).trans (h.1 r a b c), fun k a b c d e => (h2.2 k a b c d e).trans (h.2 k a b c d e)⟩
theorem FrM.u34 {σ σ1 : gT1} {j : Nat} {v : Int32} (h : FrM σ σ1) : FrM σ (g_up σ1 34 j v) := ⟨fun r a b c => (g_up_ne b).trans (h.1 r a b c), h.2⟩
theorem FrM.u35 {σ σ1 : gT1} {j : Nat} {v : Int32} (h : FrM σ σ1) : FrM σ (g_up σ1 35 j v) := ⟨fun r a b c => (g_up_ne c).trans (h.1 r a b c), h.2⟩
theorem FrM.flt {σ σ1 : gT1} {v : Int32} (h : FrM σ σ1) : FrM σ (g_up σ1 31 7 v) := ⟨fun r a b c => (g_up_ne a).trans (h.1 r a b c), fun k a b c d e => (g_up_j e).trans (h.2 k a b c d e)⟩
theorem FrM.adv {σ σ1 σ2 : gT1} (h : FrM σ σ1) (a1 : ∀ r, r ≠ 31 → σ2 r = σ1 r) (a2 : ∀ k, k ≠ 3 → k ≠ 4 → k ≠ 5 → k ≠ 6 → σ2 31 k = σ1 31 k) : FrM σ σ2 := ⟨fun r a b c => (a1 r a).trans (h.1 r a b c), fun k a b c d e => (a2 k a b c d).trans (h.2 k a b c d e)⟩
theorem FrM.tx {σ σ1 : gT1} {a : Nat → Nat} {n : Nat} (h : FrM σ σ1) (hx : TxM σ a n) : TxM σ1 a n := hx.fr (h.2 2 (by decide) (by decide) (by decide) (by decide) (by decide)) (h.1 32 (by decide) (by decide) (by decide))
theorem TokM.u34 {σ : gT1} {a : Nat → Nat} {n p j : Nat} {v : Int32} (h : TokM σ a n p) : TokM (g_up σ 34 j v) a n p := h
theorem TokM.flt {σ : gT1} {a : Nat → Nat} {n p : Nat} {v : Int32} (h : TokM σ a n p) : TokM (g_up σ 31 7 v) a n p := h
theorem ToldM.up {σ : gT1} {T : Nat → Nat} {j : Nat} {v : Int32} (h : ToldM (σ 34) T) (h8 : T 3 < 8) (hj : j = 4 + T 3 ∨ j = 12 + T 3 ∨ j = 20 + T 3 ∨ j = 28 + T 3) : ToldM (g_up σ 34 j v 34) T := by
  refine ⟨fun i hi => (g_up_j (by omega)).trans (h.1 i hi), fun k hk => ?_⟩
  rw [g_up_j (by omega), g_up_j (by omega), g_up_j (by omega), g_up_j (by omega)]
  exact h.2 k hk
theorem g_up_at {σ : gT1} {p k j : Nat} {v : Int32} : g_up σ p k v p j = if j = k then v else σ p j := by
  by_cases h : j = k
  · subst h; rw [if_pos rfl, g_up_eq]
  · rw [if_neg h, g_up_j h]
def RMo (a : Nat → Nat) (n : Nat) (σ : gT1) : Sum Nat (Nat × (Nat → Nat) × Nat × Nat) → Prop
  | .inl f => σ 31 7 = nI f
  | .inr (p, T, c, l) => σ 31 7 = -1 ∧ TokM σ a n p ∧ DrM σ T c l
theorem cl_wn_y {X : gX} {q : Bool} {σ : gT1} {T : Nat → Nat} {x j : Nat} (hT : ToldM (σ 34) T) (hw : WFT T) (hx : x < 256) (hj : j < T 3) (e : T (12 + j) = x) : Cl X 52 [.ref 34, .int (nI x)] (47, g_rho q, σ) (some (.int (nI j))) (47, g_rho q, σ) := by
  obtain ⟨v, g1, h, its, rfl, rfl, h1 | ⟨j', h1, h2, rfl, -⟩⟩ := cl_M_withName_34 (X := X) (q := q) hT hw.2.2.1 (fun k hk => by have := (hw.2.2.2.1 k hk).2.1; omega) hx
  · exact absurd e (h1.2 j hj)
  · rw [name_inj hw h1 hj (h2.trans e.symm)] at h
    exact h
theorem cl_wn_n {X : gX} {q : Bool} {σ : gT1} {T : Nat → Nat} {x : Nat} (hT : ToldM (σ 34) T) (hw : WFT T) (hx : x < 256) (hno : ∀ k, k < T 3 → ¬ T (12 + k) = x) : Cl X 52 [.ref 34, .int (nI x)] (47, g_rho q, σ) (some (.int (-9))) (47, g_rho q, σ) := by
  obtain ⟨v, g1, h, its, rfl, rfl, h1 | ⟨j', h1, h2, rfl, -⟩⟩ := cl_M_withName_34 (X := X) (q := q) hT hw.2.2.1 (fun k hk => by have := (hw.2.2.2.1 k hk).2.1; omega) hx
  · rw [h1.1] at h
    exact h
  · exact absurd h2 (hno j' h1)
theorem cl_gets_y {X : gX} {q : Bool} {σ : gT1} {a : Nat → Nat} {n : Nat} (ha : ∀ j, a j < 256) (hn : n ≤ 120) (hx : TxM σ a n) {p : Nat} (hp : p ≤ n) {T : Nat → Nat} {c l : Nat} (hw : WFD T c l) (ht : TokM σ a n p) (hd : DrM σ T c l) (e7 : σ 31 7 = -1) {S : Nat} (hS : S < 256) (hq : tK a n p = 2 ∧ tV a n p < T 0 ∧ S.testBit (tV a n p) = false) : ClP X 54 [.ref 31, .int (nI S), .int (nI 0)] (47, g_rho q, σ) (fun v g1 => ∃ σ1, v = some (.int (nI (S ||| 2 ^ tV a n p))) ∧ g1 = (47, g_rho q, σ1) ∧ (∀ r, r ≠ 31 → σ1 r = σ r) ∧ (∀ k, k ≠ 3 → k ≠ 4 → k ≠ 5 → k ≠ 6 → σ1 31 k = σ 31 k) ∧ TokM σ1 a n (tN a n p)) := by
  have h6 := hw.1.1
  have ht3 := hw.1.2.2.1
  have hk9 := tk_all (a := a) hp
  have hp2 := hk9.1.2.2.1
  have hpw := pow_le_256 (m := T 0) (by omega)
  have hpw3 := pow_le_256 (m := T 3) (by omega)
  have hwd := hw.2
  have ht12 := hw.1.2.1
  refine ClP.of ⟨Nat.le_of_ble_eq_true rfl, rfl⟩ ?_
  show EvP X 54 0 [some (.ref 31), some (.int (nI S)), some (.int (nI 0)), none, none] [] (47, g_rho q, σ) _
  refine ep_iln t54_0 rfl ?_
  refine ep_if0P t54_1 (ic0_eq (by omega)) (fun (c1 : 0 = 0) => ?_) (fun (c1 : ¬ (0 = 0)) => (by omega))
  refine ep_aln t54_31 rfl ?_
  refine ep_k1 (w := nI 0) t54_32 rfl ?_
  refine ep_aln t54_33 rfl ?_
  refine ep_getr (q := 34) t54_34 rfl (Nat.le_of_ble_eq_true rfl) rfl (rfl) ?_
  refine ep_k1 (w := nI 0) t54_37 rfl ?_
  refine ep_aldN t54_38 rfl (Nat.le_of_ble_eq_true rfl) (Nat.ne_of_beq_eq_false rfl) (Nat.le_of_ble_eq_true rfl) (by omega) ?_
  refine ep_val (b := nI (T 0)) (hd.1.1 0 (by decide)) ?_
  refine ep_k1 (w := nI 1) t54_39 rfl ?_
  refine ep_subN (a := T 0) (b := 1) t54_40 (by omega) ?_
  refine ep_cv t54_41 rfl rfl (Nat.le_of_ble_eq_true rfl) (Nat.le_of_ble_eq_true rfl) (cl_M_isNumber (p := p) hp ht (by omega) (by omega)) ?_
  refine ep_bF t54_44 (fun (c44 : (decide (tK a n p = 2 ∧ 0 ≤ tV a n p ∧ tV a n p ≤ (T 0) - 1)) = false) => (by exact absurd ⟨hq.1, by omega, by omega⟩ (of_decide_eq_false c44))) (fun (c44 : (decide (tK a n p = 2 ∧ 0 ≤ tV a n p ∧ tV a n p ≤ (T 0) - 1)) = true) => ?_)
  refine ep_aln t54_47 rfl ?_
  refine ep_get t54_48 rfl (Nat.le_of_ble_eq_true rfl) rfl ?_
  refine ep_val (b := nI (tV a n p)) (ht.2.2.2 (Or.inr (of_decide_eq_true c44).1)) ?_
  refine ep_gt t54_51 ?_
  refine ep_isn (L' := [some (.ref 31), some (.int (nI S)), some (.int (nI 0)), some (.int (nI (tV a n p))), none]) t54_56 rfl (Nat.le_of_ble_eq_true rfl) ?_
  refine ep_iln t54_57 rfl ?_
  refine ep_k2 (w := (-9)) t54_58 rfl ?_
  refine ep_if t54_60 (fun (c60 : (nI (tV a n p)) = ((-9))) => (by exact absurd c60 (nI_m9 (by omega)))) (fun (c60 : ¬ ((nI (tV a n p)) = ((-9)))) => ?_)
  refine ep_iln t54_63 rfl ?_
  refine ep_iln t54_64 rfl ?_
  refine ep_cs t54_65 (Nat.ne_of_beq_eq_false rfl) rfl (Nat.le_of_ble_eq_true rfl) (cl_M_has (by omega) (by omega)) ?_
  refine ep_bT t54_68 (fun (c68 : (Nat.testBit S (tV a n p)) = true) => (by exact absurd c68 (by rw [hq.2.2]; decide))) (fun (c68 : (Nat.testBit S (tV a n p)) = false) => ?_)
  refine ep_k1 (w := nI 1) t54_71 rfl ?_
  refine ep_gt t54_72 ?_
  refine ep_is (L' := [some (.ref 31), some (.int (nI S)), some (.int (nI 0)), some (.int (nI (tV a n p))), some (.int (nI 1))]) t54_76 rfl (Nat.le_of_ble_eq_true rfl) ?_
  refine ep_aln t54_78 rfl ?_
  refine ep_il t54_79 rfl ?_
  refine ep_val (b := bI true) (rfl) ?_
  obtain ⟨v9, g9, h9, σ1, rfl, rfl, m1, m2, m3⟩ := cl_M_takes_yes (X := X) (q := q) (σ := σ) (a := a) (n := n) (p := tN a n p) ha hn (hx) (hp2) (ht.1) (e7)
  refine ep_cv t54_81 rfl rfl (Nat.le_of_ble_eq_true rfl) (Nat.le_of_ble_eq_true rfl) (h9) ?_
  refine ep_pop t54_84 rfl ?_
  refine ep_il t54_85 rfl ?_
  refine ep_if0P t54_87 (ic0_eq (by omega)) (fun (c87 : 1 = 0) => (by omega)) (fun (c87 : ¬ (1 = 0)) => ?_)
  refine ep_iln t54_90 rfl ?_
  refine ep_k1 (w := nI 1) t54_91 rfl ?_
  refine ep_iln t54_92 rfl ?_
  refine ep_oneN (b := tV a n p) t54_93 (by omega) ?_
  refine ep_orN (a := S) (b := 2 ^ (tV a n p)) t54_94 ?_
  refine ep_gt t54_95 ?_
  refine ep_ri t54_99 (fun h => absurd h (by decide)) ?_
  exact ⟨σ1, rfl, rfl, m1, m2, m3⟩

theorem cl_gets_n {X : gX} {q : Bool} {σ : gT1} {a : Nat → Nat} {n : Nat} (ha : ∀ j, a j < 256) (hn : n ≤ 120) (hx : TxM σ a n) {p : Nat} (hp : p ≤ n) {T : Nat → Nat} {c l : Nat} (hw : WFD T c l) (ht : TokM σ a n p) (hd : DrM σ T c l) (e7 : σ 31 7 = -1) {S : Nat} (hS : S < 256) (hq : ¬ (tK a n p = 2 ∧ tV a n p < T 0 ∧ S.testBit (tV a n p) = false)) : Cl X 54 [.ref 31, .int (nI S), .int (nI 0)] (47, g_rho q, σ) (some (.int (nI S))) (47, g_rho q, g_up σ 31 7 (σ 31 5)) := by
  have h6 := hw.1.1
  have ht3 := hw.1.2.2.1
  have hk9 := tk_all (a := a) hp
  have hp2 := hk9.1.2.2.1
  have hpw := pow_le_256 (m := T 0) (by omega)
  have hpw3 := pow_le_256 (m := T 3) (by omega)
  have hwd := hw.2
  have ht12 := hw.1.2.1
  refine Cl.of ⟨Nat.le_of_ble_eq_true rfl, rfl⟩ ?_
  show EvP X 54 0 [some (.ref 31), some (.int (nI S)), some (.int (nI 0)), none, none] [] (47, g_rho q, σ) _
  refine ep_iln t54_0 rfl ?_
  refine ep_if0P t54_1 (ic0_eq (by omega)) (fun (c1 : 0 = 0) => ?_) (fun (c1 : ¬ (0 = 0)) => (by omega))
  refine ep_aln t54_31 rfl ?_
  refine ep_k1 (w := nI 0) t54_32 rfl ?_
  refine ep_aln t54_33 rfl ?_
  refine ep_getr (q := 34) t54_34 rfl (Nat.le_of_ble_eq_true rfl) rfl (rfl) ?_
  refine ep_k1 (w := nI 0) t54_37 rfl ?_
  refine ep_aldN t54_38 rfl (Nat.le_of_ble_eq_true rfl) (Nat.ne_of_beq_eq_false rfl) (Nat.le_of_ble_eq_true rfl) (by omega) ?_
  refine ep_val (b := nI (T 0)) (hd.1.1 0 (by decide)) ?_
  refine ep_k1 (w := nI 1) t54_39 rfl ?_
  refine ep_subN (a := T 0) (b := 1) t54_40 (by omega) ?_
  refine ep_cv t54_41 rfl rfl (Nat.le_of_ble_eq_true rfl) (Nat.le_of_ble_eq_true rfl) (cl_M_isNumber (p := p) hp ht (by omega) (by omega)) ?_
  refine ep_bF t54_44 (fun (c44 : (decide (tK a n p = 2 ∧ 0 ≤ tV a n p ∧ tV a n p ≤ (T 0) - 1)) = false) => ?_) (fun (c44 : (decide (tK a n p = 2 ∧ 0 ≤ tV a n p ∧ tV a n p ≤ (T 0) - 1)) = true) => ?_)
  · refine ep_k2 (w := (-9)) t54_54 rfl ?_
    refine ep_isn (L' := [some (.ref 31), some (.int (nI S)), some (.int (nI 0)), some (.int ((-9))), none]) t54_56 rfl (Nat.le_of_ble_eq_true rfl) ?_
    refine ep_iln t54_57 rfl ?_
    refine ep_k2 (w := (-9)) t54_58 rfl ?_
    refine ep_if t54_60 (fun (c60 : ((-9)) = ((-9))) => ?_) (fun (c60 : ¬ (((-9)) = ((-9)))) => (by exact absurd rfl c60))
    refine ep_k1 (w := nI 0) t54_75 rfl ?_
    refine ep_is (L' := [some (.ref 31), some (.int (nI S)), some (.int (nI 0)), some (.int ((-9))), some (.int (nI 0))]) t54_76 rfl (Nat.le_of_ble_eq_true rfl) ?_
    refine ep_aln t54_78 rfl ?_
    refine ep_il t54_79 rfl ?_
    refine ep_val (b := bI false) (rfl) ?_
    refine ep_cv t54_81 rfl rfl (Nat.le_of_ble_eq_true rfl) (Nat.le_of_ble_eq_true rfl) (cl_M_takes_no (e7)) ?_
    refine ep_pop t54_84 rfl ?_
    refine ep_il t54_85 rfl ?_
    refine ep_if0P t54_87 (ic0_eq (by omega)) (fun (c87 : 0 = 0) => ?_) (fun (c87 : ¬ (0 = 0)) => (by omega))
    refine ep_iln t54_98 rfl ?_
    refine ep_ri t54_99 (fun h => absurd h (by decide)) ?_
    exact ⟨rfl, rfl⟩
  · refine ep_aln t54_47 rfl ?_
    refine ep_get t54_48 rfl (Nat.le_of_ble_eq_true rfl) rfl ?_
    refine ep_val (b := nI (tV a n p)) (ht.2.2.2 (Or.inr (of_decide_eq_true c44).1)) ?_
    refine ep_gt t54_51 ?_
    refine ep_isn (L' := [some (.ref 31), some (.int (nI S)), some (.int (nI 0)), some (.int (nI (tV a n p))), none]) t54_56 rfl (Nat.le_of_ble_eq_true rfl) ?_
    refine ep_iln t54_57 rfl ?_
    refine ep_k2 (w := (-9)) t54_58 rfl ?_
    refine ep_if t54_60 (fun (c60 : (nI (tV a n p)) = ((-9))) => (by exact absurd c60 (nI_m9 (by have := (of_decide_eq_true c44).2.2; omega)))) (fun (c60 : ¬ ((nI (tV a n p)) = ((-9)))) => ?_)
    have hv44 := (of_decide_eq_true c44).2.2
    refine ep_iln t54_63 rfl ?_
    refine ep_iln t54_64 rfl ?_
    refine ep_cs t54_65 (Nat.ne_of_beq_eq_false rfl) rfl (Nat.le_of_ble_eq_true rfl) (cl_M_has (by omega) (by omega)) ?_
    refine ep_bT t54_68 (fun (c68 : (Nat.testBit S (tV a n p)) = true) => ?_) (fun (c68 : (Nat.testBit S (tV a n p)) = false) => (by exact absurd ⟨(of_decide_eq_true c44).1, by have := (of_decide_eq_true c44).2.2; omega, c68⟩ hq))
    refine ep_k1 (w := nI 0) t54_75 rfl ?_
    refine ep_is (L' := [some (.ref 31), some (.int (nI S)), some (.int (nI 0)), some (.int (nI (tV a n p))), some (.int (nI 0))]) t54_76 rfl (Nat.le_of_ble_eq_true rfl) ?_
    refine ep_aln t54_78 rfl ?_
    refine ep_il t54_79 rfl ?_
    refine ep_val (b := bI false) (rfl) ?_
    refine ep_cv t54_81 rfl rfl (Nat.le_of_ble_eq_true rfl) (Nat.le_of_ble_eq_true rfl) (cl_M_takes_no (e7)) ?_
    refine ep_pop t54_84 rfl ?_
    refine ep_il t54_85 rfl ?_
    refine ep_if0P t54_87 (ic0_eq (by omega)) (fun (c87 : 0 = 0) => ?_) (fun (c87 : ¬ (0 = 0)) => (by omega))
    refine ep_iln t54_98 rfl ?_
    refine ep_ri t54_99 (fun h => absurd h (by decide)) ?_
    exact ⟨rfl, rfl⟩

theorem cl_getn_y {X : gX} {q : Bool} {σ : gT1} {a : Nat → Nat} {n : Nat} (ha : ∀ j, a j < 256) (hn : n ≤ 120) (hx : TxM σ a n) {p : Nat} (hp : p ≤ n) {T : Nat → Nat} {c l : Nat} (hw : WFD T c l) (ht : TokM σ a n p) (hd : DrM σ T c l) (e7 : σ 31 7 = -1) {S : Nat} (hS : S < 256) (hS2 : S < 2 ^ T 3) (hq : tK a n p = 1 ∧ okC T S (tV a n p)) : ClP X 54 [.ref 31, .int (nI S), .int (nI 1)] (47, g_rho q, σ) (fun v g1 => ∃ σ1, v = some (.int (nI (adC T S (tV a n p)))) ∧ g1 = (47, g_rho q, σ1) ∧ (∀ r, r ≠ 31 → σ1 r = σ r) ∧ (∀ k, k ≠ 3 → k ≠ 4 → k ≠ 5 → k ≠ 6 → σ1 31 k = σ 31 k) ∧ TokM σ1 a n (tN a n p)) := by
  have h6 := hw.1.1
  have ht3 := hw.1.2.2.1
  have hk9 := tk_all (a := a) hp
  have hp2 := hk9.1.2.2.1
  have hpw := pow_le_256 (m := T 0) (by omega)
  have hpw3 := pow_le_256 (m := T 3) (by omega)
  have hwd := hw.2
  have ht12 := hw.1.2.1
  have h1 := hq.1
  have hv1 := hk9.2.2.1 h1
  have hk4 := hk9.2.2.2.2
  obtain ⟨j, hj, ej, cj⟩ := hq.2
  refine ClP.of ⟨Nat.le_of_ble_eq_true rfl, rfl⟩ ?_
  show EvP X 54 0 [some (.ref 31), some (.int (nI S)), some (.int (nI 1)), none, none] [] (47, g_rho q, σ) _
  refine ep_iln t54_0 rfl ?_
  refine ep_if0P t54_1 (ic0_eq (by omega)) (fun (c1 : 1 = 0) => (by omega)) (fun (c1 : ¬ (1 = 0)) => ?_)
  refine ep_aln t54_4 rfl ?_
  refine ep_get t54_5 rfl (Nat.le_of_ble_eq_true rfl) rfl ?_
  refine ep_val (b := nI (tK a n p)) (ht.2.2.1) ?_
  refine ep_k1 (w := nI 1) t54_8 rfl ?_
  refine ep_ifP t54_9 (ic_ne (by omega) (by omega)) (fun (c9 : ¬ (tK a n p) = 1) => (by exact absurd h1 c9)) (fun (c9 : ¬ (¬ (tK a n p) = 1)) => ?_)
  refine ep_aln t54_12 rfl ?_
  refine ep_getr (q := 34) t54_13 rfl (Nat.le_of_ble_eq_true rfl) rfl (rfl) ?_
  refine ep_aln t54_16 rfl ?_
  refine ep_get t54_17 rfl (Nat.le_of_ble_eq_true rfl) rfl ?_
  refine ep_val (b := nI (tV a n p)) (ht.2.2.2 (Or.inl h1)) ?_
  refine ep_cs t54_20 (Nat.ne_of_beq_eq_false rfl) rfl (Nat.le_of_ble_eq_true rfl) (cl_wn_y hd.1 hw.1 (by omega) hj ej) ?_
  refine ep_gt t54_23 ?_
  refine ep_isn (L' := [some (.ref 31), some (.int (nI S)), some (.int (nI 1)), some (.int (nI j)), none]) t54_56 rfl (Nat.le_of_ble_eq_true rfl) ?_
  refine ep_iln t54_57 rfl ?_
  refine ep_k2 (w := (-9)) t54_58 rfl ?_
  refine ep_if t54_60 (fun (c60 : (nI j) = ((-9))) => (by exact absurd c60 (nI_m9 (by omega)))) (fun (c60 : ¬ ((nI j) = ((-9)))) => ?_)
  refine ep_iln t54_63 rfl ?_
  refine ep_iln t54_64 rfl ?_
  refine ep_cs t54_65 (Nat.ne_of_beq_eq_false rfl) rfl (Nat.le_of_ble_eq_true rfl) (cl_M_has (by omega) (by omega)) ?_
  refine ep_bT t54_68 (fun (c68 : (Nat.testBit S j) = true) => (by exact absurd c68 (by rw [cj]; decide))) (fun (c68 : (Nat.testBit S j) = false) => ?_)
  refine ep_k1 (w := nI 1) t54_71 rfl ?_
  refine ep_gt t54_72 ?_
  refine ep_is (L' := [some (.ref 31), some (.int (nI S)), some (.int (nI 1)), some (.int (nI j)), some (.int (nI 1))]) t54_76 rfl (Nat.le_of_ble_eq_true rfl) ?_
  refine ep_aln t54_78 rfl ?_
  refine ep_il t54_79 rfl ?_
  refine ep_val (b := bI true) (rfl) ?_
  obtain ⟨v9, g9, h9, σ1, rfl, rfl, m1, m2, m3⟩ := cl_M_takes_yes (X := X) (q := q) (σ := σ) (a := a) (n := n) (p := tN a n p) ha hn (hx) (hp2) (ht.1) (e7)
  refine ep_cv t54_81 rfl rfl (Nat.le_of_ble_eq_true rfl) (Nat.le_of_ble_eq_true rfl) (h9) ?_
  refine ep_pop t54_84 rfl ?_
  refine ep_il t54_85 rfl ?_
  refine ep_if0P t54_87 (ic0_eq (by omega)) (fun (c87 : 1 = 0) => (by omega)) (fun (c87 : ¬ (1 = 0)) => ?_)
  refine ep_iln t54_90 rfl ?_
  refine ep_k1 (w := nI 1) t54_91 rfl ?_
  refine ep_iln t54_92 rfl ?_
  refine ep_oneN (b := j) t54_93 (by omega) ?_
  refine ep_orN (a := S) (b := 2 ^ j) t54_94 ?_
  refine ep_val (b := nI (adC T S (tV a n p))) (congrArg nI (ad_or hw.1 hS2 hj ej)) ?_
  refine ep_gt t54_95 ?_
  refine ep_ri t54_99 (fun h => absurd h (by decide)) ?_
  exact ⟨σ1, rfl, rfl, m1, m2, m3⟩

theorem cl_getn_n {X : gX} {q : Bool} {σ : gT1} {a : Nat → Nat} {n : Nat} (ha : ∀ j, a j < 256) (hn : n ≤ 120) (hx : TxM σ a n) {p : Nat} (hp : p ≤ n) {T : Nat → Nat} {c l : Nat} (hw : WFD T c l) (ht : TokM σ a n p) (hd : DrM σ T c l) (e7 : σ 31 7 = -1) {S : Nat} (hS : S < 256) (hq : ¬ (tK a n p = 1 ∧ okC T S (tV a n p))) : Cl X 54 [.ref 31, .int (nI S), .int (nI 1)] (47, g_rho q, σ) (some (.int (nI S))) (47, g_rho q, g_up σ 31 7 (σ 31 5)) := by
  have h6 := hw.1.1
  have ht3 := hw.1.2.2.1
  have hk9 := tk_all (a := a) hp
  have hp2 := hk9.1.2.2.1
  have hpw := pow_le_256 (m := T 0) (by omega)
  have hpw3 := pow_le_256 (m := T 3) (by omega)
  have hwd := hw.2
  have ht12 := hw.1.2.1
  have hk4 := hk9.2.2.2.2
  refine Cl.of ⟨Nat.le_of_ble_eq_true rfl, rfl⟩ ?_
  show EvP X 54 0 [some (.ref 31), some (.int (nI S)), some (.int (nI 1)), none, none] [] (47, g_rho q, σ) _
  by_cases h1 : tK a n p = 1
  · have hv1 := hk9.2.2.1 h1
    by_cases hj0 : ∃ j, j < T 3 ∧ T (12 + j) = tV a n p
    · obtain ⟨j, hj, ej⟩ := hj0
      refine ep_iln t54_0 rfl ?_
      refine ep_if0P t54_1 (ic0_eq (by omega)) (fun (c1 : 1 = 0) => (by omega)) (fun (c1 : ¬ (1 = 0)) => ?_)
      refine ep_aln t54_4 rfl ?_
      refine ep_get t54_5 rfl (Nat.le_of_ble_eq_true rfl) rfl ?_
      refine ep_val (b := nI (tK a n p)) (ht.2.2.1) ?_
      refine ep_k1 (w := nI 1) t54_8 rfl ?_
      refine ep_ifP t54_9 (ic_ne (by omega) (by omega)) (fun (c9 : ¬ (tK a n p) = 1) => (by exact absurd h1 c9)) (fun (c9 : ¬ (¬ (tK a n p) = 1)) => ?_)
      refine ep_aln t54_12 rfl ?_
      refine ep_getr (q := 34) t54_13 rfl (Nat.le_of_ble_eq_true rfl) rfl (rfl) ?_
      refine ep_aln t54_16 rfl ?_
      refine ep_get t54_17 rfl (Nat.le_of_ble_eq_true rfl) rfl ?_
      refine ep_val (b := nI (tV a n p)) (ht.2.2.2 (Or.inl h1)) ?_
      refine ep_cs t54_20 (Nat.ne_of_beq_eq_false rfl) rfl (Nat.le_of_ble_eq_true rfl) (cl_wn_y hd.1 hw.1 (by omega) hj ej) ?_
      refine ep_gt t54_23 ?_
      refine ep_isn (L' := [some (.ref 31), some (.int (nI S)), some (.int (nI 1)), some (.int (nI j)), none]) t54_56 rfl (Nat.le_of_ble_eq_true rfl) ?_
      refine ep_iln t54_57 rfl ?_
      refine ep_k2 (w := (-9)) t54_58 rfl ?_
      refine ep_if t54_60 (fun (c60 : (nI j) = ((-9))) => (by exact absurd c60 (nI_m9 (by omega)))) (fun (c60 : ¬ ((nI j) = ((-9)))) => ?_)
      refine ep_iln t54_63 rfl ?_
      refine ep_iln t54_64 rfl ?_
      refine ep_cs t54_65 (Nat.ne_of_beq_eq_false rfl) rfl (Nat.le_of_ble_eq_true rfl) (cl_M_has (by omega) (by omega)) ?_
      refine ep_bT t54_68 (fun (c68 : (Nat.testBit S j) = true) => ?_) (fun (c68 : (Nat.testBit S j) = false) => (by exact absurd ⟨h1, j, hj, ej, c68⟩ hq))
      refine ep_k1 (w := nI 0) t54_75 rfl ?_
      refine ep_is (L' := [some (.ref 31), some (.int (nI S)), some (.int (nI 1)), some (.int (nI j)), some (.int (nI 0))]) t54_76 rfl (Nat.le_of_ble_eq_true rfl) ?_
      refine ep_aln t54_78 rfl ?_
      refine ep_il t54_79 rfl ?_
      refine ep_val (b := bI false) (rfl) ?_
      refine ep_cv t54_81 rfl rfl (Nat.le_of_ble_eq_true rfl) (Nat.le_of_ble_eq_true rfl) (cl_M_takes_no (e7)) ?_
      refine ep_pop t54_84 rfl ?_
      refine ep_il t54_85 rfl ?_
      refine ep_if0P t54_87 (ic0_eq (by omega)) (fun (c87 : 0 = 0) => ?_) (fun (c87 : ¬ (0 = 0)) => (by omega))
      refine ep_iln t54_98 rfl ?_
      refine ep_ri t54_99 (fun h => absurd h (by decide)) ?_
      exact ⟨rfl, rfl⟩
    · have hno : ∀ k, k < T 3 → ¬ T (12 + k) = tV a n p := fun k hk e => hj0 ⟨k, hk, e⟩
      refine ep_iln t54_0 rfl ?_
      refine ep_if0P t54_1 (ic0_eq (by omega)) (fun (c1 : 1 = 0) => (by omega)) (fun (c1 : ¬ (1 = 0)) => ?_)
      refine ep_aln t54_4 rfl ?_
      refine ep_get t54_5 rfl (Nat.le_of_ble_eq_true rfl) rfl ?_
      refine ep_val (b := nI (tK a n p)) (ht.2.2.1) ?_
      refine ep_k1 (w := nI 1) t54_8 rfl ?_
      refine ep_ifP t54_9 (ic_ne (by omega) (by omega)) (fun (c9 : ¬ (tK a n p) = 1) => (by exact absurd h1 c9)) (fun (c9 : ¬ (¬ (tK a n p) = 1)) => ?_)
      refine ep_aln t54_12 rfl ?_
      refine ep_getr (q := 34) t54_13 rfl (Nat.le_of_ble_eq_true rfl) rfl (rfl) ?_
      refine ep_aln t54_16 rfl ?_
      refine ep_get t54_17 rfl (Nat.le_of_ble_eq_true rfl) rfl ?_
      refine ep_val (b := nI (tV a n p)) (ht.2.2.2 (Or.inl h1)) ?_
      refine ep_cs t54_20 (Nat.ne_of_beq_eq_false rfl) rfl (Nat.le_of_ble_eq_true rfl) (cl_wn_n hd.1 hw.1 (by omega) hno) ?_
      refine ep_gt t54_23 ?_
      refine ep_isn (L' := [some (.ref 31), some (.int (nI S)), some (.int (nI 1)), some (.int ((-9))), none]) t54_56 rfl (Nat.le_of_ble_eq_true rfl) ?_
      refine ep_iln t54_57 rfl ?_
      refine ep_k2 (w := (-9)) t54_58 rfl ?_
      refine ep_if t54_60 (fun (c60 : ((-9)) = ((-9))) => ?_) (fun (c60 : ¬ (((-9)) = ((-9)))) => (by exact absurd rfl c60))
      refine ep_k1 (w := nI 0) t54_75 rfl ?_
      refine ep_is (L' := [some (.ref 31), some (.int (nI S)), some (.int (nI 1)), some (.int ((-9))), some (.int (nI 0))]) t54_76 rfl (Nat.le_of_ble_eq_true rfl) ?_
      refine ep_aln t54_78 rfl ?_
      refine ep_il t54_79 rfl ?_
      refine ep_val (b := bI false) (rfl) ?_
      refine ep_cv t54_81 rfl rfl (Nat.le_of_ble_eq_true rfl) (Nat.le_of_ble_eq_true rfl) (cl_M_takes_no (e7)) ?_
      refine ep_pop t54_84 rfl ?_
      refine ep_il t54_85 rfl ?_
      refine ep_if0P t54_87 (ic0_eq (by omega)) (fun (c87 : 0 = 0) => ?_) (fun (c87 : ¬ (0 = 0)) => (by omega))
      refine ep_iln t54_98 rfl ?_
      refine ep_ri t54_99 (fun h => absurd h (by decide)) ?_
      exact ⟨rfl, rfl⟩
  · refine ep_iln t54_0 rfl ?_
    refine ep_if0P t54_1 (ic0_eq (by omega)) (fun (c1 : 1 = 0) => (by omega)) (fun (c1 : ¬ (1 = 0)) => ?_)
    refine ep_aln t54_4 rfl ?_
    refine ep_get t54_5 rfl (Nat.le_of_ble_eq_true rfl) rfl ?_
    refine ep_val (b := nI (tK a n p)) (ht.2.2.1) ?_
    refine ep_k1 (w := nI 1) t54_8 rfl ?_
    refine ep_ifP t54_9 (ic_ne (by omega) (by omega)) (fun (c9 : ¬ (tK a n p) = 1) => ?_) (fun (c9 : ¬ (¬ (tK a n p) = 1)) => (by exact absurd (Classical.byContradiction c9) h1))
    refine ep_k2 (w := (-9)) t54_26 rfl ?_
    refine ep_gt t54_28 ?_
    refine ep_isn (L' := [some (.ref 31), some (.int (nI S)), some (.int (nI 1)), some (.int ((-9))), none]) t54_56 rfl (Nat.le_of_ble_eq_true rfl) ?_
    refine ep_iln t54_57 rfl ?_
    refine ep_k2 (w := (-9)) t54_58 rfl ?_
    refine ep_if t54_60 (fun (c60 : ((-9)) = ((-9))) => ?_) (fun (c60 : ¬ (((-9)) = ((-9)))) => (by exact absurd rfl c60))
    refine ep_k1 (w := nI 0) t54_75 rfl ?_
    refine ep_is (L' := [some (.ref 31), some (.int (nI S)), some (.int (nI 1)), some (.int ((-9))), some (.int (nI 0))]) t54_76 rfl (Nat.le_of_ble_eq_true rfl) ?_
    refine ep_aln t54_78 rfl ?_
    refine ep_il t54_79 rfl ?_
    refine ep_val (b := bI false) (rfl) ?_
    refine ep_cv t54_81 rfl rfl (Nat.le_of_ble_eq_true rfl) (Nat.le_of_ble_eq_true rfl) (cl_M_takes_no (e7)) ?_
    refine ep_pop t54_84 rfl ?_
    refine ep_il t54_85 rfl ?_
    refine ep_if0P t54_87 (ic0_eq (by omega)) (fun (c87 : 0 = 0) => ?_) (fun (c87 : ¬ (0 = 0)) => (by omega))
    refine ep_iln t54_98 rfl ?_
    refine ep_ri t54_99 (fun h => absurd h (by decide)) ?_
    exact ⟨rfl, rfl⟩

theorem cl_it_n {X : gX} {q : Bool} {σ : gT1} {a : Nat → Nat} {n : Nat} (ha : ∀ j, a j < 256) (hn : n ≤ 120) (hx : TxM σ a n) {p : Nat} (hp : p ≤ n) {T : Nat → Nat} {c l : Nat} (hw : WFD T c l) (ht : TokM σ a n p) (hd : DrM σ T c l) (e7 : σ 31 7 = -1) : ClP X 56 [.ref 31, .int (nI 110)] (47, g_rho q, σ) (fun v g1 => v = none ∧ ∃ σ1, g1 = (47, g_rho q, σ1) ∧ FrM σ σ1 ∧ RMo a n σ1 (rN a n p T c l)) := by
  have h6 := hw.1.1
  have ht3 := hw.1.2.2.1
  have hk9 := tk_all (a := a) hp
  have hp2 := hk9.1.2.2.1
  have hpw := pow_le_256 (m := T 0) (by omega)
  have hpw3 := pow_le_256 (m := T 3) (by omega)
  have hwd := hw.2
  have ht12 := hw.1.2.1
  have hk4 := hk9.2.2.2.2
  refine ClP.of ⟨Nat.le_of_ble_eq_true rfl, rfl⟩ ?_
  show EvP X 56 0 [some (.ref 31), some (.int (nI 110))] [] (47, g_rho q, σ) _
  by_cases hq : tK a n p = 2 ∧ 2 ≤ tV a n p ∧ tV a n p ≤ 6
  · refine ep_iln t56_0 rfl ?_
    refine ep_k2 (w := nI 110) t56_1 rfl ?_
    refine ep_ifP t56_3 (ic_ne (by omega) (by omega)) (fun (c3 : ¬ 110 = 110) => (by omega)) (fun (c3 : ¬ (¬ 110 = 110)) => ?_)
    refine ep_aln t56_6 rfl ?_
    refine ep_getr (q := 34) t56_7 rfl (Nat.le_of_ble_eq_true rfl) rfl (rfl) ?_
    refine ep_k1 (w := nI 0) t56_10 rfl ?_
    refine ep_aln t56_11 rfl ?_
    refine ep_aln t56_12 rfl ?_
    refine ep_k1 (w := nI 2) t56_13 rfl ?_
    refine ep_k2 (w := nI 6) t56_14 rfl ?_
    refine ep_cv t56_16 rfl rfl (Nat.le_of_ble_eq_true rfl) (Nat.le_of_ble_eq_true rfl) (cl_M_isNumber (p := p) hp ht (by omega) (by omega)) ?_
    refine ep_val (b := bI true) (congrArg bI (decide_eq_true hq)) ?_
    obtain ⟨v9, g9, h9, σ1, rfl, rfl, m1, m2, m3⟩ := cl_M_takes_yes (X := X) (q := q) (σ := σ) (a := a) (n := n) (p := tN a n p) ha hn (hx) (hp2) (ht.1) (e7)
    refine ep_cv t56_19 rfl rfl (Nat.le_of_ble_eq_true rfl) (Nat.le_of_ble_eq_true rfl) (h9) ?_
    refine ep_val (b := nI (tV a n p)) (ht.2.2.2 (Or.inr hq.1)) ?_
    refine ep_astN t56_22 rfl (Nat.le_of_ble_eq_true rfl) (Nat.le_of_ble_eq_true rfl) (by omega) ?_
    refine ep_gt t56_23 ?_
    refine ep_rv t56_135 ?_
    refine ⟨rfl, _, rfl, (FrM.rf.adv m1 m2).u34, ?_⟩
    unfold rN
    rw [cif_pos hq]
    exact ⟨(m2 7 (by decide) (by decide) (by decide) (by decide)).trans e7, m3.u34, ToldM.set (i := 0) (by decide) hd.1 g_up_eq (fun j hj => (g_up_j hj).trans (congrFun (m1 34 (by decide)) j)), by show σ1 35 0 = _ ∧ σ1 35 1 = _ ∧ σ1 35 2 = _ ∧ σ1 35 3 = _ ∧ σ1 35 4 = _; rw [m1 35 (by decide)]; exact hd.2⟩
  · refine ep_iln t56_0 rfl ?_
    refine ep_k2 (w := nI 110) t56_1 rfl ?_
    refine ep_ifP t56_3 (ic_ne (by omega) (by omega)) (fun (c3 : ¬ 110 = 110) => (by omega)) (fun (c3 : ¬ (¬ 110 = 110)) => ?_)
    refine ep_aln t56_6 rfl ?_
    refine ep_getr (q := 34) t56_7 rfl (Nat.le_of_ble_eq_true rfl) rfl (rfl) ?_
    refine ep_k1 (w := nI 0) t56_10 rfl ?_
    refine ep_aln t56_11 rfl ?_
    refine ep_aln t56_12 rfl ?_
    refine ep_k1 (w := nI 2) t56_13 rfl ?_
    refine ep_k2 (w := nI 6) t56_14 rfl ?_
    refine ep_cv t56_16 rfl rfl (Nat.le_of_ble_eq_true rfl) (Nat.le_of_ble_eq_true rfl) (cl_M_isNumber (p := p) hp ht (by omega) (by omega)) ?_
    refine ep_val (b := bI false) (congrArg bI (decide_eq_false hq)) ?_
    refine ep_cv t56_19 rfl rfl (Nat.le_of_ble_eq_true rfl) (Nat.le_of_ble_eq_true rfl) (cl_M_takes_no (e7)) ?_
    refine ep_astN t56_22 rfl (Nat.le_of_ble_eq_true rfl) (Nat.le_of_ble_eq_true rfl) (by omega) ?_
    refine ep_gt t56_23 ?_
    refine ep_rv t56_135 ?_
    refine ⟨rfl, _, rfl, FrM.rf.flt.u34, ?_⟩
    unfold rN
    rw [cif_neg hq]
    exact ht.2.1

theorem cl_it_s {X : gX} {q : Bool} {σ : gT1} {a : Nat → Nat} {n : Nat} (ha : ∀ j, a j < 256) (hn : n ≤ 120) (hx : TxM σ a n) {p : Nat} (hp : p ≤ n) {T : Nat → Nat} {c l : Nat} (hw : WFD T c l) (ht : TokM σ a n p) (hd : DrM σ T c l) (e7 : σ 31 7 = -1) : ClP X 56 [.ref 31, .int (nI 115)] (47, g_rho q, σ) (fun v g1 => v = none ∧ ∃ σ1, g1 = (47, g_rho q, σ1) ∧ FrM σ σ1 ∧ RMo a n σ1 (rS a n 1 p T c l)) := by
  have h6 := hw.1.1
  have ht3 := hw.1.2.2.1
  have hk9 := tk_all (a := a) hp
  have hp2 := hk9.1.2.2.1
  have hpw := pow_le_256 (m := T 0) (by omega)
  have hpw3 := pow_le_256 (m := T 3) (by omega)
  have hwd := hw.2
  have ht12 := hw.1.2.1
  have hk4 := hk9.2.2.2.2
  refine ClP.of ⟨Nat.le_of_ble_eq_true rfl, rfl⟩ ?_
  show EvP X 56 0 [some (.ref 31), some (.int (nI 115))] [] (47, g_rho q, σ) _
  by_cases hq : tK a n p = 2 ∧ tV a n p < T 0 ∧ (T 1).testBit (tV a n p) = false
  · refine ep_iln t56_0 rfl ?_
    refine ep_k2 (w := nI 110) t56_1 rfl ?_
    refine ep_ifP t56_3 (ic_ne (by omega) (by omega)) (fun (c3 : ¬ 115 = 110) => ?_) (fun (c3 : ¬ (¬ 115 = 110)) => (by omega))
    refine ep_iln t56_26 rfl ?_
    refine ep_k2 (w := nI 115) t56_27 rfl ?_
    refine ep_ifP t56_29 (ic_ne (by omega) (by omega)) (fun (c29 : ¬ 115 = 115) => (by omega)) (fun (c29 : ¬ (¬ 115 = 115)) => ?_)
    refine ep_aln t56_32 rfl ?_
    refine ep_getr (q := 34) t56_33 rfl (Nat.le_of_ble_eq_true rfl) rfl (rfl) ?_
    refine ep_k1 (w := nI 1) t56_36 rfl ?_
    refine ep_aln t56_37 rfl ?_
    refine ep_aln t56_38 rfl ?_
    refine ep_getr (q := 34) t56_39 rfl (Nat.le_of_ble_eq_true rfl) rfl (rfl) ?_
    refine ep_k1 (w := nI 1) t56_42 rfl ?_
    refine ep_aldN t56_43 rfl (Nat.le_of_ble_eq_true rfl) (Nat.ne_of_beq_eq_false rfl) (Nat.le_of_ble_eq_true rfl) (by omega) ?_
    refine ep_val (b := nI (T 1)) (hd.1.1 1 (by decide)) ?_
    refine ep_k1 (w := nI 0) t56_44 rfl ?_
    obtain ⟨v9, g9, h9, σ1, rfl, rfl, m1, m2, m3⟩ := cl_gets_y (X := X) (S := T 1) ha hn hx hp hw ht hd e7 (by omega) hq
    refine ep_cv t56_45 rfl rfl (Nat.le_of_ble_eq_true rfl) (Nat.le_of_ble_eq_true rfl) (h9) ?_
    refine ep_astN t56_48 rfl (Nat.le_of_ble_eq_true rfl) (Nat.le_of_ble_eq_true rfl) (by omega) ?_
    refine ep_gt t56_49 ?_
    refine ep_rv t56_135 ?_
    refine ⟨rfl, _, rfl, (FrM.rf.adv m1 m2).u34, ?_⟩
    unfold rS
    rw [cif_pos hq]
    exact ⟨(m2 7 (by decide) (by decide) (by decide) (by decide)).trans e7, m3.u34, ToldM.set (i := 1) (by decide) hd.1 g_up_eq (fun j hj => (g_up_j hj).trans (congrFun (m1 34 (by decide)) j)), by show σ1 35 0 = _ ∧ σ1 35 1 = _ ∧ σ1 35 2 = _ ∧ σ1 35 3 = _ ∧ σ1 35 4 = _; rw [m1 35 (by decide)]; exact hd.2⟩
  · refine ep_iln t56_0 rfl ?_
    refine ep_k2 (w := nI 110) t56_1 rfl ?_
    refine ep_ifP t56_3 (ic_ne (by omega) (by omega)) (fun (c3 : ¬ 115 = 110) => ?_) (fun (c3 : ¬ (¬ 115 = 110)) => (by omega))
    refine ep_iln t56_26 rfl ?_
    refine ep_k2 (w := nI 115) t56_27 rfl ?_
    refine ep_ifP t56_29 (ic_ne (by omega) (by omega)) (fun (c29 : ¬ 115 = 115) => (by omega)) (fun (c29 : ¬ (¬ 115 = 115)) => ?_)
    refine ep_aln t56_32 rfl ?_
    refine ep_getr (q := 34) t56_33 rfl (Nat.le_of_ble_eq_true rfl) rfl (rfl) ?_
    refine ep_k1 (w := nI 1) t56_36 rfl ?_
    refine ep_aln t56_37 rfl ?_
    refine ep_aln t56_38 rfl ?_
    refine ep_getr (q := 34) t56_39 rfl (Nat.le_of_ble_eq_true rfl) rfl (rfl) ?_
    refine ep_k1 (w := nI 1) t56_42 rfl ?_
    refine ep_aldN t56_43 rfl (Nat.le_of_ble_eq_true rfl) (Nat.ne_of_beq_eq_false rfl) (Nat.le_of_ble_eq_true rfl) (by omega) ?_
    refine ep_val (b := nI (T 1)) (hd.1.1 1 (by decide)) ?_
    refine ep_k1 (w := nI 0) t56_44 rfl ?_
    refine ep_cv t56_45 rfl rfl (Nat.le_of_ble_eq_true rfl) (Nat.le_of_ble_eq_true rfl) (cl_gets_n (S := T 1) ha hn hx hp hw ht hd e7 (by omega) hq) ?_
    refine ep_astN t56_48 rfl (Nat.le_of_ble_eq_true rfl) (Nat.le_of_ble_eq_true rfl) (by omega) ?_
    refine ep_gt t56_49 ?_
    refine ep_rv t56_135 ?_
    refine ⟨rfl, _, rfl, FrM.rf.flt.u34, ?_⟩
    unfold rS
    rw [cif_neg hq]
    exact ht.2.1

theorem cl_it_d {X : gX} {q : Bool} {σ : gT1} {a : Nat → Nat} {n : Nat} (ha : ∀ j, a j < 256) (hn : n ≤ 120) (hx : TxM σ a n) {p : Nat} (hp : p ≤ n) {T : Nat → Nat} {c l : Nat} (hw : WFD T c l) (ht : TokM σ a n p) (hd : DrM σ T c l) (e7 : σ 31 7 = -1) : ClP X 56 [.ref 31, .int (nI 100)] (47, g_rho q, σ) (fun v g1 => v = none ∧ ∃ σ1, g1 = (47, g_rho q, σ1) ∧ FrM σ σ1 ∧ RMo a n σ1 (rS a n 2 p T c l)) := by
  have h6 := hw.1.1
  have ht3 := hw.1.2.2.1
  have hk9 := tk_all (a := a) hp
  have hp2 := hk9.1.2.2.1
  have hpw := pow_le_256 (m := T 0) (by omega)
  have hpw3 := pow_le_256 (m := T 3) (by omega)
  have hwd := hw.2
  have ht12 := hw.1.2.1
  have hk4 := hk9.2.2.2.2
  refine ClP.of ⟨Nat.le_of_ble_eq_true rfl, rfl⟩ ?_
  show EvP X 56 0 [some (.ref 31), some (.int (nI 100))] [] (47, g_rho q, σ) _
  by_cases hq : tK a n p = 2 ∧ tV a n p < T 0 ∧ (T 2).testBit (tV a n p) = false
  · refine ep_iln t56_0 rfl ?_
    refine ep_k2 (w := nI 110) t56_1 rfl ?_
    refine ep_ifP t56_3 (ic_ne (by omega) (by omega)) (fun (c3 : ¬ 100 = 110) => ?_) (fun (c3 : ¬ (¬ 100 = 110)) => (by omega))
    refine ep_iln t56_26 rfl ?_
    refine ep_k2 (w := nI 115) t56_27 rfl ?_
    refine ep_ifP t56_29 (ic_ne (by omega) (by omega)) (fun (c29 : ¬ 100 = 115) => ?_) (fun (c29 : ¬ (¬ 100 = 115)) => (by omega))
    refine ep_iln t56_52 rfl ?_
    refine ep_k2 (w := nI 100) t56_53 rfl ?_
    refine ep_ifP t56_55 (ic_ne (by omega) (by omega)) (fun (c55 : ¬ 100 = 100) => (by omega)) (fun (c55 : ¬ (¬ 100 = 100)) => ?_)
    refine ep_aln t56_58 rfl ?_
    refine ep_getr (q := 34) t56_59 rfl (Nat.le_of_ble_eq_true rfl) rfl (rfl) ?_
    refine ep_k1 (w := nI 2) t56_62 rfl ?_
    refine ep_aln t56_63 rfl ?_
    refine ep_aln t56_64 rfl ?_
    refine ep_getr (q := 34) t56_65 rfl (Nat.le_of_ble_eq_true rfl) rfl (rfl) ?_
    refine ep_k1 (w := nI 2) t56_68 rfl ?_
    refine ep_aldN t56_69 rfl (Nat.le_of_ble_eq_true rfl) (Nat.ne_of_beq_eq_false rfl) (Nat.le_of_ble_eq_true rfl) (by omega) ?_
    refine ep_val (b := nI (T 2)) (hd.1.1 2 (by decide)) ?_
    refine ep_k1 (w := nI 0) t56_70 rfl ?_
    obtain ⟨v9, g9, h9, σ1, rfl, rfl, m1, m2, m3⟩ := cl_gets_y (X := X) (S := T 2) ha hn hx hp hw ht hd e7 (by omega) hq
    refine ep_cv t56_71 rfl rfl (Nat.le_of_ble_eq_true rfl) (Nat.le_of_ble_eq_true rfl) (h9) ?_
    refine ep_astN t56_74 rfl (Nat.le_of_ble_eq_true rfl) (Nat.le_of_ble_eq_true rfl) (by omega) ?_
    refine ep_gt t56_75 ?_
    refine ep_rv t56_135 ?_
    refine ⟨rfl, _, rfl, (FrM.rf.adv m1 m2).u34, ?_⟩
    unfold rS
    rw [cif_pos hq]
    exact ⟨(m2 7 (by decide) (by decide) (by decide) (by decide)).trans e7, m3.u34, ToldM.set (i := 2) (by decide) hd.1 g_up_eq (fun j hj => (g_up_j hj).trans (congrFun (m1 34 (by decide)) j)), by show σ1 35 0 = _ ∧ σ1 35 1 = _ ∧ σ1 35 2 = _ ∧ σ1 35 3 = _ ∧ σ1 35 4 = _; rw [m1 35 (by decide)]; exact hd.2⟩
  · refine ep_iln t56_0 rfl ?_
    refine ep_k2 (w := nI 110) t56_1 rfl ?_
    refine ep_ifP t56_3 (ic_ne (by omega) (by omega)) (fun (c3 : ¬ 100 = 110) => ?_) (fun (c3 : ¬ (¬ 100 = 110)) => (by omega))
    refine ep_iln t56_26 rfl ?_
    refine ep_k2 (w := nI 115) t56_27 rfl ?_
    refine ep_ifP t56_29 (ic_ne (by omega) (by omega)) (fun (c29 : ¬ 100 = 115) => ?_) (fun (c29 : ¬ (¬ 100 = 115)) => (by omega))
    refine ep_iln t56_52 rfl ?_
    refine ep_k2 (w := nI 100) t56_53 rfl ?_
    refine ep_ifP t56_55 (ic_ne (by omega) (by omega)) (fun (c55 : ¬ 100 = 100) => (by omega)) (fun (c55 : ¬ (¬ 100 = 100)) => ?_)
    refine ep_aln t56_58 rfl ?_
    refine ep_getr (q := 34) t56_59 rfl (Nat.le_of_ble_eq_true rfl) rfl (rfl) ?_
    refine ep_k1 (w := nI 2) t56_62 rfl ?_
    refine ep_aln t56_63 rfl ?_
    refine ep_aln t56_64 rfl ?_
    refine ep_getr (q := 34) t56_65 rfl (Nat.le_of_ble_eq_true rfl) rfl (rfl) ?_
    refine ep_k1 (w := nI 2) t56_68 rfl ?_
    refine ep_aldN t56_69 rfl (Nat.le_of_ble_eq_true rfl) (Nat.ne_of_beq_eq_false rfl) (Nat.le_of_ble_eq_true rfl) (by omega) ?_
    refine ep_val (b := nI (T 2)) (hd.1.1 2 (by decide)) ?_
    refine ep_k1 (w := nI 0) t56_70 rfl ?_
    refine ep_cv t56_71 rfl rfl (Nat.le_of_ble_eq_true rfl) (Nat.le_of_ble_eq_true rfl) (cl_gets_n (S := T 2) ha hn hx hp hw ht hd e7 (by omega) hq) ?_
    refine ep_astN t56_74 rfl (Nat.le_of_ble_eq_true rfl) (Nat.le_of_ble_eq_true rfl) (by omega) ?_
    refine ep_gt t56_75 ?_
    refine ep_rv t56_135 ?_
    refine ⟨rfl, _, rfl, FrM.rf.flt.u34, ?_⟩
    unfold rS
    rw [cif_neg hq]
    exact ht.2.1

theorem cl_it_c {X : gX} {q : Bool} {σ : gT1} {a : Nat → Nat} {n : Nat} (ha : ∀ j, a j < 256) (hn : n ≤ 120) (hx : TxM σ a n) {p : Nat} (hp : p ≤ n) {T : Nat → Nat} {c l : Nat} (hw : WFD T c l) (ht : TokM σ a n p) (hd : DrM σ T c l) (e7 : σ 31 7 = -1) : ClP X 56 [.ref 31, .int (nI 99)] (47, g_rho q, σ) (fun v g1 => v = none ∧ ∃ σ1, g1 = (47, g_rho q, σ1) ∧ FrM σ σ1 ∧ RMo a n σ1 (rC a n p T c l)) := by
  have h6 := hw.1.1
  have ht3 := hw.1.2.2.1
  have hk9 := tk_all (a := a) hp
  have hp2 := hk9.1.2.2.1
  have hpw := pow_le_256 (m := T 0) (by omega)
  have hpw3 := pow_le_256 (m := T 3) (by omega)
  have hwd := hw.2
  have ht12 := hw.1.2.1
  have hk4 := hk9.2.2.2.2
  refine ClP.of ⟨Nat.le_of_ble_eq_true rfl, rfl⟩ ?_
  show EvP X 56 0 [some (.ref 31), some (.int (nI 99))] [] (47, g_rho q, σ) _
  by_cases hq : tK a n p = 1 ∧ okC T c (tV a n p)
  · refine ep_iln t56_0 rfl ?_
    refine ep_k2 (w := nI 110) t56_1 rfl ?_
    refine ep_ifP t56_3 (ic_ne (by omega) (by omega)) (fun (c3 : ¬ 99 = 110) => ?_) (fun (c3 : ¬ (¬ 99 = 110)) => (by omega))
    refine ep_iln t56_26 rfl ?_
    refine ep_k2 (w := nI 115) t56_27 rfl ?_
    refine ep_ifP t56_29 (ic_ne (by omega) (by omega)) (fun (c29 : ¬ 99 = 115) => ?_) (fun (c29 : ¬ (¬ 99 = 115)) => (by omega))
    refine ep_iln t56_52 rfl ?_
    refine ep_k2 (w := nI 100) t56_53 rfl ?_
    refine ep_ifP t56_55 (ic_ne (by omega) (by omega)) (fun (c55 : ¬ 99 = 100) => ?_) (fun (c55 : ¬ (¬ 99 = 100)) => (by omega))
    refine ep_iln t56_78 rfl ?_
    refine ep_k2 (w := nI 99) t56_79 rfl ?_
    refine ep_ifP t56_81 (ic_ne (by omega) (by omega)) (fun (c81 : ¬ 99 = 99) => (by omega)) (fun (c81 : ¬ (¬ 99 = 99)) => ?_)
    refine ep_aln t56_84 rfl ?_
    refine ep_getr (q := 35) t56_85 rfl (Nat.le_of_ble_eq_true rfl) rfl (rfl) ?_
    refine ep_k1 (w := nI 0) t56_88 rfl ?_
    refine ep_aln t56_89 rfl ?_
    refine ep_aln t56_90 rfl ?_
    refine ep_getr (q := 35) t56_91 rfl (Nat.le_of_ble_eq_true rfl) rfl (rfl) ?_
    refine ep_k1 (w := nI 0) t56_94 rfl ?_
    refine ep_aldN t56_95 rfl (Nat.le_of_ble_eq_true rfl) (Nat.ne_of_beq_eq_false rfl) (Nat.le_of_ble_eq_true rfl) (by omega) ?_
    refine ep_val (b := nI c) (hd.2.1) ?_
    refine ep_k1 (w := nI 1) t56_96 rfl ?_
    obtain ⟨v9, g9, h9, σ1, rfl, rfl, m1, m2, m3⟩ := cl_getn_y (X := X) (S := c) ha hn hx hp hw ht hd e7 (by omega) hw.2.1 hq
    refine ep_cv t56_97 rfl rfl (Nat.le_of_ble_eq_true rfl) (Nat.le_of_ble_eq_true rfl) (h9) ?_
    refine ep_astN t56_100 rfl (Nat.le_of_ble_eq_true rfl) (Nat.le_of_ble_eq_true rfl) (by omega) ?_
    refine ep_gt t56_101 ?_
    refine ep_rv t56_135 ?_
    refine ⟨rfl, _, rfl, (FrM.rf.adv m1 m2).u35, ?_⟩
    unfold rC
    rw [cif_pos hq]
    exact ⟨(m2 7 (by decide) (by decide) (by decide) (by decide)).trans e7, m3, ⟨by show ToldM (σ1 34) T; rw [m1 34 (by decide)]; exact hd.1, g_up_eq, (g_up_j (by decide)).trans ((congrFun (m1 35 (by decide)) 1).trans hd.2.2.1), (g_up_j (by decide)).trans ((congrFun (m1 35 (by decide)) 2).trans hd.2.2.2.1), (g_up_j (by decide)).trans ((congrFun (m1 35 (by decide)) 3).trans hd.2.2.2.2.1), (g_up_j (by decide)).trans ((congrFun (m1 35 (by decide)) 4).trans hd.2.2.2.2.2)⟩⟩
  · refine ep_iln t56_0 rfl ?_
    refine ep_k2 (w := nI 110) t56_1 rfl ?_
    refine ep_ifP t56_3 (ic_ne (by omega) (by omega)) (fun (c3 : ¬ 99 = 110) => ?_) (fun (c3 : ¬ (¬ 99 = 110)) => (by omega))
    refine ep_iln t56_26 rfl ?_
    refine ep_k2 (w := nI 115) t56_27 rfl ?_
    refine ep_ifP t56_29 (ic_ne (by omega) (by omega)) (fun (c29 : ¬ 99 = 115) => ?_) (fun (c29 : ¬ (¬ 99 = 115)) => (by omega))
    refine ep_iln t56_52 rfl ?_
    refine ep_k2 (w := nI 100) t56_53 rfl ?_
    refine ep_ifP t56_55 (ic_ne (by omega) (by omega)) (fun (c55 : ¬ 99 = 100) => ?_) (fun (c55 : ¬ (¬ 99 = 100)) => (by omega))
    refine ep_iln t56_78 rfl ?_
    refine ep_k2 (w := nI 99) t56_79 rfl ?_
    refine ep_ifP t56_81 (ic_ne (by omega) (by omega)) (fun (c81 : ¬ 99 = 99) => (by omega)) (fun (c81 : ¬ (¬ 99 = 99)) => ?_)
    refine ep_aln t56_84 rfl ?_
    refine ep_getr (q := 35) t56_85 rfl (Nat.le_of_ble_eq_true rfl) rfl (rfl) ?_
    refine ep_k1 (w := nI 0) t56_88 rfl ?_
    refine ep_aln t56_89 rfl ?_
    refine ep_aln t56_90 rfl ?_
    refine ep_getr (q := 35) t56_91 rfl (Nat.le_of_ble_eq_true rfl) rfl (rfl) ?_
    refine ep_k1 (w := nI 0) t56_94 rfl ?_
    refine ep_aldN t56_95 rfl (Nat.le_of_ble_eq_true rfl) (Nat.ne_of_beq_eq_false rfl) (Nat.le_of_ble_eq_true rfl) (by omega) ?_
    refine ep_val (b := nI c) (hd.2.1) ?_
    refine ep_k1 (w := nI 1) t56_96 rfl ?_
    refine ep_cv t56_97 rfl rfl (Nat.le_of_ble_eq_true rfl) (Nat.le_of_ble_eq_true rfl) (cl_getn_n (S := c) ha hn hx hp hw ht hd e7 (by omega) hq) ?_
    refine ep_astN t56_100 rfl (Nat.le_of_ble_eq_true rfl) (Nat.le_of_ble_eq_true rfl) (by omega) ?_
    refine ep_gt t56_101 ?_
    refine ep_rv t56_135 ?_
    refine ⟨rfl, _, rfl, FrM.rf.flt.u35, ?_⟩
    unfold rC
    rw [cif_neg hq]
    exact ht.2.1

theorem cl_it_k {X : gX} {q : Bool} {σ : gT1} {a : Nat → Nat} {n : Nat} (ha : ∀ j, a j < 256) (hn : n ≤ 120) (hx : TxM σ a n) {p : Nat} (hp : p ≤ n) {T : Nat → Nat} {c l : Nat} (hw : WFD T c l) (ht : TokM σ a n p) (hd : DrM σ T c l) (e7 : σ 31 7 = -1) : ClP X 56 [.ref 31, .int (nI 107)] (47, g_rho q, σ) (fun v g1 => v = none ∧ ∃ σ1, g1 = (47, g_rho q, σ1) ∧ FrM σ σ1 ∧ RMo a n σ1 (rL a n p T c l)) := by
  have h6 := hw.1.1
  have ht3 := hw.1.2.2.1
  have hk9 := tk_all (a := a) hp
  have hp2 := hk9.1.2.2.1
  have hpw := pow_le_256 (m := T 0) (by omega)
  have hpw3 := pow_le_256 (m := T 3) (by omega)
  have hwd := hw.2
  have ht12 := hw.1.2.1
  have hk4 := hk9.2.2.2.2
  refine ClP.of ⟨Nat.le_of_ble_eq_true rfl, rfl⟩ ?_
  show EvP X 56 0 [some (.ref 31), some (.int (nI 107))] [] (47, g_rho q, σ) _
  by_cases hq : tK a n p = 1 ∧ okC T l (tV a n p)
  · refine ep_iln t56_0 rfl ?_
    refine ep_k2 (w := nI 110) t56_1 rfl ?_
    refine ep_ifP t56_3 (ic_ne (by omega) (by omega)) (fun (c3 : ¬ 107 = 110) => ?_) (fun (c3 : ¬ (¬ 107 = 110)) => (by omega))
    refine ep_iln t56_26 rfl ?_
    refine ep_k2 (w := nI 115) t56_27 rfl ?_
    refine ep_ifP t56_29 (ic_ne (by omega) (by omega)) (fun (c29 : ¬ 107 = 115) => ?_) (fun (c29 : ¬ (¬ 107 = 115)) => (by omega))
    refine ep_iln t56_52 rfl ?_
    refine ep_k2 (w := nI 100) t56_53 rfl ?_
    refine ep_ifP t56_55 (ic_ne (by omega) (by omega)) (fun (c55 : ¬ 107 = 100) => ?_) (fun (c55 : ¬ (¬ 107 = 100)) => (by omega))
    refine ep_iln t56_78 rfl ?_
    refine ep_k2 (w := nI 99) t56_79 rfl ?_
    refine ep_ifP t56_81 (ic_ne (by omega) (by omega)) (fun (c81 : ¬ 107 = 99) => ?_) (fun (c81 : ¬ (¬ 107 = 99)) => (by omega))
    refine ep_iln t56_104 rfl ?_
    refine ep_k2 (w := nI 107) t56_105 rfl ?_
    refine ep_ifP t56_107 (ic_ne (by omega) (by omega)) (fun (c107 : ¬ 107 = 107) => (by omega)) (fun (c107 : ¬ (¬ 107 = 107)) => ?_)
    refine ep_aln t56_110 rfl ?_
    refine ep_getr (q := 35) t56_111 rfl (Nat.le_of_ble_eq_true rfl) rfl (rfl) ?_
    refine ep_k1 (w := nI 1) t56_114 rfl ?_
    refine ep_aln t56_115 rfl ?_
    refine ep_aln t56_116 rfl ?_
    refine ep_getr (q := 35) t56_117 rfl (Nat.le_of_ble_eq_true rfl) rfl (rfl) ?_
    refine ep_k1 (w := nI 1) t56_120 rfl ?_
    refine ep_aldN t56_121 rfl (Nat.le_of_ble_eq_true rfl) (Nat.ne_of_beq_eq_false rfl) (Nat.le_of_ble_eq_true rfl) (by omega) ?_
    refine ep_val (b := nI l) (hd.2.2.1) ?_
    refine ep_k1 (w := nI 1) t56_122 rfl ?_
    obtain ⟨v9, g9, h9, σ1, rfl, rfl, m1, m2, m3⟩ := cl_getn_y (X := X) (S := l) ha hn hx hp hw ht hd e7 (by omega) hw.2.2.1 hq
    refine ep_cv t56_123 rfl rfl (Nat.le_of_ble_eq_true rfl) (Nat.le_of_ble_eq_true rfl) (h9) ?_
    refine ep_astN t56_126 rfl (Nat.le_of_ble_eq_true rfl) (Nat.le_of_ble_eq_true rfl) (by omega) ?_
    refine ep_gt t56_127 ?_
    refine ep_rv t56_135 ?_
    refine ⟨rfl, _, rfl, (FrM.rf.adv m1 m2).u35, ?_⟩
    unfold rL
    rw [cif_pos hq]
    exact ⟨(m2 7 (by decide) (by decide) (by decide) (by decide)).trans e7, m3, ⟨by show ToldM (σ1 34) T; rw [m1 34 (by decide)]; exact hd.1, (g_up_j (by decide)).trans ((congrFun (m1 35 (by decide)) 0).trans hd.2.1), g_up_eq, (g_up_j (by decide)).trans ((congrFun (m1 35 (by decide)) 2).trans hd.2.2.2.1), (g_up_j (by decide)).trans ((congrFun (m1 35 (by decide)) 3).trans hd.2.2.2.2.1), (g_up_j (by decide)).trans ((congrFun (m1 35 (by decide)) 4).trans hd.2.2.2.2.2)⟩⟩
  · refine ep_iln t56_0 rfl ?_
    refine ep_k2 (w := nI 110) t56_1 rfl ?_
    refine ep_ifP t56_3 (ic_ne (by omega) (by omega)) (fun (c3 : ¬ 107 = 110) => ?_) (fun (c3 : ¬ (¬ 107 = 110)) => (by omega))
    refine ep_iln t56_26 rfl ?_
    refine ep_k2 (w := nI 115) t56_27 rfl ?_
    refine ep_ifP t56_29 (ic_ne (by omega) (by omega)) (fun (c29 : ¬ 107 = 115) => ?_) (fun (c29 : ¬ (¬ 107 = 115)) => (by omega))
    refine ep_iln t56_52 rfl ?_
    refine ep_k2 (w := nI 100) t56_53 rfl ?_
    refine ep_ifP t56_55 (ic_ne (by omega) (by omega)) (fun (c55 : ¬ 107 = 100) => ?_) (fun (c55 : ¬ (¬ 107 = 100)) => (by omega))
    refine ep_iln t56_78 rfl ?_
    refine ep_k2 (w := nI 99) t56_79 rfl ?_
    refine ep_ifP t56_81 (ic_ne (by omega) (by omega)) (fun (c81 : ¬ 107 = 99) => ?_) (fun (c81 : ¬ (¬ 107 = 99)) => (by omega))
    refine ep_iln t56_104 rfl ?_
    refine ep_k2 (w := nI 107) t56_105 rfl ?_
    refine ep_ifP t56_107 (ic_ne (by omega) (by omega)) (fun (c107 : ¬ 107 = 107) => (by omega)) (fun (c107 : ¬ (¬ 107 = 107)) => ?_)
    refine ep_aln t56_110 rfl ?_
    refine ep_getr (q := 35) t56_111 rfl (Nat.le_of_ble_eq_true rfl) rfl (rfl) ?_
    refine ep_k1 (w := nI 1) t56_114 rfl ?_
    refine ep_aln t56_115 rfl ?_
    refine ep_aln t56_116 rfl ?_
    refine ep_getr (q := 35) t56_117 rfl (Nat.le_of_ble_eq_true rfl) rfl (rfl) ?_
    refine ep_k1 (w := nI 1) t56_120 rfl ?_
    refine ep_aldN t56_121 rfl (Nat.le_of_ble_eq_true rfl) (Nat.ne_of_beq_eq_false rfl) (Nat.le_of_ble_eq_true rfl) (by omega) ?_
    refine ep_val (b := nI l) (hd.2.2.1) ?_
    refine ep_k1 (w := nI 1) t56_122 rfl ?_
    refine ep_cv t56_123 rfl rfl (Nat.le_of_ble_eq_true rfl) (Nat.le_of_ble_eq_true rfl) (cl_getn_n (S := l) ha hn hx hp hw ht hd e7 (by omega) hq) ?_
    refine ep_astN t56_126 rfl (Nat.le_of_ble_eq_true rfl) (Nat.le_of_ble_eq_true rfl) (by omega) ?_
    refine ep_gt t56_127 ?_
    refine ep_rv t56_135 ?_
    refine ⟨rfl, _, rfl, FrM.rf.flt.u35, ?_⟩
    unfold rL
    rw [cif_neg hq]
    exact ht.2.1

