/-! The model reads the whole text. -/
theorem cl_may_98 {X : gX} {q : Bool} {σ : gT1} {T : Nat → Nat} {items : Nat} (hi : items ≤ 121) (h3 : T 3 ≤ 8) (hd : ToldM (σ 34) T) (e6 : σ 31 6 = nI 98) : Cl X 49 [.ref 31, .int (nI items)] (47, g_rho q, σ) (some (.int (bI (decide (T 3 < 8))))) (47, g_rho q, σ) := by
  refine Cl.of ⟨Nat.le_of_ble_eq_true rfl, rfl⟩ ?_
  show EvP X 49 0 [some (.ref 31), some (.int (nI items)), none] [] (47, g_rho q, σ) _
  refine ep_aln t49_0 rfl ?_
  refine ep_get t49_1 rfl (Nat.le_of_ble_eq_true rfl) rfl ?_
  refine ep_val (b := nI 98) (e6) ?_
  refine ep_k2 (w := nI 98) t49_4 rfl ?_
  refine ep_ifP t49_6 (ic_eq (by omega) (by omega)) (fun (c6 : 98 = 98) => ?_) (fun (c6 : ¬ (98 = 98)) => (by omega))
  refine ep_k1 (w := nI 1) t49_27 rfl ?_
  refine ep_gt t49_28 ?_
  refine ep_isn (L' := [some (.ref 31), some (.int (nI items)), some (.int (nI 1))]) t49_32 rfl (Nat.le_of_ble_eq_true rfl) ?_
  refine ep_iln t49_33 rfl ?_
  refine ep_if0P t49_34 (ic0_eq (by omega)) (fun (c34 : 1 = 0) => (by omega)) (fun (c34 : ¬ (1 = 0)) => ?_)
  refine ep_aln t49_37 rfl ?_
  refine ep_getr (q := 34) t49_38 rfl (Nat.le_of_ble_eq_true rfl) rfl (rfl) ?_
  refine ep_k1 (w := nI 3) t49_41 rfl ?_
  refine ep_aldN t49_42 rfl (Nat.le_of_ble_eq_true rfl) (Nat.ne_of_beq_eq_false rfl) (Nat.le_of_ble_eq_true rfl) (by omega) ?_
  refine ep_val (b := nI (T 3)) (hd.1 3 (by decide)) ?_
  refine ep_k2 (w := nI 8) t49_43 rfl ?_
  refine ep_ifP t49_45 (ic_ge (by omega) (by omega)) (fun (c45 : 8 ≤ (T 3)) => ?_) (fun (c45 : ¬ (8 ≤ (T 3))) => ?_)
  · refine ep_k1 (w := nI 0) t49_52 rfl ?_
    refine ep_gt t49_53 ?_
    refine ep_ri t49_118 (fun _ => rfl) ?_
    refine ⟨?_, rfl⟩
    rw [show decide (T 3 < 8) = false from decide_eq_false (by omega)]
    rfl
  · refine ep_k1 (w := nI 1) t49_48 rfl ?_
    refine ep_gt t49_49 ?_
    refine ep_ri t49_118 (fun _ => rfl) ?_
    refine ⟨?_, rfl⟩
    rw [show decide (T 3 < 8) = true from decide_eq_true (by omega)]
    rfl

theorem cl_may_105 {X : gX} {q : Bool} {σ : gT1} {T : Nat → Nat} {items : Nat} (hi : items ≤ 121) (h3 : T 3 ≤ 8) (hd : ToldM (σ 34) T) (e6 : σ 31 6 = nI 105) : Cl X 49 [.ref 31, .int (nI items)] (47, g_rho q, σ) (some (.int (bI (decide (T 3 < 8))))) (47, g_rho q, σ) := by
  refine Cl.of ⟨Nat.le_of_ble_eq_true rfl, rfl⟩ ?_
  show EvP X 49 0 [some (.ref 31), some (.int (nI items)), none] [] (47, g_rho q, σ) _
  refine ep_aln t49_0 rfl ?_
  refine ep_get t49_1 rfl (Nat.le_of_ble_eq_true rfl) rfl ?_
  refine ep_val (b := nI 105) (e6) ?_
  refine ep_k2 (w := nI 98) t49_4 rfl ?_
  refine ep_ifP t49_6 (ic_eq (by omega) (by omega)) (fun (c6 : 105 = 98) => (by omega)) (fun (c6 : ¬ (105 = 98)) => ?_)
  refine ep_aln t49_9 rfl ?_
  refine ep_get t49_10 rfl (Nat.le_of_ble_eq_true rfl) rfl ?_
  refine ep_val (b := nI 105) (e6) ?_
  refine ep_k2 (w := nI 105) t49_13 rfl ?_
  refine ep_ifP t49_15 (ic_eq (by omega) (by omega)) (fun (c15 : 105 = 105) => ?_) (fun (c15 : ¬ (105 = 105)) => (by omega))
  refine ep_k1 (w := nI 1) t49_27 rfl ?_
  refine ep_gt t49_28 ?_
  refine ep_isn (L' := [some (.ref 31), some (.int (nI items)), some (.int (nI 1))]) t49_32 rfl (Nat.le_of_ble_eq_true rfl) ?_
  refine ep_iln t49_33 rfl ?_
  refine ep_if0P t49_34 (ic0_eq (by omega)) (fun (c34 : 1 = 0) => (by omega)) (fun (c34 : ¬ (1 = 0)) => ?_)
  refine ep_aln t49_37 rfl ?_
  refine ep_getr (q := 34) t49_38 rfl (Nat.le_of_ble_eq_true rfl) rfl (rfl) ?_
  refine ep_k1 (w := nI 3) t49_41 rfl ?_
  refine ep_aldN t49_42 rfl (Nat.le_of_ble_eq_true rfl) (Nat.ne_of_beq_eq_false rfl) (Nat.le_of_ble_eq_true rfl) (by omega) ?_
  refine ep_val (b := nI (T 3)) (hd.1 3 (by decide)) ?_
  refine ep_k2 (w := nI 8) t49_43 rfl ?_
  refine ep_ifP t49_45 (ic_ge (by omega) (by omega)) (fun (c45 : 8 ≤ (T 3)) => ?_) (fun (c45 : ¬ (8 ≤ (T 3))) => ?_)
  · refine ep_k1 (w := nI 0) t49_52 rfl ?_
    refine ep_gt t49_53 ?_
    refine ep_ri t49_118 (fun _ => rfl) ?_
    refine ⟨?_, rfl⟩
    rw [show decide (T 3 < 8) = false from decide_eq_false (by omega)]
    rfl
  · refine ep_k1 (w := nI 1) t49_48 rfl ?_
    refine ep_gt t49_49 ?_
    refine ep_ri t49_118 (fun _ => rfl) ?_
    refine ⟨?_, rfl⟩
    rw [show decide (T 3 < 8) = true from decide_eq_true (by omega)]
    rfl

theorem cl_may_101 {X : gX} {q : Bool} {σ : gT1} {T : Nat → Nat} {items : Nat} (hi : items ≤ 121) (h3 : T 3 ≤ 8) (hd : ToldM (σ 34) T) (e6 : σ 31 6 = nI 101) : Cl X 49 [.ref 31, .int (nI items)] (47, g_rho q, σ) (some (.int (bI (decide (T 3 < 8))))) (47, g_rho q, σ) := by
  refine Cl.of ⟨Nat.le_of_ble_eq_true rfl, rfl⟩ ?_
  show EvP X 49 0 [some (.ref 31), some (.int (nI items)), none] [] (47, g_rho q, σ) _
  refine ep_aln t49_0 rfl ?_
  refine ep_get t49_1 rfl (Nat.le_of_ble_eq_true rfl) rfl ?_
  refine ep_val (b := nI 101) (e6) ?_
  refine ep_k2 (w := nI 98) t49_4 rfl ?_
  refine ep_ifP t49_6 (ic_eq (by omega) (by omega)) (fun (c6 : 101 = 98) => (by omega)) (fun (c6 : ¬ (101 = 98)) => ?_)
  refine ep_aln t49_9 rfl ?_
  refine ep_get t49_10 rfl (Nat.le_of_ble_eq_true rfl) rfl ?_
  refine ep_val (b := nI 101) (e6) ?_
  refine ep_k2 (w := nI 105) t49_13 rfl ?_
  refine ep_ifP t49_15 (ic_eq (by omega) (by omega)) (fun (c15 : 101 = 105) => (by omega)) (fun (c15 : ¬ (101 = 105)) => ?_)
  refine ep_aln t49_18 rfl ?_
  refine ep_get t49_19 rfl (Nat.le_of_ble_eq_true rfl) rfl ?_
  refine ep_val (b := nI 101) (e6) ?_
  refine ep_k2 (w := nI 101) t49_22 rfl ?_
  refine ep_ifP t49_24 (ic_ne (by omega) (by omega)) (fun (c24 : ¬ 101 = 101) => (by omega)) (fun (c24 : ¬ (¬ 101 = 101)) => ?_)
  refine ep_k1 (w := nI 1) t49_27 rfl ?_
  refine ep_gt t49_28 ?_
  refine ep_isn (L' := [some (.ref 31), some (.int (nI items)), some (.int (nI 1))]) t49_32 rfl (Nat.le_of_ble_eq_true rfl) ?_
  refine ep_iln t49_33 rfl ?_
  refine ep_if0P t49_34 (ic0_eq (by omega)) (fun (c34 : 1 = 0) => (by omega)) (fun (c34 : ¬ (1 = 0)) => ?_)
  refine ep_aln t49_37 rfl ?_
  refine ep_getr (q := 34) t49_38 rfl (Nat.le_of_ble_eq_true rfl) rfl (rfl) ?_
  refine ep_k1 (w := nI 3) t49_41 rfl ?_
  refine ep_aldN t49_42 rfl (Nat.le_of_ble_eq_true rfl) (Nat.ne_of_beq_eq_false rfl) (Nat.le_of_ble_eq_true rfl) (by omega) ?_
  refine ep_val (b := nI (T 3)) (hd.1 3 (by decide)) ?_
  refine ep_k2 (w := nI 8) t49_43 rfl ?_
  refine ep_ifP t49_45 (ic_ge (by omega) (by omega)) (fun (c45 : 8 ≤ (T 3)) => ?_) (fun (c45 : ¬ (8 ≤ (T 3))) => ?_)
  · refine ep_k1 (w := nI 0) t49_52 rfl ?_
    refine ep_gt t49_53 ?_
    refine ep_ri t49_118 (fun _ => rfl) ?_
    refine ⟨?_, rfl⟩
    rw [show decide (T 3 < 8) = false from decide_eq_false (by omega)]
    rfl
  · refine ep_k1 (w := nI 1) t49_48 rfl ?_
    refine ep_gt t49_49 ?_
    refine ep_ri t49_118 (fun _ => rfl) ?_
    refine ⟨?_, rfl⟩
    rw [show decide (T 3 < 8) = true from decide_eq_true (by omega)]
    rfl

theorem cl_may_110 {X : gX} {q : Bool} {σ : gT1} {T : Nat → Nat} {items : Nat} (hi : items ≤ 121) (h3 : T 3 ≤ 8) (hd : ToldM (σ 34) T) (e6 : σ 31 6 = nI 110) : Cl X 49 [.ref 31, .int (nI items)] (47, g_rho q, σ) (some (.int (bI (decide (items = 0))))) (47, g_rho q, σ) := by
  refine Cl.of ⟨Nat.le_of_ble_eq_true rfl, rfl⟩ ?_
  show EvP X 49 0 [some (.ref 31), some (.int (nI items)), none] [] (47, g_rho q, σ) _
  refine ep_aln t49_0 rfl ?_
  refine ep_get t49_1 rfl (Nat.le_of_ble_eq_true rfl) rfl ?_
  refine ep_val (b := nI 110) (e6) ?_
  refine ep_k2 (w := nI 98) t49_4 rfl ?_
  refine ep_ifP t49_6 (ic_eq (by omega) (by omega)) (fun (c6 : 110 = 98) => (by omega)) (fun (c6 : ¬ (110 = 98)) => ?_)
  refine ep_aln t49_9 rfl ?_
  refine ep_get t49_10 rfl (Nat.le_of_ble_eq_true rfl) rfl ?_
  refine ep_val (b := nI 110) (e6) ?_
  refine ep_k2 (w := nI 105) t49_13 rfl ?_
  refine ep_ifP t49_15 (ic_eq (by omega) (by omega)) (fun (c15 : 110 = 105) => (by omega)) (fun (c15 : ¬ (110 = 105)) => ?_)
  refine ep_aln t49_18 rfl ?_
  refine ep_get t49_19 rfl (Nat.le_of_ble_eq_true rfl) rfl ?_
  refine ep_val (b := nI 110) (e6) ?_
  refine ep_k2 (w := nI 101) t49_22 rfl ?_
  refine ep_ifP t49_24 (ic_ne (by omega) (by omega)) (fun (c24 : ¬ 110 = 101) => ?_) (fun (c24 : ¬ (¬ 110 = 101)) => (by omega))
  refine ep_k1 (w := nI 0) t49_31 rfl ?_
  refine ep_isn (L' := [some (.ref 31), some (.int (nI items)), some (.int (nI 0))]) t49_32 rfl (Nat.le_of_ble_eq_true rfl) ?_
  refine ep_iln t49_33 rfl ?_
  refine ep_if0P t49_34 (ic0_eq (by omega)) (fun (c34 : 0 = 0) => ?_) (fun (c34 : ¬ (0 = 0)) => (by omega))
  refine ep_aln t49_56 rfl ?_
  refine ep_get t49_57 rfl (Nat.le_of_ble_eq_true rfl) rfl ?_
  refine ep_val (b := nI 110) (e6) ?_
  refine ep_k2 (w := nI 110) t49_60 rfl ?_
  refine ep_ifP t49_62 (ic_ne (by omega) (by omega)) (fun (c62 : ¬ 110 = 110) => (by omega)) (fun (c62 : ¬ (¬ 110 = 110)) => ?_)
  refine ep_iln t49_65 rfl ?_
  refine ep_if0P t49_66 (ic0_ne (by omega)) (fun (c66 : ¬ items = 0) => ?_) (fun (c66 : ¬ (¬ items = 0)) => ?_)
  · refine ep_k1 (w := nI 0) t49_73 rfl ?_
    refine ep_gt t49_74 ?_
    refine ep_ri t49_118 (fun _ => rfl) ?_
    refine ⟨?_, rfl⟩
    rw [show decide (items = 0) = false from decide_eq_false (by omega)]
    rfl
  · refine ep_k1 (w := nI 1) t49_69 rfl ?_
    refine ep_gt t49_70 ?_
    refine ep_ri t49_118 (fun _ => rfl) ?_
    refine ⟨?_, rfl⟩
    rw [show decide (items = 0) = true from decide_eq_true (by omega)]
    rfl

theorem cl_may_115 {X : gX} {q : Bool} {σ : gT1} {T : Nat → Nat} {items : Nat} (hi : items ≤ 121) (h3 : T 3 ≤ 8) (hd : ToldM (σ 34) T) (e6 : σ 31 6 = nI 115) : Cl X 49 [.ref 31, .int (nI items)] (47, g_rho q, σ) (some (.int (bI (true)))) (47, g_rho q, σ) := by
  refine Cl.of ⟨Nat.le_of_ble_eq_true rfl, rfl⟩ ?_
  show EvP X 49 0 [some (.ref 31), some (.int (nI items)), none] [] (47, g_rho q, σ) _
  refine ep_aln t49_0 rfl ?_
  refine ep_get t49_1 rfl (Nat.le_of_ble_eq_true rfl) rfl ?_
  refine ep_val (b := nI 115) (e6) ?_
  refine ep_k2 (w := nI 98) t49_4 rfl ?_
  refine ep_ifP t49_6 (ic_eq (by omega) (by omega)) (fun (c6 : 115 = 98) => (by omega)) (fun (c6 : ¬ (115 = 98)) => ?_)
  refine ep_aln t49_9 rfl ?_
  refine ep_get t49_10 rfl (Nat.le_of_ble_eq_true rfl) rfl ?_
  refine ep_val (b := nI 115) (e6) ?_
  refine ep_k2 (w := nI 105) t49_13 rfl ?_
  refine ep_ifP t49_15 (ic_eq (by omega) (by omega)) (fun (c15 : 115 = 105) => (by omega)) (fun (c15 : ¬ (115 = 105)) => ?_)
  refine ep_aln t49_18 rfl ?_
  refine ep_get t49_19 rfl (Nat.le_of_ble_eq_true rfl) rfl ?_
  refine ep_val (b := nI 115) (e6) ?_
  refine ep_k2 (w := nI 101) t49_22 rfl ?_
  refine ep_ifP t49_24 (ic_ne (by omega) (by omega)) (fun (c24 : ¬ 115 = 101) => ?_) (fun (c24 : ¬ (¬ 115 = 101)) => (by omega))
  refine ep_k1 (w := nI 0) t49_31 rfl ?_
  refine ep_isn (L' := [some (.ref 31), some (.int (nI items)), some (.int (nI 0))]) t49_32 rfl (Nat.le_of_ble_eq_true rfl) ?_
  refine ep_iln t49_33 rfl ?_
  refine ep_if0P t49_34 (ic0_eq (by omega)) (fun (c34 : 0 = 0) => ?_) (fun (c34 : ¬ (0 = 0)) => (by omega))
  refine ep_aln t49_56 rfl ?_
  refine ep_get t49_57 rfl (Nat.le_of_ble_eq_true rfl) rfl ?_
  refine ep_val (b := nI 115) (e6) ?_
  refine ep_k2 (w := nI 110) t49_60 rfl ?_
  refine ep_ifP t49_62 (ic_ne (by omega) (by omega)) (fun (c62 : ¬ 115 = 110) => ?_) (fun (c62 : ¬ (¬ 115 = 110)) => (by omega))
  refine ep_aln t49_77 rfl ?_
  refine ep_get t49_78 rfl (Nat.le_of_ble_eq_true rfl) rfl ?_
  refine ep_val (b := nI 115) (e6) ?_
  refine ep_k2 (w := nI 115) t49_81 rfl ?_
  refine ep_ifP t49_83 (ic_eq (by omega) (by omega)) (fun (c83 : 115 = 115) => ?_) (fun (c83 : ¬ (115 = 115)) => (by omega))
  refine ep_k1 (w := nI 1) t49_113 rfl ?_
  refine ep_gt t49_114 ?_
  refine ep_ri t49_118 (fun _ => rfl) ?_
  exact ⟨rfl, rfl⟩

theorem cl_may_100 {X : gX} {q : Bool} {σ : gT1} {T : Nat → Nat} {items : Nat} (hi : items ≤ 121) (h3 : T 3 ≤ 8) (hd : ToldM (σ 34) T) (e6 : σ 31 6 = nI 100) : Cl X 49 [.ref 31, .int (nI items)] (47, g_rho q, σ) (some (.int (bI (true)))) (47, g_rho q, σ) := by
  refine Cl.of ⟨Nat.le_of_ble_eq_true rfl, rfl⟩ ?_
  show EvP X 49 0 [some (.ref 31), some (.int (nI items)), none] [] (47, g_rho q, σ) _
  refine ep_aln t49_0 rfl ?_
  refine ep_get t49_1 rfl (Nat.le_of_ble_eq_true rfl) rfl ?_
  refine ep_val (b := nI 100) (e6) ?_
  refine ep_k2 (w := nI 98) t49_4 rfl ?_
  refine ep_ifP t49_6 (ic_eq (by omega) (by omega)) (fun (c6 : 100 = 98) => (by omega)) (fun (c6 : ¬ (100 = 98)) => ?_)
  refine ep_aln t49_9 rfl ?_
  refine ep_get t49_10 rfl (Nat.le_of_ble_eq_true rfl) rfl ?_
  refine ep_val (b := nI 100) (e6) ?_
  refine ep_k2 (w := nI 105) t49_13 rfl ?_
  refine ep_ifP t49_15 (ic_eq (by omega) (by omega)) (fun (c15 : 100 = 105) => (by omega)) (fun (c15 : ¬ (100 = 105)) => ?_)
  refine ep_aln t49_18 rfl ?_
  refine ep_get t49_19 rfl (Nat.le_of_ble_eq_true rfl) rfl ?_
  refine ep_val (b := nI 100) (e6) ?_
  refine ep_k2 (w := nI 101) t49_22 rfl ?_
  refine ep_ifP t49_24 (ic_ne (by omega) (by omega)) (fun (c24 : ¬ 100 = 101) => ?_) (fun (c24 : ¬ (¬ 100 = 101)) => (by omega))
  refine ep_k1 (w := nI 0) t49_31 rfl ?_
  refine ep_isn (L' := [some (.ref 31), some (.int (nI items)), some (.int (nI 0))]) t49_32 rfl (Nat.le_of_ble_eq_true rfl) ?_
  refine ep_iln t49_33 rfl ?_
  refine ep_if0P t49_34 (ic0_eq (by omega)) (fun (c34 : 0 = 0) => ?_) (fun (c34 : ¬ (0 = 0)) => (by omega))
  refine ep_aln t49_56 rfl ?_
  refine ep_get t49_57 rfl (Nat.le_of_ble_eq_true rfl) rfl ?_
  refine ep_val (b := nI 100) (e6) ?_
  refine ep_k2 (w := nI 110) t49_60 rfl ?_
  refine ep_ifP t49_62 (ic_ne (by omega) (by omega)) (fun (c62 : ¬ 100 = 110) => ?_) (fun (c62 : ¬ (¬ 100 = 110)) => (by omega))
  refine ep_aln t49_77 rfl ?_
  refine ep_get t49_78 rfl (Nat.le_of_ble_eq_true rfl) rfl ?_
  refine ep_val (b := nI 100) (e6) ?_
  refine ep_k2 (w := nI 115) t49_81 rfl ?_
  refine ep_ifP t49_83 (ic_eq (by omega) (by omega)) (fun (c83 : 100 = 115) => (by omega)) (fun (c83 : ¬ (100 = 115)) => ?_)
  refine ep_aln t49_86 rfl ?_
  refine ep_get t49_87 rfl (Nat.le_of_ble_eq_true rfl) rfl ?_
  refine ep_val (b := nI 100) (e6) ?_
  refine ep_k2 (w := nI 100) t49_90 rfl ?_
  refine ep_ifP t49_92 (ic_eq (by omega) (by omega)) (fun (c92 : 100 = 100) => ?_) (fun (c92 : ¬ (100 = 100)) => (by omega))
  refine ep_k1 (w := nI 1) t49_113 rfl ?_
  refine ep_gt t49_114 ?_
  refine ep_ri t49_118 (fun _ => rfl) ?_
  exact ⟨rfl, rfl⟩

theorem cl_may_99 {X : gX} {q : Bool} {σ : gT1} {T : Nat → Nat} {items : Nat} (hi : items ≤ 121) (h3 : T 3 ≤ 8) (hd : ToldM (σ 34) T) (e6 : σ 31 6 = nI 99) : Cl X 49 [.ref 31, .int (nI items)] (47, g_rho q, σ) (some (.int (bI (true)))) (47, g_rho q, σ) := by
  refine Cl.of ⟨Nat.le_of_ble_eq_true rfl, rfl⟩ ?_
  show EvP X 49 0 [some (.ref 31), some (.int (nI items)), none] [] (47, g_rho q, σ) _
  refine ep_aln t49_0 rfl ?_
  refine ep_get t49_1 rfl (Nat.le_of_ble_eq_true rfl) rfl ?_
  refine ep_val (b := nI 99) (e6) ?_
  refine ep_k2 (w := nI 98) t49_4 rfl ?_
  refine ep_ifP t49_6 (ic_eq (by omega) (by omega)) (fun (c6 : 99 = 98) => (by omega)) (fun (c6 : ¬ (99 = 98)) => ?_)
  refine ep_aln t49_9 rfl ?_
  refine ep_get t49_10 rfl (Nat.le_of_ble_eq_true rfl) rfl ?_
  refine ep_val (b := nI 99) (e6) ?_
  refine ep_k2 (w := nI 105) t49_13 rfl ?_
  refine ep_ifP t49_15 (ic_eq (by omega) (by omega)) (fun (c15 : 99 = 105) => (by omega)) (fun (c15 : ¬ (99 = 105)) => ?_)
  refine ep_aln t49_18 rfl ?_
  refine ep_get t49_19 rfl (Nat.le_of_ble_eq_true rfl) rfl ?_
  refine ep_val (b := nI 99) (e6) ?_
  refine ep_k2 (w := nI 101) t49_22 rfl ?_
  refine ep_ifP t49_24 (ic_ne (by omega) (by omega)) (fun (c24 : ¬ 99 = 101) => ?_) (fun (c24 : ¬ (¬ 99 = 101)) => (by omega))
  refine ep_k1 (w := nI 0) t49_31 rfl ?_
  refine ep_isn (L' := [some (.ref 31), some (.int (nI items)), some (.int (nI 0))]) t49_32 rfl (Nat.le_of_ble_eq_true rfl) ?_
  refine ep_iln t49_33 rfl ?_
  refine ep_if0P t49_34 (ic0_eq (by omega)) (fun (c34 : 0 = 0) => ?_) (fun (c34 : ¬ (0 = 0)) => (by omega))
  refine ep_aln t49_56 rfl ?_
  refine ep_get t49_57 rfl (Nat.le_of_ble_eq_true rfl) rfl ?_
  refine ep_val (b := nI 99) (e6) ?_
  refine ep_k2 (w := nI 110) t49_60 rfl ?_
  refine ep_ifP t49_62 (ic_ne (by omega) (by omega)) (fun (c62 : ¬ 99 = 110) => ?_) (fun (c62 : ¬ (¬ 99 = 110)) => (by omega))
  refine ep_aln t49_77 rfl ?_
  refine ep_get t49_78 rfl (Nat.le_of_ble_eq_true rfl) rfl ?_
  refine ep_val (b := nI 99) (e6) ?_
  refine ep_k2 (w := nI 115) t49_81 rfl ?_
  refine ep_ifP t49_83 (ic_eq (by omega) (by omega)) (fun (c83 : 99 = 115) => (by omega)) (fun (c83 : ¬ (99 = 115)) => ?_)
  refine ep_aln t49_86 rfl ?_
  refine ep_get t49_87 rfl (Nat.le_of_ble_eq_true rfl) rfl ?_
  refine ep_val (b := nI 99) (e6) ?_
  refine ep_k2 (w := nI 100) t49_90 rfl ?_
  refine ep_ifP t49_92 (ic_eq (by omega) (by omega)) (fun (c92 : 99 = 100) => (by omega)) (fun (c92 : ¬ (99 = 100)) => ?_)
  refine ep_aln t49_95 rfl ?_
  refine ep_get t49_96 rfl (Nat.le_of_ble_eq_true rfl) rfl ?_
  refine ep_val (b := nI 99) (e6) ?_
  refine ep_k2 (w := nI 99) t49_99 rfl ?_
  refine ep_ifP t49_101 (ic_eq (by omega) (by omega)) (fun (c101 : 99 = 99) => ?_) (fun (c101 : ¬ (99 = 99)) => (by omega))
  refine ep_k1 (w := nI 1) t49_113 rfl ?_
  refine ep_gt t49_114 ?_
  refine ep_ri t49_118 (fun _ => rfl) ?_
  exact ⟨rfl, rfl⟩

theorem cl_may_107 {X : gX} {q : Bool} {σ : gT1} {T : Nat → Nat} {items : Nat} (hi : items ≤ 121) (h3 : T 3 ≤ 8) (hd : ToldM (σ 34) T) (e6 : σ 31 6 = nI 107) : Cl X 49 [.ref 31, .int (nI items)] (47, g_rho q, σ) (some (.int (bI (true)))) (47, g_rho q, σ) := by
  refine Cl.of ⟨Nat.le_of_ble_eq_true rfl, rfl⟩ ?_
  show EvP X 49 0 [some (.ref 31), some (.int (nI items)), none] [] (47, g_rho q, σ) _
  refine ep_aln t49_0 rfl ?_
  refine ep_get t49_1 rfl (Nat.le_of_ble_eq_true rfl) rfl ?_
  refine ep_val (b := nI 107) (e6) ?_
  refine ep_k2 (w := nI 98) t49_4 rfl ?_
  refine ep_ifP t49_6 (ic_eq (by omega) (by omega)) (fun (c6 : 107 = 98) => (by omega)) (fun (c6 : ¬ (107 = 98)) => ?_)
  refine ep_aln t49_9 rfl ?_
  refine ep_get t49_10 rfl (Nat.le_of_ble_eq_true rfl) rfl ?_
  refine ep_val (b := nI 107) (e6) ?_
  refine ep_k2 (w := nI 105) t49_13 rfl ?_
  refine ep_ifP t49_15 (ic_eq (by omega) (by omega)) (fun (c15 : 107 = 105) => (by omega)) (fun (c15 : ¬ (107 = 105)) => ?_)
  refine ep_aln t49_18 rfl ?_
  refine ep_get t49_19 rfl (Nat.le_of_ble_eq_true rfl) rfl ?_
  refine ep_val (b := nI 107) (e6) ?_
  refine ep_k2 (w := nI 101) t49_22 rfl ?_
  refine ep_ifP t49_24 (ic_ne (by omega) (by omega)) (fun (c24 : ¬ 107 = 101) => ?_) (fun (c24 : ¬ (¬ 107 = 101)) => (by omega))
  refine ep_k1 (w := nI 0) t49_31 rfl ?_
  refine ep_isn (L' := [some (.ref 31), some (.int (nI items)), some (.int (nI 0))]) t49_32 rfl (Nat.le_of_ble_eq_true rfl) ?_
  refine ep_iln t49_33 rfl ?_
  refine ep_if0P t49_34 (ic0_eq (by omega)) (fun (c34 : 0 = 0) => ?_) (fun (c34 : ¬ (0 = 0)) => (by omega))
  refine ep_aln t49_56 rfl ?_
  refine ep_get t49_57 rfl (Nat.le_of_ble_eq_true rfl) rfl ?_
  refine ep_val (b := nI 107) (e6) ?_
  refine ep_k2 (w := nI 110) t49_60 rfl ?_
  refine ep_ifP t49_62 (ic_ne (by omega) (by omega)) (fun (c62 : ¬ 107 = 110) => ?_) (fun (c62 : ¬ (¬ 107 = 110)) => (by omega))
  refine ep_aln t49_77 rfl ?_
  refine ep_get t49_78 rfl (Nat.le_of_ble_eq_true rfl) rfl ?_
  refine ep_val (b := nI 107) (e6) ?_
  refine ep_k2 (w := nI 115) t49_81 rfl ?_
  refine ep_ifP t49_83 (ic_eq (by omega) (by omega)) (fun (c83 : 107 = 115) => (by omega)) (fun (c83 : ¬ (107 = 115)) => ?_)
  refine ep_aln t49_86 rfl ?_
  refine ep_get t49_87 rfl (Nat.le_of_ble_eq_true rfl) rfl ?_
  refine ep_val (b := nI 107) (e6) ?_
  refine ep_k2 (w := nI 100) t49_90 rfl ?_
  refine ep_ifP t49_92 (ic_eq (by omega) (by omega)) (fun (c92 : 107 = 100) => (by omega)) (fun (c92 : ¬ (107 = 100)) => ?_)
  refine ep_aln t49_95 rfl ?_
  refine ep_get t49_96 rfl (Nat.le_of_ble_eq_true rfl) rfl ?_
  refine ep_val (b := nI 107) (e6) ?_
  refine ep_k2 (w := nI 99) t49_99 rfl ?_
  refine ep_ifP t49_101 (ic_eq (by omega) (by omega)) (fun (c101 : 107 = 99) => (by omega)) (fun (c101 : ¬ (107 = 99)) => ?_)
  refine ep_aln t49_104 rfl ?_
  refine ep_get t49_105 rfl (Nat.le_of_ble_eq_true rfl) rfl ?_
  refine ep_val (b := nI 107) (e6) ?_
  refine ep_k2 (w := nI 107) t49_108 rfl ?_
  refine ep_ifP t49_110 (ic_ne (by omega) (by omega)) (fun (c110 : ¬ 107 = 107) => (by omega)) (fun (c110 : ¬ (¬ 107 = 107)) => ?_)
  refine ep_k1 (w := nI 1) t49_113 rfl ?_
  refine ep_gt t49_114 ?_
  refine ep_ri t49_118 (fun _ => rfl) ?_
  exact ⟨rfl, rfl⟩

theorem cl_may_o {X : gX} {q : Bool} {σ : gT1} {items V : Nat} (hV : V < 256) (hne : V ≠ 98 ∧ V ≠ 105 ∧ V ≠ 101 ∧ V ≠ 110 ∧ V ≠ 115 ∧ V ≠ 100 ∧ V ≠ 99 ∧ V ≠ 107) (e6 : σ 31 6 = nI V) : Cl X 49 [.ref 31, .int (nI items)] (47, g_rho q, σ) (some (.int (bI false))) (47, g_rho q, σ) := by
  refine Cl.of ⟨Nat.le_of_ble_eq_true rfl, rfl⟩ ?_
  show EvP X 49 0 [some (.ref 31), some (.int (nI items)), none] [] (47, g_rho q, σ) _
  refine ep_aln t49_0 rfl ?_
  refine ep_get t49_1 rfl (Nat.le_of_ble_eq_true rfl) rfl ?_
  refine ep_val (b := nI V) (e6) ?_
  refine ep_k2 (w := nI 98) t49_4 rfl ?_
  refine ep_ifP t49_6 (ic_eq (by omega) (by omega)) (fun (c6 : V = 98) => (by omega)) (fun (c6 : ¬ (V = 98)) => ?_)
  refine ep_aln t49_9 rfl ?_
  refine ep_get t49_10 rfl (Nat.le_of_ble_eq_true rfl) rfl ?_
  refine ep_val (b := nI V) (e6) ?_
  refine ep_k2 (w := nI 105) t49_13 rfl ?_
  refine ep_ifP t49_15 (ic_eq (by omega) (by omega)) (fun (c15 : V = 105) => (by omega)) (fun (c15 : ¬ (V = 105)) => ?_)
  refine ep_aln t49_18 rfl ?_
  refine ep_get t49_19 rfl (Nat.le_of_ble_eq_true rfl) rfl ?_
  refine ep_val (b := nI V) (e6) ?_
  refine ep_k2 (w := nI 101) t49_22 rfl ?_
  refine ep_ifP t49_24 (ic_ne (by omega) (by omega)) (fun (c24 : ¬ V = 101) => ?_) (fun (c24 : ¬ (¬ V = 101)) => (by omega))
  refine ep_k1 (w := nI 0) t49_31 rfl ?_
  refine ep_isn (L' := [some (.ref 31), some (.int (nI items)), some (.int (nI 0))]) t49_32 rfl (Nat.le_of_ble_eq_true rfl) ?_
  refine ep_iln t49_33 rfl ?_
  refine ep_if0P t49_34 (ic0_eq (by omega)) (fun (c34 : 0 = 0) => ?_) (fun (c34 : ¬ (0 = 0)) => (by omega))
  refine ep_aln t49_56 rfl ?_
  refine ep_get t49_57 rfl (Nat.le_of_ble_eq_true rfl) rfl ?_
  refine ep_val (b := nI V) (e6) ?_
  refine ep_k2 (w := nI 110) t49_60 rfl ?_
  refine ep_ifP t49_62 (ic_ne (by omega) (by omega)) (fun (c62 : ¬ V = 110) => ?_) (fun (c62 : ¬ (¬ V = 110)) => (by omega))
  refine ep_aln t49_77 rfl ?_
  refine ep_get t49_78 rfl (Nat.le_of_ble_eq_true rfl) rfl ?_
  refine ep_val (b := nI V) (e6) ?_
  refine ep_k2 (w := nI 115) t49_81 rfl ?_
  refine ep_ifP t49_83 (ic_eq (by omega) (by omega)) (fun (c83 : V = 115) => (by omega)) (fun (c83 : ¬ (V = 115)) => ?_)
  refine ep_aln t49_86 rfl ?_
  refine ep_get t49_87 rfl (Nat.le_of_ble_eq_true rfl) rfl ?_
  refine ep_val (b := nI V) (e6) ?_
  refine ep_k2 (w := nI 100) t49_90 rfl ?_
  refine ep_ifP t49_92 (ic_eq (by omega) (by omega)) (fun (c92 : V = 100) => (by omega)) (fun (c92 : ¬ (V = 100)) => ?_)
  refine ep_aln t49_95 rfl ?_
  refine ep_get t49_96 rfl (Nat.le_of_ble_eq_true rfl) rfl ?_
  refine ep_val (b := nI V) (e6) ?_
  refine ep_k2 (w := nI 99) t49_99 rfl ?_
  refine ep_ifP t49_101 (ic_eq (by omega) (by omega)) (fun (c101 : V = 99) => (by omega)) (fun (c101 : ¬ (V = 99)) => ?_)
  refine ep_aln t49_104 rfl ?_
  refine ep_get t49_105 rfl (Nat.le_of_ble_eq_true rfl) rfl ?_
  refine ep_val (b := nI V) (e6) ?_
  refine ep_k2 (w := nI 107) t49_108 rfl ?_
  refine ep_ifP t49_110 (ic_ne (by omega) (by omega)) (fun (c110 : ¬ V = 107) => ?_) (fun (c110 : ¬ (¬ V = 107)) => (by omega))
  refine ep_k1 (w := nI 0) t49_117 rfl ?_
  refine ep_ri t49_118 (fun _ => rfl) ?_
  exact ⟨rfl, rfl⟩

theorem E_item {X : gX} {q : Bool} {σ : gT1} {a : Nat → Nat} {n : Nat} (ha : ∀ j, a j < 256) (hn : n ≤ 120) (hx : TxM σ a n) {p : Nat} (hp : p ≤ n) {T : Nat → Nat} {c l : Nat} (hw : WFD T c l) (ht : TokM σ a n p) (hd : DrM σ T c l) (e7 : σ 31 7 = -1) {items : Nat} (hit : items ≤ 120) {o2 : Option Value} {P : Option Value → gS → Prop} (K : ∀ (σ1 : gT1) (o2 : Option Value), FrM σ σ1 → RMo a n σ1 (itm a n p items T c l) → EvP X 63 77 [some (.ref 31), some (.int (nI items)), o2] [] (47, g_rho q, σ1) P) : EvP X 63 39 [some (.ref 31), some (.int (nI items)), o2] [] (47, g_rho q, σ) P := by
  have h6 := hw.1.1
  have ht3 := hw.1.2.2.1
  have hk9 := tk_all (a := a) hp
  have hp2 := hk9.1.2.2.1
  have hpw := pow_le_256 (m := T 0) (by omega)
  have hpw3 := pow_le_256 (m := T 3) (by omega)
  have hwd := hw.2
  have ht12 := hw.1.2.1
  have hk4 := hk9.2.2.2.2
  by_cases h1 : tK a n p = 1
  · unfold itm at K
    rw [if_pos h1] at K
    have hv := hk9.2.2.1 h1
    obtain ⟨V, eV⟩ : ∃ V, V = tV a n p := ⟨_, rfl⟩
    rw [← eV] at hv K
    by_cases hne : V ≠ 98 ∧ V ≠ 105 ∧ V ≠ 101 ∧ V ≠ 110 ∧ V ≠ 115 ∧ V ≠ 100 ∧ V ≠ 99 ∧ V ≠ 107
    · have hK : itL a n V items (tS a n p) (tN a n p) T c l = .inl (tS a n p) := by unfold itL; rw [if_neg (by omega), if_neg (by omega), if_neg (by omega), if_neg (by omega), if_neg (by omega), if_neg (by omega), if_neg (by omega), if_neg (by omega)]
      rw [hK] at K
      refine ep_aln t63_39 rfl ?_
      refine ep_aln t63_40 rfl ?_
      refine ep_get t63_41 rfl (Nat.le_of_ble_eq_true rfl) rfl ?_
      refine ep_val (b := nI (tK a n p)) (ht.2.2.1) ?_
      refine ep_k1 (w := nI 1) t63_44 rfl ?_
      refine ep_ifP t63_45 (ic_ne (by omega) (by omega)) (fun (c45 : ¬ (tK a n p) = 1) => (by exact absurd h1 c45)) (fun (c45 : ¬ (¬ (tK a n p) = 1)) => ?_)
      refine ep_aln t63_48 rfl ?_
      refine ep_iln t63_49 rfl ?_
      refine ep_cv t63_50 rfl rfl (Nat.le_of_ble_eq_true rfl) (Nat.le_of_ble_eq_true rfl) (cl_may_o (by omega) hne ((ht.2.2.2 (Or.inl h1)).trans (by rw [← eV]))) ?_
      refine ep_bF t63_53 (fun (c53 : false = false) => ?_) (fun (c53 : false = true) => (by exact absurd c53 (by decide)))
      refine ep_k1 (w := nI 0) t63_60 rfl ?_
      refine ep_val (b := bI false) (rfl) ?_
      refine ep_cv t63_61 rfl rfl (Nat.le_of_ble_eq_true rfl) (Nat.le_of_ble_eq_true rfl) (cl_M_takes_no (e7)) ?_
      refine ep_isn (L' := [some (.ref 31), some (.int (nI items)), some (.int (nI 0))]) t63_64 rfl (Nat.le_of_ble_eq_true rfl) ?_
      refine ep_aln t63_65 rfl ?_
      refine ep_cv t63_66 rfl rfl (Nat.le_of_ble_eq_true rfl) (Nat.le_of_ble_eq_true rfl) (cl_M_well_f (f := tS a n p) (by omega) ht.2.1) ?_
      refine ep_bF t63_69 (fun (c69 : false = false) => ?_) (fun (c69 : false = true) => (by exact absurd c69 (by decide)))
      exact K _ _ FrM.rf.flt ht.2.1
    · obtain rfl | rfl | rfl | rfl | rfl | rfl | rfl | rfl : V = 98 ∨ V = 105 ∨ V = 101 ∨ V = 110 ∨ V = 115 ∨ V = 100 ∨ V = 99 ∨ V = 107 := by omega
      · by_cases hm : T 3 < 8
        · refine ep_aln t63_39 rfl ?_
          refine ep_aln t63_40 rfl ?_
          refine ep_get t63_41 rfl (Nat.le_of_ble_eq_true rfl) rfl ?_
          refine ep_val (b := nI (tK a n p)) (ht.2.2.1) ?_
          refine ep_k1 (w := nI 1) t63_44 rfl ?_
          refine ep_ifP t63_45 (ic_ne (by omega) (by omega)) (fun (c45 : ¬ (tK a n p) = 1) => (by exact absurd h1 c45)) (fun (c45 : ¬ (¬ (tK a n p) = 1)) => ?_)
          refine ep_aln t63_48 rfl ?_
          refine ep_iln t63_49 rfl ?_
          refine ep_cv t63_50 rfl rfl (Nat.le_of_ble_eq_true rfl) (Nat.le_of_ble_eq_true rfl) (cl_may_98 (by omega) ht3 hd.1 ((ht.2.2.2 (Or.inl h1)).trans (by rw [← eV]))) ?_
          refine ep_val (b := bI true) (congrArg bI (decide_eq_true hm)) ?_
          refine ep_bF t63_53 (fun (c53 : true = false) => (by exact absurd c53 (by decide))) (fun (c53 : true = true) => ?_)
          refine ep_k1 (w := nI 1) t63_56 rfl ?_
          refine ep_val (b := bI true) (rfl) ?_
          refine ep_gt t63_57 ?_
          obtain ⟨v9, g9, h9, σ1, rfl, rfl, m1, m2, m3⟩ := cl_M_takes_yes (X := X) (q := q) (σ := σ) (a := a) (n := n) (p := tN a n p) ha hn (hx) (hp2) (ht.1) (e7)
          refine ep_cv t63_61 rfl rfl (Nat.le_of_ble_eq_true rfl) (Nat.le_of_ble_eq_true rfl) (h9) ?_
          refine ep_val (b := nI 98) ((ht.2.2.2 (Or.inl h1)).trans (by rw [← eV])) ?_
          refine ep_isn (L' := [some (.ref 31), some (.int (nI items)), some (.int (nI 98))]) t63_64 rfl (Nat.le_of_ble_eq_true rfl) ?_
          refine ep_aln t63_65 rfl ?_
          refine ep_cv t63_66 rfl rfl (Nat.le_of_ble_eq_true rfl) (Nat.le_of_ble_eq_true rfl) (cl_M_well ((m2 7 (by decide) (by decide) (by decide) (by decide)).trans e7)) ?_
          refine ep_bF t63_69 (fun (c69 : true = false) => (by exact absurd c69 (by decide))) (fun (c69 : true = true) => ?_)
          refine ep_aln t63_72 rfl ?_
          refine ep_iln t63_73 rfl ?_
          obtain ⟨v8, g8, h8_, rfl, σ2, rfl, r1, r2⟩ := cl_it_98 (X := X) (q := q) (σ := σ1) (a := a) (n := n) (p := tN a n p) (T := T) (c := c) (l := l) (f := tS a n p) ha hn ((FrM.rf.adv m1 m2).tx hx) hp2 hw m3 (hd.fr (m1 34 (by decide)) (m1 35 (by decide))) ((m2 7 (by decide) (by decide) (by decide) (by decide)).trans e7) hm
          refine ep_cv t63_74 rfl rfl (Nat.le_of_ble_eq_true rfl) (Nat.le_of_ble_eq_true rfl) (h8_) ?_
          exact K σ2 _ ((FrM.rf.adv m1 m2).tr r1) r2
        · have hK : itL a n 98 items (tS a n p) (tN a n p) T c l = .inl (tS a n p) := (rfl : _ = rW a n 0 (tS a n p) (tN a n p) T c l).trans (cif_neg hm)
          rw [hK] at K
          refine ep_aln t63_39 rfl ?_
          refine ep_aln t63_40 rfl ?_
          refine ep_get t63_41 rfl (Nat.le_of_ble_eq_true rfl) rfl ?_
          refine ep_val (b := nI (tK a n p)) (ht.2.2.1) ?_
          refine ep_k1 (w := nI 1) t63_44 rfl ?_
          refine ep_ifP t63_45 (ic_ne (by omega) (by omega)) (fun (c45 : ¬ (tK a n p) = 1) => (by exact absurd h1 c45)) (fun (c45 : ¬ (¬ (tK a n p) = 1)) => ?_)
          refine ep_aln t63_48 rfl ?_
          refine ep_iln t63_49 rfl ?_
          refine ep_cv t63_50 rfl rfl (Nat.le_of_ble_eq_true rfl) (Nat.le_of_ble_eq_true rfl) (cl_may_98 (by omega) ht3 hd.1 ((ht.2.2.2 (Or.inl h1)).trans (by rw [← eV]))) ?_
          refine ep_val (b := bI false) (congrArg bI (decide_eq_false hm)) ?_
          refine ep_bF t63_53 (fun (c53 : false = false) => ?_) (fun (c53 : false = true) => (by exact absurd c53 (by decide)))
          refine ep_k1 (w := nI 0) t63_60 rfl ?_
          refine ep_val (b := bI false) (rfl) ?_
          refine ep_cv t63_61 rfl rfl (Nat.le_of_ble_eq_true rfl) (Nat.le_of_ble_eq_true rfl) (cl_M_takes_no (e7)) ?_
          refine ep_isn (L' := [some (.ref 31), some (.int (nI items)), some (.int (nI 0))]) t63_64 rfl (Nat.le_of_ble_eq_true rfl) ?_
          refine ep_aln t63_65 rfl ?_
          refine ep_cv t63_66 rfl rfl (Nat.le_of_ble_eq_true rfl) (Nat.le_of_ble_eq_true rfl) (cl_M_well_f (f := tS a n p) (by omega) ht.2.1) ?_
          refine ep_bF t63_69 (fun (c69 : false = false) => ?_) (fun (c69 : false = true) => (by exact absurd c69 (by decide)))
          exact K _ _ FrM.rf.flt ht.2.1
      · by_cases hm : T 3 < 8
        · refine ep_aln t63_39 rfl ?_
          refine ep_aln t63_40 rfl ?_
          refine ep_get t63_41 rfl (Nat.le_of_ble_eq_true rfl) rfl ?_
          refine ep_val (b := nI (tK a n p)) (ht.2.2.1) ?_
          refine ep_k1 (w := nI 1) t63_44 rfl ?_
          refine ep_ifP t63_45 (ic_ne (by omega) (by omega)) (fun (c45 : ¬ (tK a n p) = 1) => (by exact absurd h1 c45)) (fun (c45 : ¬ (¬ (tK a n p) = 1)) => ?_)
          refine ep_aln t63_48 rfl ?_
          refine ep_iln t63_49 rfl ?_
          refine ep_cv t63_50 rfl rfl (Nat.le_of_ble_eq_true rfl) (Nat.le_of_ble_eq_true rfl) (cl_may_105 (by omega) ht3 hd.1 ((ht.2.2.2 (Or.inl h1)).trans (by rw [← eV]))) ?_
          refine ep_val (b := bI true) (congrArg bI (decide_eq_true hm)) ?_
          refine ep_bF t63_53 (fun (c53 : true = false) => (by exact absurd c53 (by decide))) (fun (c53 : true = true) => ?_)
          refine ep_k1 (w := nI 1) t63_56 rfl ?_
          refine ep_val (b := bI true) (rfl) ?_
          refine ep_gt t63_57 ?_
          obtain ⟨v9, g9, h9, σ1, rfl, rfl, m1, m2, m3⟩ := cl_M_takes_yes (X := X) (q := q) (σ := σ) (a := a) (n := n) (p := tN a n p) ha hn (hx) (hp2) (ht.1) (e7)
          refine ep_cv t63_61 rfl rfl (Nat.le_of_ble_eq_true rfl) (Nat.le_of_ble_eq_true rfl) (h9) ?_
          refine ep_val (b := nI 105) ((ht.2.2.2 (Or.inl h1)).trans (by rw [← eV])) ?_
          refine ep_isn (L' := [some (.ref 31), some (.int (nI items)), some (.int (nI 105))]) t63_64 rfl (Nat.le_of_ble_eq_true rfl) ?_
          refine ep_aln t63_65 rfl ?_
          refine ep_cv t63_66 rfl rfl (Nat.le_of_ble_eq_true rfl) (Nat.le_of_ble_eq_true rfl) (cl_M_well ((m2 7 (by decide) (by decide) (by decide) (by decide)).trans e7)) ?_
          refine ep_bF t63_69 (fun (c69 : true = false) => (by exact absurd c69 (by decide))) (fun (c69 : true = true) => ?_)
          refine ep_aln t63_72 rfl ?_
          refine ep_iln t63_73 rfl ?_
          obtain ⟨v8, g8, h8_, rfl, σ2, rfl, r1, r2⟩ := cl_it_105 (X := X) (q := q) (σ := σ1) (a := a) (n := n) (p := tN a n p) (T := T) (c := c) (l := l) (f := tS a n p) ha hn ((FrM.rf.adv m1 m2).tx hx) hp2 hw m3 (hd.fr (m1 34 (by decide)) (m1 35 (by decide))) ((m2 7 (by decide) (by decide) (by decide) (by decide)).trans e7) hm
          refine ep_cv t63_74 rfl rfl (Nat.le_of_ble_eq_true rfl) (Nat.le_of_ble_eq_true rfl) (h8_) ?_
          exact K σ2 _ ((FrM.rf.adv m1 m2).tr r1) r2
        · have hK : itL a n 105 items (tS a n p) (tN a n p) T c l = .inl (tS a n p) := (rfl : _ = rW a n 1 (tS a n p) (tN a n p) T c l).trans (cif_neg hm)
          rw [hK] at K
          refine ep_aln t63_39 rfl ?_
          refine ep_aln t63_40 rfl ?_
          refine ep_get t63_41 rfl (Nat.le_of_ble_eq_true rfl) rfl ?_
          refine ep_val (b := nI (tK a n p)) (ht.2.2.1) ?_
          refine ep_k1 (w := nI 1) t63_44 rfl ?_
          refine ep_ifP t63_45 (ic_ne (by omega) (by omega)) (fun (c45 : ¬ (tK a n p) = 1) => (by exact absurd h1 c45)) (fun (c45 : ¬ (¬ (tK a n p) = 1)) => ?_)
          refine ep_aln t63_48 rfl ?_
          refine ep_iln t63_49 rfl ?_
          refine ep_cv t63_50 rfl rfl (Nat.le_of_ble_eq_true rfl) (Nat.le_of_ble_eq_true rfl) (cl_may_105 (by omega) ht3 hd.1 ((ht.2.2.2 (Or.inl h1)).trans (by rw [← eV]))) ?_
          refine ep_val (b := bI false) (congrArg bI (decide_eq_false hm)) ?_
          refine ep_bF t63_53 (fun (c53 : false = false) => ?_) (fun (c53 : false = true) => (by exact absurd c53 (by decide)))
          refine ep_k1 (w := nI 0) t63_60 rfl ?_
          refine ep_val (b := bI false) (rfl) ?_
          refine ep_cv t63_61 rfl rfl (Nat.le_of_ble_eq_true rfl) (Nat.le_of_ble_eq_true rfl) (cl_M_takes_no (e7)) ?_
          refine ep_isn (L' := [some (.ref 31), some (.int (nI items)), some (.int (nI 0))]) t63_64 rfl (Nat.le_of_ble_eq_true rfl) ?_
          refine ep_aln t63_65 rfl ?_
          refine ep_cv t63_66 rfl rfl (Nat.le_of_ble_eq_true rfl) (Nat.le_of_ble_eq_true rfl) (cl_M_well_f (f := tS a n p) (by omega) ht.2.1) ?_
          refine ep_bF t63_69 (fun (c69 : false = false) => ?_) (fun (c69 : false = true) => (by exact absurd c69 (by decide)))
          exact K _ _ FrM.rf.flt ht.2.1
      · by_cases hm : T 3 < 8
        · refine ep_aln t63_39 rfl ?_
          refine ep_aln t63_40 rfl ?_
          refine ep_get t63_41 rfl (Nat.le_of_ble_eq_true rfl) rfl ?_
          refine ep_val (b := nI (tK a n p)) (ht.2.2.1) ?_
          refine ep_k1 (w := nI 1) t63_44 rfl ?_
          refine ep_ifP t63_45 (ic_ne (by omega) (by omega)) (fun (c45 : ¬ (tK a n p) = 1) => (by exact absurd h1 c45)) (fun (c45 : ¬ (¬ (tK a n p) = 1)) => ?_)
          refine ep_aln t63_48 rfl ?_
          refine ep_iln t63_49 rfl ?_
          refine ep_cv t63_50 rfl rfl (Nat.le_of_ble_eq_true rfl) (Nat.le_of_ble_eq_true rfl) (cl_may_101 (by omega) ht3 hd.1 ((ht.2.2.2 (Or.inl h1)).trans (by rw [← eV]))) ?_
          refine ep_val (b := bI true) (congrArg bI (decide_eq_true hm)) ?_
          refine ep_bF t63_53 (fun (c53 : true = false) => (by exact absurd c53 (by decide))) (fun (c53 : true = true) => ?_)
          refine ep_k1 (w := nI 1) t63_56 rfl ?_
          refine ep_val (b := bI true) (rfl) ?_
          refine ep_gt t63_57 ?_
          obtain ⟨v9, g9, h9, σ1, rfl, rfl, m1, m2, m3⟩ := cl_M_takes_yes (X := X) (q := q) (σ := σ) (a := a) (n := n) (p := tN a n p) ha hn (hx) (hp2) (ht.1) (e7)
          refine ep_cv t63_61 rfl rfl (Nat.le_of_ble_eq_true rfl) (Nat.le_of_ble_eq_true rfl) (h9) ?_
          refine ep_val (b := nI 101) ((ht.2.2.2 (Or.inl h1)).trans (by rw [← eV])) ?_
          refine ep_isn (L' := [some (.ref 31), some (.int (nI items)), some (.int (nI 101))]) t63_64 rfl (Nat.le_of_ble_eq_true rfl) ?_
          refine ep_aln t63_65 rfl ?_
          refine ep_cv t63_66 rfl rfl (Nat.le_of_ble_eq_true rfl) (Nat.le_of_ble_eq_true rfl) (cl_M_well ((m2 7 (by decide) (by decide) (by decide) (by decide)).trans e7)) ?_
          refine ep_bF t63_69 (fun (c69 : true = false) => (by exact absurd c69 (by decide))) (fun (c69 : true = true) => ?_)
          refine ep_aln t63_72 rfl ?_
          refine ep_iln t63_73 rfl ?_
          obtain ⟨v8, g8, h8_, rfl, σ2, rfl, r1, r2⟩ := cl_it_101 (X := X) (q := q) (σ := σ1) (a := a) (n := n) (p := tN a n p) (T := T) (c := c) (l := l) (f := tS a n p) ha hn ((FrM.rf.adv m1 m2).tx hx) hp2 hw m3 (hd.fr (m1 34 (by decide)) (m1 35 (by decide))) ((m2 7 (by decide) (by decide) (by decide) (by decide)).trans e7) hm
          refine ep_cv t63_74 rfl rfl (Nat.le_of_ble_eq_true rfl) (Nat.le_of_ble_eq_true rfl) (h8_) ?_
          exact K σ2 _ ((FrM.rf.adv m1 m2).tr r1) r2
        · have hK : itL a n 101 items (tS a n p) (tN a n p) T c l = .inl (tS a n p) := (rfl : _ = rW a n 2 (tS a n p) (tN a n p) T c l).trans (cif_neg hm)
          rw [hK] at K
          refine ep_aln t63_39 rfl ?_
          refine ep_aln t63_40 rfl ?_
          refine ep_get t63_41 rfl (Nat.le_of_ble_eq_true rfl) rfl ?_
          refine ep_val (b := nI (tK a n p)) (ht.2.2.1) ?_
          refine ep_k1 (w := nI 1) t63_44 rfl ?_
          refine ep_ifP t63_45 (ic_ne (by omega) (by omega)) (fun (c45 : ¬ (tK a n p) = 1) => (by exact absurd h1 c45)) (fun (c45 : ¬ (¬ (tK a n p) = 1)) => ?_)
          refine ep_aln t63_48 rfl ?_
          refine ep_iln t63_49 rfl ?_
          refine ep_cv t63_50 rfl rfl (Nat.le_of_ble_eq_true rfl) (Nat.le_of_ble_eq_true rfl) (cl_may_101 (by omega) ht3 hd.1 ((ht.2.2.2 (Or.inl h1)).trans (by rw [← eV]))) ?_
          refine ep_val (b := bI false) (congrArg bI (decide_eq_false hm)) ?_
          refine ep_bF t63_53 (fun (c53 : false = false) => ?_) (fun (c53 : false = true) => (by exact absurd c53 (by decide)))
          refine ep_k1 (w := nI 0) t63_60 rfl ?_
          refine ep_val (b := bI false) (rfl) ?_
          refine ep_cv t63_61 rfl rfl (Nat.le_of_ble_eq_true rfl) (Nat.le_of_ble_eq_true rfl) (cl_M_takes_no (e7)) ?_
          refine ep_isn (L' := [some (.ref 31), some (.int (nI items)), some (.int (nI 0))]) t63_64 rfl (Nat.le_of_ble_eq_true rfl) ?_
          refine ep_aln t63_65 rfl ?_
          refine ep_cv t63_66 rfl rfl (Nat.le_of_ble_eq_true rfl) (Nat.le_of_ble_eq_true rfl) (cl_M_well_f (f := tS a n p) (by omega) ht.2.1) ?_
          refine ep_bF t63_69 (fun (c69 : false = false) => ?_) (fun (c69 : false = true) => (by exact absurd c69 (by decide)))
          exact K _ _ FrM.rf.flt ht.2.1
      · by_cases hm : items = 0
        · have hK : itL a n 110 items (tS a n p) (tN a n p) T c l = rN a n (tN a n p) T c l := if_pos hm
          rw [hK] at K
          refine ep_aln t63_39 rfl ?_
          refine ep_aln t63_40 rfl ?_
          refine ep_get t63_41 rfl (Nat.le_of_ble_eq_true rfl) rfl ?_
          refine ep_val (b := nI (tK a n p)) (ht.2.2.1) ?_
          refine ep_k1 (w := nI 1) t63_44 rfl ?_
          refine ep_ifP t63_45 (ic_ne (by omega) (by omega)) (fun (c45 : ¬ (tK a n p) = 1) => (by exact absurd h1 c45)) (fun (c45 : ¬ (¬ (tK a n p) = 1)) => ?_)
          refine ep_aln t63_48 rfl ?_
          refine ep_iln t63_49 rfl ?_
          refine ep_cv t63_50 rfl rfl (Nat.le_of_ble_eq_true rfl) (Nat.le_of_ble_eq_true rfl) (cl_may_110 (by omega) ht3 hd.1 ((ht.2.2.2 (Or.inl h1)).trans (by rw [← eV]))) ?_
          refine ep_val (b := bI true) (congrArg bI (decide_eq_true hm)) ?_
          refine ep_bF t63_53 (fun (c53 : true = false) => (by exact absurd c53 (by decide))) (fun (c53 : true = true) => ?_)
          refine ep_k1 (w := nI 1) t63_56 rfl ?_
          refine ep_val (b := bI true) (rfl) ?_
          refine ep_gt t63_57 ?_
          obtain ⟨v9, g9, h9, σ1, rfl, rfl, m1, m2, m3⟩ := cl_M_takes_yes (X := X) (q := q) (σ := σ) (a := a) (n := n) (p := tN a n p) ha hn (hx) (hp2) (ht.1) (e7)
          refine ep_cv t63_61 rfl rfl (Nat.le_of_ble_eq_true rfl) (Nat.le_of_ble_eq_true rfl) (h9) ?_
          refine ep_val (b := nI 110) ((ht.2.2.2 (Or.inl h1)).trans (by rw [← eV])) ?_
          refine ep_isn (L' := [some (.ref 31), some (.int (nI items)), some (.int (nI 110))]) t63_64 rfl (Nat.le_of_ble_eq_true rfl) ?_
          refine ep_aln t63_65 rfl ?_
          refine ep_cv t63_66 rfl rfl (Nat.le_of_ble_eq_true rfl) (Nat.le_of_ble_eq_true rfl) (cl_M_well ((m2 7 (by decide) (by decide) (by decide) (by decide)).trans e7)) ?_
          refine ep_bF t63_69 (fun (c69 : true = false) => (by exact absurd c69 (by decide))) (fun (c69 : true = true) => ?_)
          refine ep_aln t63_72 rfl ?_
          refine ep_iln t63_73 rfl ?_
          obtain ⟨v8, g8, h8_, rfl, σ2, rfl, r1, r2⟩ := cl_it_n (X := X) (q := q) (σ := σ1) (a := a) (n := n) (p := tN a n p) (T := T) (c := c) (l := l) ha hn ((FrM.rf.adv m1 m2).tx hx) hp2 hw m3 (hd.fr (m1 34 (by decide)) (m1 35 (by decide))) ((m2 7 (by decide) (by decide) (by decide) (by decide)).trans e7)
          refine ep_cv t63_74 rfl rfl (Nat.le_of_ble_eq_true rfl) (Nat.le_of_ble_eq_true rfl) (h8_) ?_
          exact K σ2 _ ((FrM.rf.adv m1 m2).tr r1) r2
        · have hK : itL a n 110 items (tS a n p) (tN a n p) T c l = .inl (tS a n p) := if_neg hm
          rw [hK] at K
          refine ep_aln t63_39 rfl ?_
          refine ep_aln t63_40 rfl ?_
          refine ep_get t63_41 rfl (Nat.le_of_ble_eq_true rfl) rfl ?_
          refine ep_val (b := nI (tK a n p)) (ht.2.2.1) ?_
          refine ep_k1 (w := nI 1) t63_44 rfl ?_
          refine ep_ifP t63_45 (ic_ne (by omega) (by omega)) (fun (c45 : ¬ (tK a n p) = 1) => (by exact absurd h1 c45)) (fun (c45 : ¬ (¬ (tK a n p) = 1)) => ?_)
          refine ep_aln t63_48 rfl ?_
          refine ep_iln t63_49 rfl ?_
          refine ep_cv t63_50 rfl rfl (Nat.le_of_ble_eq_true rfl) (Nat.le_of_ble_eq_true rfl) (cl_may_110 (by omega) ht3 hd.1 ((ht.2.2.2 (Or.inl h1)).trans (by rw [← eV]))) ?_
          refine ep_val (b := bI false) (congrArg bI (decide_eq_false hm)) ?_
          refine ep_bF t63_53 (fun (c53 : false = false) => ?_) (fun (c53 : false = true) => (by exact absurd c53 (by decide)))
          refine ep_k1 (w := nI 0) t63_60 rfl ?_
          refine ep_val (b := bI false) (rfl) ?_
          refine ep_cv t63_61 rfl rfl (Nat.le_of_ble_eq_true rfl) (Nat.le_of_ble_eq_true rfl) (cl_M_takes_no (e7)) ?_
          refine ep_isn (L' := [some (.ref 31), some (.int (nI items)), some (.int (nI 0))]) t63_64 rfl (Nat.le_of_ble_eq_true rfl) ?_
          refine ep_aln t63_65 rfl ?_
          refine ep_cv t63_66 rfl rfl (Nat.le_of_ble_eq_true rfl) (Nat.le_of_ble_eq_true rfl) (cl_M_well_f (f := tS a n p) (by omega) ht.2.1) ?_
          refine ep_bF t63_69 (fun (c69 : false = false) => ?_) (fun (c69 : false = true) => (by exact absurd c69 (by decide)))
          exact K _ _ FrM.rf.flt ht.2.1
      · refine ep_aln t63_39 rfl ?_
        refine ep_aln t63_40 rfl ?_
        refine ep_get t63_41 rfl (Nat.le_of_ble_eq_true rfl) rfl ?_
        refine ep_val (b := nI (tK a n p)) (ht.2.2.1) ?_
        refine ep_k1 (w := nI 1) t63_44 rfl ?_
        refine ep_ifP t63_45 (ic_ne (by omega) (by omega)) (fun (c45 : ¬ (tK a n p) = 1) => (by exact absurd h1 c45)) (fun (c45 : ¬ (¬ (tK a n p) = 1)) => ?_)
        refine ep_aln t63_48 rfl ?_
        refine ep_iln t63_49 rfl ?_
        refine ep_cv t63_50 rfl rfl (Nat.le_of_ble_eq_true rfl) (Nat.le_of_ble_eq_true rfl) (cl_may_115 (by omega) ht3 hd.1 ((ht.2.2.2 (Or.inl h1)).trans (by rw [← eV]))) ?_
        refine ep_bF t63_53 (fun (c53 : true = false) => (by exact absurd c53 (by decide))) (fun (c53 : true = true) => ?_)
        refine ep_k1 (w := nI 1) t63_56 rfl ?_
        refine ep_val (b := bI true) (rfl) ?_
        refine ep_gt t63_57 ?_
        obtain ⟨v9, g9, h9, σ1, rfl, rfl, m1, m2, m3⟩ := cl_M_takes_yes (X := X) (q := q) (σ := σ) (a := a) (n := n) (p := tN a n p) ha hn (hx) (hp2) (ht.1) (e7)
        refine ep_cv t63_61 rfl rfl (Nat.le_of_ble_eq_true rfl) (Nat.le_of_ble_eq_true rfl) (h9) ?_
        refine ep_val (b := nI 115) ((ht.2.2.2 (Or.inl h1)).trans (by rw [← eV])) ?_
        refine ep_isn (L' := [some (.ref 31), some (.int (nI items)), some (.int (nI 115))]) t63_64 rfl (Nat.le_of_ble_eq_true rfl) ?_
        refine ep_aln t63_65 rfl ?_
        refine ep_cv t63_66 rfl rfl (Nat.le_of_ble_eq_true rfl) (Nat.le_of_ble_eq_true rfl) (cl_M_well ((m2 7 (by decide) (by decide) (by decide) (by decide)).trans e7)) ?_
        refine ep_bF t63_69 (fun (c69 : true = false) => (by exact absurd c69 (by decide))) (fun (c69 : true = true) => ?_)
        refine ep_aln t63_72 rfl ?_
        refine ep_iln t63_73 rfl ?_
        obtain ⟨v8, g8, h8_, rfl, σ2, rfl, r1, r2⟩ := cl_it_s (X := X) (q := q) (σ := σ1) (a := a) (n := n) (p := tN a n p) (T := T) (c := c) (l := l) ha hn ((FrM.rf.adv m1 m2).tx hx) hp2 hw m3 (hd.fr (m1 34 (by decide)) (m1 35 (by decide))) ((m2 7 (by decide) (by decide) (by decide) (by decide)).trans e7)
        refine ep_cv t63_74 rfl rfl (Nat.le_of_ble_eq_true rfl) (Nat.le_of_ble_eq_true rfl) (h8_) ?_
        exact K σ2 _ ((FrM.rf.adv m1 m2).tr r1) r2
      · refine ep_aln t63_39 rfl ?_
        refine ep_aln t63_40 rfl ?_
        refine ep_get t63_41 rfl (Nat.le_of_ble_eq_true rfl) rfl ?_
        refine ep_val (b := nI (tK a n p)) (ht.2.2.1) ?_
        refine ep_k1 (w := nI 1) t63_44 rfl ?_
        refine ep_ifP t63_45 (ic_ne (by omega) (by omega)) (fun (c45 : ¬ (tK a n p) = 1) => (by exact absurd h1 c45)) (fun (c45 : ¬ (¬ (tK a n p) = 1)) => ?_)
        refine ep_aln t63_48 rfl ?_
        refine ep_iln t63_49 rfl ?_
        refine ep_cv t63_50 rfl rfl (Nat.le_of_ble_eq_true rfl) (Nat.le_of_ble_eq_true rfl) (cl_may_100 (by omega) ht3 hd.1 ((ht.2.2.2 (Or.inl h1)).trans (by rw [← eV]))) ?_
        refine ep_bF t63_53 (fun (c53 : true = false) => (by exact absurd c53 (by decide))) (fun (c53 : true = true) => ?_)
        refine ep_k1 (w := nI 1) t63_56 rfl ?_
        refine ep_val (b := bI true) (rfl) ?_
        refine ep_gt t63_57 ?_
        obtain ⟨v9, g9, h9, σ1, rfl, rfl, m1, m2, m3⟩ := cl_M_takes_yes (X := X) (q := q) (σ := σ) (a := a) (n := n) (p := tN a n p) ha hn (hx) (hp2) (ht.1) (e7)
        refine ep_cv t63_61 rfl rfl (Nat.le_of_ble_eq_true rfl) (Nat.le_of_ble_eq_true rfl) (h9) ?_
        refine ep_val (b := nI 100) ((ht.2.2.2 (Or.inl h1)).trans (by rw [← eV])) ?_
        refine ep_isn (L' := [some (.ref 31), some (.int (nI items)), some (.int (nI 100))]) t63_64 rfl (Nat.le_of_ble_eq_true rfl) ?_
        refine ep_aln t63_65 rfl ?_
        refine ep_cv t63_66 rfl rfl (Nat.le_of_ble_eq_true rfl) (Nat.le_of_ble_eq_true rfl) (cl_M_well ((m2 7 (by decide) (by decide) (by decide) (by decide)).trans e7)) ?_
        refine ep_bF t63_69 (fun (c69 : true = false) => (by exact absurd c69 (by decide))) (fun (c69 : true = true) => ?_)
        refine ep_aln t63_72 rfl ?_
        refine ep_iln t63_73 rfl ?_
        obtain ⟨v8, g8, h8_, rfl, σ2, rfl, r1, r2⟩ := cl_it_d (X := X) (q := q) (σ := σ1) (a := a) (n := n) (p := tN a n p) (T := T) (c := c) (l := l) ha hn ((FrM.rf.adv m1 m2).tx hx) hp2 hw m3 (hd.fr (m1 34 (by decide)) (m1 35 (by decide))) ((m2 7 (by decide) (by decide) (by decide) (by decide)).trans e7)
        refine ep_cv t63_74 rfl rfl (Nat.le_of_ble_eq_true rfl) (Nat.le_of_ble_eq_true rfl) (h8_) ?_
        exact K σ2 _ ((FrM.rf.adv m1 m2).tr r1) r2
      · refine ep_aln t63_39 rfl ?_
        refine ep_aln t63_40 rfl ?_
        refine ep_get t63_41 rfl (Nat.le_of_ble_eq_true rfl) rfl ?_
        refine ep_val (b := nI (tK a n p)) (ht.2.2.1) ?_
        refine ep_k1 (w := nI 1) t63_44 rfl ?_
        refine ep_ifP t63_45 (ic_ne (by omega) (by omega)) (fun (c45 : ¬ (tK a n p) = 1) => (by exact absurd h1 c45)) (fun (c45 : ¬ (¬ (tK a n p) = 1)) => ?_)
        refine ep_aln t63_48 rfl ?_
        refine ep_iln t63_49 rfl ?_
        refine ep_cv t63_50 rfl rfl (Nat.le_of_ble_eq_true rfl) (Nat.le_of_ble_eq_true rfl) (cl_may_99 (by omega) ht3 hd.1 ((ht.2.2.2 (Or.inl h1)).trans (by rw [← eV]))) ?_
        refine ep_bF t63_53 (fun (c53 : true = false) => (by exact absurd c53 (by decide))) (fun (c53 : true = true) => ?_)
        refine ep_k1 (w := nI 1) t63_56 rfl ?_
        refine ep_val (b := bI true) (rfl) ?_
        refine ep_gt t63_57 ?_
        obtain ⟨v9, g9, h9, σ1, rfl, rfl, m1, m2, m3⟩ := cl_M_takes_yes (X := X) (q := q) (σ := σ) (a := a) (n := n) (p := tN a n p) ha hn (hx) (hp2) (ht.1) (e7)
        refine ep_cv t63_61 rfl rfl (Nat.le_of_ble_eq_true rfl) (Nat.le_of_ble_eq_true rfl) (h9) ?_
        refine ep_val (b := nI 99) ((ht.2.2.2 (Or.inl h1)).trans (by rw [← eV])) ?_
        refine ep_isn (L' := [some (.ref 31), some (.int (nI items)), some (.int (nI 99))]) t63_64 rfl (Nat.le_of_ble_eq_true rfl) ?_
        refine ep_aln t63_65 rfl ?_
        refine ep_cv t63_66 rfl rfl (Nat.le_of_ble_eq_true rfl) (Nat.le_of_ble_eq_true rfl) (cl_M_well ((m2 7 (by decide) (by decide) (by decide) (by decide)).trans e7)) ?_
        refine ep_bF t63_69 (fun (c69 : true = false) => (by exact absurd c69 (by decide))) (fun (c69 : true = true) => ?_)
        refine ep_aln t63_72 rfl ?_
        refine ep_iln t63_73 rfl ?_
        obtain ⟨v8, g8, h8_, rfl, σ2, rfl, r1, r2⟩ := cl_it_c (X := X) (q := q) (σ := σ1) (a := a) (n := n) (p := tN a n p) (T := T) (c := c) (l := l) ha hn ((FrM.rf.adv m1 m2).tx hx) hp2 hw m3 (hd.fr (m1 34 (by decide)) (m1 35 (by decide))) ((m2 7 (by decide) (by decide) (by decide) (by decide)).trans e7)
        refine ep_cv t63_74 rfl rfl (Nat.le_of_ble_eq_true rfl) (Nat.le_of_ble_eq_true rfl) (h8_) ?_
        exact K σ2 _ ((FrM.rf.adv m1 m2).tr r1) r2
      · refine ep_aln t63_39 rfl ?_
        refine ep_aln t63_40 rfl ?_
        refine ep_get t63_41 rfl (Nat.le_of_ble_eq_true rfl) rfl ?_
        refine ep_val (b := nI (tK a n p)) (ht.2.2.1) ?_
        refine ep_k1 (w := nI 1) t63_44 rfl ?_
        refine ep_ifP t63_45 (ic_ne (by omega) (by omega)) (fun (c45 : ¬ (tK a n p) = 1) => (by exact absurd h1 c45)) (fun (c45 : ¬ (¬ (tK a n p) = 1)) => ?_)
        refine ep_aln t63_48 rfl ?_
        refine ep_iln t63_49 rfl ?_
        refine ep_cv t63_50 rfl rfl (Nat.le_of_ble_eq_true rfl) (Nat.le_of_ble_eq_true rfl) (cl_may_107 (by omega) ht3 hd.1 ((ht.2.2.2 (Or.inl h1)).trans (by rw [← eV]))) ?_
        refine ep_bF t63_53 (fun (c53 : true = false) => (by exact absurd c53 (by decide))) (fun (c53 : true = true) => ?_)
        refine ep_k1 (w := nI 1) t63_56 rfl ?_
        refine ep_val (b := bI true) (rfl) ?_
        refine ep_gt t63_57 ?_
        obtain ⟨v9, g9, h9, σ1, rfl, rfl, m1, m2, m3⟩ := cl_M_takes_yes (X := X) (q := q) (σ := σ) (a := a) (n := n) (p := tN a n p) ha hn (hx) (hp2) (ht.1) (e7)
        refine ep_cv t63_61 rfl rfl (Nat.le_of_ble_eq_true rfl) (Nat.le_of_ble_eq_true rfl) (h9) ?_
        refine ep_val (b := nI 107) ((ht.2.2.2 (Or.inl h1)).trans (by rw [← eV])) ?_
        refine ep_isn (L' := [some (.ref 31), some (.int (nI items)), some (.int (nI 107))]) t63_64 rfl (Nat.le_of_ble_eq_true rfl) ?_
        refine ep_aln t63_65 rfl ?_
        refine ep_cv t63_66 rfl rfl (Nat.le_of_ble_eq_true rfl) (Nat.le_of_ble_eq_true rfl) (cl_M_well ((m2 7 (by decide) (by decide) (by decide) (by decide)).trans e7)) ?_
        refine ep_bF t63_69 (fun (c69 : true = false) => (by exact absurd c69 (by decide))) (fun (c69 : true = true) => ?_)
        refine ep_aln t63_72 rfl ?_
        refine ep_iln t63_73 rfl ?_
        obtain ⟨v8, g8, h8_, rfl, σ2, rfl, r1, r2⟩ := cl_it_k (X := X) (q := q) (σ := σ1) (a := a) (n := n) (p := tN a n p) (T := T) (c := c) (l := l) ha hn ((FrM.rf.adv m1 m2).tx hx) hp2 hw m3 (hd.fr (m1 34 (by decide)) (m1 35 (by decide))) ((m2 7 (by decide) (by decide) (by decide) (by decide)).trans e7)
        refine ep_cv t63_74 rfl rfl (Nat.le_of_ble_eq_true rfl) (Nat.le_of_ble_eq_true rfl) (h8_) ?_
        exact K σ2 _ ((FrM.rf.adv m1 m2).tr r1) r2
  · unfold itm at K
    rw [if_neg h1] at K
    refine ep_aln t63_39 rfl ?_
    refine ep_aln t63_40 rfl ?_
    refine ep_get t63_41 rfl (Nat.le_of_ble_eq_true rfl) rfl ?_
    refine ep_val (b := nI (tK a n p)) (ht.2.2.1) ?_
    refine ep_k1 (w := nI 1) t63_44 rfl ?_
    refine ep_ifP t63_45 (ic_ne (by omega) (by omega)) (fun (c45 : ¬ (tK a n p) = 1) => ?_) (fun (c45 : ¬ (¬ (tK a n p) = 1)) => (by exact absurd (Classical.byContradiction c45) h1))
    refine ep_k1 (w := nI 0) t63_60 rfl ?_
    refine ep_val (b := bI false) (rfl) ?_
    refine ep_cv t63_61 rfl rfl (Nat.le_of_ble_eq_true rfl) (Nat.le_of_ble_eq_true rfl) (cl_M_takes_no (e7)) ?_
    refine ep_isn (L' := [some (.ref 31), some (.int (nI items)), some (.int (nI 0))]) t63_64 rfl (Nat.le_of_ble_eq_true rfl) ?_
    refine ep_aln t63_65 rfl ?_
    refine ep_cv t63_66 rfl rfl (Nat.le_of_ble_eq_true rfl) (Nat.le_of_ble_eq_true rfl) (cl_M_well_f (f := tS a n p) (by omega) ht.2.1) ?_
    refine ep_bF t63_69 (fun (c69 : false = false) => ?_) (fun (c69 : false = true) => (by exact absurd c69 (by decide)))
    exact K _ _ FrM.rf.flt ht.2.1
def RQ (σ : gT1) (items : Nat) : Sum Nat (Nat × (Nat → Nat) × Nat × Nat) → Prop
  | .inl f => σ 31 7 = nI f
  | .inr (it, T, c, l) => items = it ∧ σ 31 7 = -1 ∧ DrM σ T c l
theorem E_flt {X : gX} {q : Bool} {σ : gT1} {f items : Nat} (hf : f ≤ 120) (ef : σ 31 7 = nI f) {o2 : Option Value} {P : Option Value → gS → Prop} (K : EvP X 63 101 [some (.ref 31), some (.int (nI items)), o2] [] (47, g_rho q, σ) P) : EvP X 63 25 [some (.ref 31), some (.int (nI items)), o2] [] (47, g_rho q, σ) P := by
  refine ep_aln t63_25 rfl ?_
  refine ep_cv t63_26 rfl rfl (Nat.le_of_ble_eq_true rfl) (Nat.le_of_ble_eq_true rfl) (cl_M_well_f (f := f) (hf) (ef)) ?_
  refine ep_bF t63_29 (fun (c29 : false = false) => ?_) (fun (c29 : false = true) => (by exact absurd c29 (by decide)))
  exact K
theorem L_mbook {X : gX} {q : Bool} {σ : gT1} {a : Nat → Nat} {n : Nat} {P : Option Value → gS → Prop} (ha : ∀ j, a j < 256) (hn : n ≤ 120) (hx : TxM σ a n) : ∀ (d p items : Nat) (T : Nat → Nat) (c l : Nat) (σ' : gT1) (o2 : Option Value), (∀ (σ1 : gT1) (items' : Nat) (o2 : Option Value), FrM σ σ1 → RQ σ1 items' (prs a n d p items T c l) → EvP X 63 101 [some (.ref 31), some (.int (nI items')), o2] [] (47, g_rho q, σ1) P) → n < p + d → p ≤ n → items ≤ p → WFD T c l → (items = 0 → T 1 = 0 ∧ T 2 = 0 ∧ T 3 = 0) → FrM σ σ' → TokM σ' a n p → DrM σ' T c l → σ' 31 7 = -1 → EvP X 63 25 [some (.ref 31), some (.int (nI items)), o2] [] (47, g_rho q, σ') P
  | 0, p, items, T, c, l, σ', o2, K, h1, hp, hip, hw, h0, hf, ht, hd, e7 => by omega
  | d + 1, p, items, T, c, l, σ', o2, K, h1, hp, hip, hw, h0, hf, ht, hd, e7 => by
    have hk4 := (tk_all (a := a) hp).2.2.2.2
    by_cases hz : tK a n p = 0
    · refine ep_aln t63_25 rfl ?_
      refine ep_cv t63_26 rfl rfl (Nat.le_of_ble_eq_true rfl) (Nat.le_of_ble_eq_true rfl) (cl_M_well (e7)) ?_
      refine ep_bF t63_29 (fun (c29 : true = false) => (by exact absurd c29 (by decide))) (fun (c29 : true = true) => ?_)
      refine ep_aln t63_32 rfl ?_
      refine ep_get t63_33 rfl (Nat.le_of_ble_eq_true rfl) rfl ?_
      refine ep_val (b := nI (tK a n p)) (ht.2.2.1) ?_
      refine ep_if0P t63_36 (ic0_eq (by omega)) (fun (c36 : (tK a n p) = 0) => ?_) (fun (c36 : ¬ ((tK a n p) = 0)) => (by exact absurd hz c36))
      rw [prs_0 hz] at K
      exact K σ' items o2 hf ⟨rfl, e7, hd⟩
    · refine ep_aln t63_25 rfl ?_
      refine ep_cv t63_26 rfl rfl (Nat.le_of_ble_eq_true rfl) (Nat.le_of_ble_eq_true rfl) (cl_M_well (e7)) ?_
      refine ep_bF t63_29 (fun (c29 : true = false) => (by exact absurd c29 (by decide))) (fun (c29 : true = true) => ?_)
      refine ep_aln t63_32 rfl ?_
      refine ep_get t63_33 rfl (Nat.le_of_ble_eq_true rfl) rfl ?_
      refine ep_val (b := nI (tK a n p)) (ht.2.2.1) ?_
      refine ep_if0P t63_36 (ic0_eq (by omega)) (fun (c36 : (tK a n p) = 0) => (by exact absurd c36 hz)) (fun (c36 : ¬ ((tK a n p) = 0)) => ?_)
      refine E_item (X := X) (σ := σ') ha hn (hf.tx hx) hp hw ht hd e7 (by omega) (fun σ1 p2 f1 r1 => ?_)
      have ho := itm_ok (a := a) (items := items) hp hw h0
      cases hi : itm a n p items T c l with
      | inl f =>
        rw [hi] at ho r1
        have hff : f ≤ 120 := Nat.le_trans ho hn
        refine ep_aln t63_77 rfl ?_
        refine ep_aln t63_78 rfl ?_
        refine ep_get t63_79 rfl (Nat.le_of_ble_eq_true rfl) rfl ?_
        refine ep_k1 (w := nI 3) t63_82 rfl ?_
        refine ep_if t63_83 (fun (c83 : ¬ (σ1 31 4) = (nI 3)) => ?_) (fun (c83 : ¬ (¬ (σ1 31 4) = (nI 3))) => ?_)
        · refine ep_k1 (w := nI 0) t63_90 rfl ?_
          refine ep_val (b := bI false) (rfl) ?_
          refine ep_cv t63_91 rfl rfl (Nat.le_of_ble_eq_true rfl) (Nat.le_of_ble_eq_true rfl) (cl_M_takes_f (f := f) (hff) (r1)) ?_
          refine ep_pop t63_94 rfl ?_
          refine ep_inc (b := nI (items + 1)) (L' := [some (.ref 31), some (.int (nI (items + 1))), p2]) t63_95 rfl (nI_add items 1) rfl (Nat.le_of_ble_eq_true rfl) ?_
          refine ep_gt t63_98 ?_
          rw [prs_f hz (by rw [hi]; rfl)] at K
          exact E_flt hff r1 (K σ1 (items + 1) p2 (hf.tr f1) r1)
        · refine ep_k1 (w := nI 1) t63_86 rfl ?_
          refine ep_val (b := bI true) (rfl) ?_
          refine ep_gt t63_87 ?_
          refine ep_cv t63_91 rfl rfl (Nat.le_of_ble_eq_true rfl) (Nat.le_of_ble_eq_true rfl) (cl_M_takes_f (f := f) (hff) (r1)) ?_
          refine ep_pop t63_94 rfl ?_
          refine ep_inc (b := nI (items + 1)) (L' := [some (.ref 31), some (.int (nI (items + 1))), p2]) t63_95 rfl (nI_add items 1) rfl (Nat.le_of_ble_eq_true rfl) ?_
          refine ep_gt t63_98 ?_
          rw [prs_f hz (by rw [hi]; rfl)] at K
          exact E_flt hff r1 (K σ1 (items + 1) p2 (hf.tr f1) r1)
      | inr r =>
        obtain ⟨p', T', c', l'⟩ := r
        rw [hi] at ho r1
        have hp' : p' ≤ n := ho.2.2
        have hpp : p + 1 ≤ p' := ho.2.1
        have hk5 := (tk_all (a := a) hp').1
        have hk6 := (tk_all (a := a) hp').2.2.2.2
        by_cases hs : tK a n p' = 3
        · refine ep_aln t63_77 rfl ?_
          refine ep_aln t63_78 rfl ?_
          refine ep_get t63_79 rfl (Nat.le_of_ble_eq_true rfl) rfl ?_
          refine ep_val (b := nI (tK a n p')) (r1.2.1.2.2.1) ?_
          refine ep_k1 (w := nI 3) t63_82 rfl ?_
          refine ep_ifP t63_83 (ic_ne (by omega) (by omega)) (fun (c83 : ¬ (tK a n p') = 3) => (by exact absurd hs c83)) (fun (c83 : ¬ (¬ (tK a n p') = 3)) => ?_)
          refine ep_k1 (w := nI 1) t63_86 rfl ?_
          refine ep_val (b := bI true) (rfl) ?_
          refine ep_gt t63_87 ?_
          obtain ⟨v9, g9, h9, σ2, rfl, rfl, m1, m2, m3⟩ := cl_M_takes_yes (X := X) (q := q) (σ := σ1) (a := a) (n := n) (p := tN a n p') ha hn ((hf.tr f1).tx hx) hk5.2.2.1 r1.2.1.1 r1.1
          refine ep_cv t63_91 rfl rfl (Nat.le_of_ble_eq_true rfl) (Nat.le_of_ble_eq_true rfl) (h9) ?_
          refine ep_pop t63_94 rfl ?_
          refine ep_inc (b := nI (items + 1)) (L' := [some (.ref 31), some (.int (nI (items + 1))), p2]) t63_95 rfl (nI_add items 1) rfl (Nat.le_of_ble_eq_true rfl) ?_
          refine ep_gt t63_98 ?_
          rw [prs_s hz (by rw [hi]; exact if_pos hs)] at K
          exact L_mbook ha hn hx d (tN a n p') (items + 1) T' c' l' σ2 p2 K (by omega) hk5.2.2.1 (by omega) ho.1 (fun z => absurd z (by omega)) ((hf.tr f1).adv m1 m2) m3 (r1.2.2.fr (m1 34 (by decide)) (m1 35 (by decide))) ((m2 7 (by decide) (by decide) (by decide) (by decide)).trans r1.1)
        · refine ep_aln t63_77 rfl ?_
          refine ep_aln t63_78 rfl ?_
          refine ep_get t63_79 rfl (Nat.le_of_ble_eq_true rfl) rfl ?_
          refine ep_val (b := nI (tK a n p')) (r1.2.1.2.2.1) ?_
          refine ep_k1 (w := nI 3) t63_82 rfl ?_
          refine ep_ifP t63_83 (ic_ne (by omega) (by omega)) (fun (c83 : ¬ (tK a n p') = 3) => ?_) (fun (c83 : ¬ (¬ (tK a n p') = 3)) => (by exact absurd (Classical.byContradiction c83) hs))
          refine ep_k1 (w := nI 0) t63_90 rfl ?_
          refine ep_val (b := bI false) (rfl) ?_
          refine ep_cv t63_91 rfl rfl (Nat.le_of_ble_eq_true rfl) (Nat.le_of_ble_eq_true rfl) (cl_M_takes_no (r1.1)) ?_
          refine ep_pop t63_94 rfl ?_
          refine ep_inc (b := nI (items + 1)) (L' := [some (.ref 31), some (.int (nI (items + 1))), p2]) t63_95 rfl (nI_add items 1) rfl (Nat.le_of_ble_eq_true rfl) ?_
          refine ep_gt t63_98 ?_
          rw [prs_f hz (by rw [hi]; exact if_neg hs)] at K
          exact E_flt (f := tS a n p') (by omega) r1.2.1.2.1 (K _ (items + 1) p2 (hf.tr f1).flt r1.2.1.2.1)
