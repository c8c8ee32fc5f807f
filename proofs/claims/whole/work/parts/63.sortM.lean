/-! The model sorts, and ends its reading. -/
theorem L_ch {X : gX} {q : Bool} {σ : gT1} {k e c : Nat} (hk : k + 1 < 8) (he : e < 2) (hc : c < 256) (ec : σ 35 e = nI c) {o3 : Option Value} {P : Option Value → gS → Prop} (K : ∀ σ1 : gT1, (∀ r, r ≠ 35 → σ1 r = σ r) → (∀ j, j ≠ e → σ1 35 j = σ 35 j) → σ1 35 e = nI (so_swC c k) → EvP X 57 54 [some (.ref 31), some (.int (nI k)), some (.int (nI (e + 1))), o3] [] (47, g_rho q, σ1) P) : EvP X 57 54 [some (.ref 31), some (.int (nI k)), some (.int (nI e)), o3] [] (47, g_rho q, σ) P := by
  refine ep_iln t57_54 rfl ?_
  refine ep_k1 (w := nI 1) t57_55 rfl ?_
  refine ep_ifP t57_56 (ic_gt (by omega) (by omega)) (fun (c56 : 1 < e) => (by omega)) (fun (c56 : ¬ (1 < e)) => ?_)
  refine ep_aln t57_59 rfl ?_
  refine ep_getr (q := 35) t57_60 rfl (Nat.le_of_ble_eq_true rfl) rfl (rfl) ?_
  refine ep_iln t57_63 rfl ?_
  refine ep_aldN t57_64 rfl (Nat.le_of_ble_eq_true rfl) (Nat.ne_of_beq_eq_false rfl) (Nat.le_of_ble_eq_true rfl) (by omega) ?_
  refine ep_val (b := nI c) (ec) ?_
  refine ep_iln t57_65 rfl ?_
  refine ep_cs t57_66 (Nat.ne_of_beq_eq_false rfl) rfl (Nat.le_of_ble_eq_true rfl) (cl_M_has (by omega) (by omega)) ?_
  refine ep_aln t57_69 rfl ?_
  refine ep_getr (q := 35) t57_70 rfl (Nat.le_of_ble_eq_true rfl) rfl (rfl) ?_
  refine ep_iln t57_73 rfl ?_
  refine ep_aldN t57_74 rfl (Nat.le_of_ble_eq_true rfl) (Nat.ne_of_beq_eq_false rfl) (Nat.le_of_ble_eq_true rfl) (by omega) ?_
  refine ep_val (b := nI c) (ec) ?_
  refine ep_iln t57_75 rfl ?_
  refine ep_k1 (w := nI 1) t57_76 rfl ?_
  refine ep_addN (a := k) (b := 1) t57_77 ?_
  refine ep_cs t57_78 (Nat.ne_of_beq_eq_false rfl) rfl (Nat.le_of_ble_eq_true rfl) (cl_M_has (by omega) (by omega)) ?_
  refine ep_if t57_81 (fun (c81 : (bI (Nat.testBit c k)) = (bI (Nat.testBit c (k + 1)))) => ?_) (fun (c81 : ¬ ((bI (Nat.testBit c k)) = (bI (Nat.testBit c (k + 1))))) => ?_)
  · refine ep_inc (b := nI (e + 1)) (L' := [some (.ref 31), some (.int (nI k)), some (.int (nI (e + 1))), o3]) t57_96 rfl (nI_add e 1) rfl (Nat.le_of_ble_eq_true rfl) ?_
    refine ep_gt t57_99 ?_
    exact K σ (fun _ _ => rfl) (fun _ _ => rfl) (by rw [ec]; unfold so_swC; rw [if_pos c81])
  · refine ep_aln t57_84 rfl ?_
    refine ep_getr (q := 35) t57_85 rfl (Nat.le_of_ble_eq_true rfl) rfl (rfl) ?_
    refine ep_iln t57_88 rfl ?_
    refine ep_dup2 t57_89 rfl rfl ?_
    refine ep_aldN t57_90 rfl (Nat.le_of_ble_eq_true rfl) (Nat.ne_of_beq_eq_false rfl) (Nat.le_of_ble_eq_true rfl) (by omega) ?_
    refine ep_val (b := nI c) (ec) ?_
    refine ep_k1 (w := nI 3) t57_91 rfl ?_
    refine ep_iln t57_92 rfl ?_
    refine ep_shlN (a := 3) (b := k) t57_93 (by omega) (by have := Nat.pow_le_pow_right (n := 2) (by decide) (by omega : k ≤ 7); omega) ?_
    refine ep_xorN (a := c) (b := 3 * 2 ^ k) t57_94 ?_
    refine ep_astN t57_95 rfl (Nat.le_of_ble_eq_true rfl) (Nat.le_of_ble_eq_true rfl) (by omega) ?_
    refine ep_inc (b := nI (e + 1)) (L' := [some (.ref 31), some (.int (nI k)), some (.int (nI (e + 1))), o3]) t57_96 rfl (nI_add e 1) rfl (Nat.le_of_ble_eq_true rfl) ?_
    refine ep_gt t57_99 ?_
    exact K _ (fun r hr => g_up_ne hr) (fun j hj => g_up_j hj) (by rw [g_up_eq]; unfold so_swC; rw [if_neg c81])
theorem cl_M_changes {X : gX} {q : Bool} {σ : gT1} {T : Nat → Nat} {c l k : Nat} (hd : DrM σ T c l) (h8 : T 3 ≤ 8) (hc : c < 256) (hl : l < 256) (hk : k + 1 < T 3) : ClP X 57 [.ref 31, .int (nI k)] (47, g_rho q, σ) (fun v g1 => v = none ∧ ∃ σ1, g1 = (47, g_rho q, σ1) ∧ (∀ r, r ≠ 34 → r ≠ 35 → σ1 r = σ r) ∧ DrM σ1 (so_sw T k) (so_swC c k) (so_swC l k)) := by
  refine ClP.of ⟨Nat.le_of_ble_eq_true rfl, rfl⟩ ?_
  show EvP X 57 0 [some (.ref 31), some (.int (nI k)), none, none] [] (47, g_rho q, σ) _
  refine ep_k1 (w := nI 4) t57_0 rfl ?_
  refine ep_isn (L' := [some (.ref 31), some (.int (nI k)), some (.int (nI 4)), none]) t57_1 rfl (Nat.le_of_ble_eq_true rfl) ?_
  refine ep_iln t57_2 rfl ?_
  refine ep_k2 (w := nI 36) t57_3 rfl ?_
  refine ep_ifP t57_5 (ic_ge (by omega) (by omega)) (fun (c5 : 36 ≤ 4) => (by omega)) (fun (c5 : ¬ (36 ≤ 4)) => ?_)
  refine ep_aln t57_8 rfl ?_
  refine ep_getr (q := 34) t57_9 rfl (Nat.le_of_ble_eq_true rfl) rfl (rfl) ?_
  refine ep_iln t57_12 rfl ?_
  refine ep_iln t57_13 rfl ?_
  refine ep_addN (a := 4) (b := k) t57_14 ?_
  refine ep_aldN t57_15 rfl (Nat.le_of_ble_eq_true rfl) (Nat.ne_of_beq_eq_false rfl) (Nat.le_of_ble_eq_true rfl) (by omega) ?_
  refine ep_val (b := σ 34 (4 + k)) (rfl) ?_
  refine ep_isn (L' := [some (.ref 31), some (.int (nI k)), some (.int (nI 4)), some (.int (σ 34 (4 + k)))]) t57_16 rfl (Nat.le_of_ble_eq_true rfl) ?_
  refine ep_aln t57_17 rfl ?_
  refine ep_getr (q := 34) t57_18 rfl (Nat.le_of_ble_eq_true rfl) rfl (rfl) ?_
  refine ep_iln t57_21 rfl ?_
  refine ep_iln t57_22 rfl ?_
  refine ep_addN (a := 4) (b := k) t57_23 ?_
  refine ep_aln t57_24 rfl ?_
  refine ep_getr (q := 34) t57_25 rfl (Nat.le_of_ble_eq_true rfl) rfl (rfl) ?_
  refine ep_iln t57_28 rfl ?_
  refine ep_iln t57_29 rfl ?_
  refine ep_addN (a := 4) (b := k) t57_30 ?_
  refine ep_k1 (w := nI 1) t57_31 rfl ?_
  refine ep_addN (a := 4 + k) (b := 1) t57_32 ?_
  refine ep_aldN t57_33 rfl (Nat.le_of_ble_eq_true rfl) (Nat.ne_of_beq_eq_false rfl) (Nat.le_of_ble_eq_true rfl) (by omega) ?_
  refine ep_val (b := σ 34 ((4 + k) + 1)) (rfl) ?_
  refine ep_astN t57_34 rfl (Nat.le_of_ble_eq_true rfl) (Nat.le_of_ble_eq_true rfl) (by omega) ?_
  refine ep_aln t57_35 rfl ?_
  refine ep_getr (q := 34) t57_36 rfl (Nat.le_of_ble_eq_true rfl) rfl (rfl) ?_
  refine ep_iln t57_39 rfl ?_
  refine ep_iln t57_40 rfl ?_
  refine ep_addN (a := 4) (b := k) t57_41 ?_
  refine ep_k1 (w := nI 1) t57_42 rfl ?_
  refine ep_addN (a := 4 + k) (b := 1) t57_43 ?_
  refine ep_iln t57_44 rfl ?_
  refine ep_astN t57_45 rfl (Nat.le_of_ble_eq_true rfl) (Nat.le_of_ble_eq_true rfl) (by omega) ?_
  refine ep_inc (b := nI 12) (L' := [some (.ref 31), some (.int (nI k)), some (.int (nI 12)), some (.int (σ 34 (4 + k)))]) t57_46 rfl (nI_add 4 8) rfl (Nat.le_of_ble_eq_true rfl) ?_
  refine ep_gt t57_49 ?_
  refine ep_iln t57_2 rfl ?_
  refine ep_k2 (w := nI 36) t57_3 rfl ?_
  refine ep_ifP t57_5 (ic_ge (by omega) (by omega)) (fun (c5 : 36 ≤ 12) => (by omega)) (fun (c5 : ¬ (36 ≤ 12)) => ?_)
  refine ep_aln t57_8 rfl ?_
  refine ep_getr (q := 34) t57_9 rfl (Nat.le_of_ble_eq_true rfl) rfl (rfl) ?_
  refine ep_iln t57_12 rfl ?_
  refine ep_iln t57_13 rfl ?_
  refine ep_addN (a := 12) (b := k) t57_14 ?_
  refine ep_aldN t57_15 rfl (Nat.le_of_ble_eq_true rfl) (Nat.ne_of_beq_eq_false rfl) (Nat.le_of_ble_eq_true rfl) (by omega) ?_
  refine ep_val (b := σ 34 (12 + k)) (by (repeat rw [g_up_j (by omega)])) ?_
  refine ep_isn (L' := [some (.ref 31), some (.int (nI k)), some (.int (nI 12)), some (.int (σ 34 (12 + k)))]) t57_16 rfl (Nat.le_of_ble_eq_true rfl) ?_
  refine ep_aln t57_17 rfl ?_
  refine ep_getr (q := 34) t57_18 rfl (Nat.le_of_ble_eq_true rfl) rfl (rfl) ?_
  refine ep_iln t57_21 rfl ?_
  refine ep_iln t57_22 rfl ?_
  refine ep_addN (a := 12) (b := k) t57_23 ?_
  refine ep_aln t57_24 rfl ?_
  refine ep_getr (q := 34) t57_25 rfl (Nat.le_of_ble_eq_true rfl) rfl (rfl) ?_
  refine ep_iln t57_28 rfl ?_
  refine ep_iln t57_29 rfl ?_
  refine ep_addN (a := 12) (b := k) t57_30 ?_
  refine ep_k1 (w := nI 1) t57_31 rfl ?_
  refine ep_addN (a := 12 + k) (b := 1) t57_32 ?_
  refine ep_aldN t57_33 rfl (Nat.le_of_ble_eq_true rfl) (Nat.ne_of_beq_eq_false rfl) (Nat.le_of_ble_eq_true rfl) (by omega) ?_
  refine ep_val (b := σ 34 ((12 + k) + 1)) (by (repeat rw [g_up_j (by omega)])) ?_
  refine ep_astN t57_34 rfl (Nat.le_of_ble_eq_true rfl) (Nat.le_of_ble_eq_true rfl) (by omega) ?_
  refine ep_aln t57_35 rfl ?_
  refine ep_getr (q := 34) t57_36 rfl (Nat.le_of_ble_eq_true rfl) rfl (rfl) ?_
  refine ep_iln t57_39 rfl ?_
  refine ep_iln t57_40 rfl ?_
  refine ep_addN (a := 12) (b := k) t57_41 ?_
  refine ep_k1 (w := nI 1) t57_42 rfl ?_
  refine ep_addN (a := 12 + k) (b := 1) t57_43 ?_
  refine ep_iln t57_44 rfl ?_
  refine ep_astN t57_45 rfl (Nat.le_of_ble_eq_true rfl) (Nat.le_of_ble_eq_true rfl) (by omega) ?_
  refine ep_inc (b := nI 20) (L' := [some (.ref 31), some (.int (nI k)), some (.int (nI 20)), some (.int (σ 34 (12 + k)))]) t57_46 rfl (nI_add 12 8) rfl (Nat.le_of_ble_eq_true rfl) ?_
  refine ep_gt t57_49 ?_
  refine ep_iln t57_2 rfl ?_
  refine ep_k2 (w := nI 36) t57_3 rfl ?_
  refine ep_ifP t57_5 (ic_ge (by omega) (by omega)) (fun (c5 : 36 ≤ 20) => (by omega)) (fun (c5 : ¬ (36 ≤ 20)) => ?_)
  refine ep_aln t57_8 rfl ?_
  refine ep_getr (q := 34) t57_9 rfl (Nat.le_of_ble_eq_true rfl) rfl (rfl) ?_
  refine ep_iln t57_12 rfl ?_
  refine ep_iln t57_13 rfl ?_
  refine ep_addN (a := 20) (b := k) t57_14 ?_
  refine ep_aldN t57_15 rfl (Nat.le_of_ble_eq_true rfl) (Nat.ne_of_beq_eq_false rfl) (Nat.le_of_ble_eq_true rfl) (by omega) ?_
  refine ep_val (b := σ 34 (20 + k)) (by (repeat rw [g_up_j (by omega)])) ?_
  refine ep_isn (L' := [some (.ref 31), some (.int (nI k)), some (.int (nI 20)), some (.int (σ 34 (20 + k)))]) t57_16 rfl (Nat.le_of_ble_eq_true rfl) ?_
  refine ep_aln t57_17 rfl ?_
  refine ep_getr (q := 34) t57_18 rfl (Nat.le_of_ble_eq_true rfl) rfl (rfl) ?_
  refine ep_iln t57_21 rfl ?_
  refine ep_iln t57_22 rfl ?_
  refine ep_addN (a := 20) (b := k) t57_23 ?_
  refine ep_aln t57_24 rfl ?_
  refine ep_getr (q := 34) t57_25 rfl (Nat.le_of_ble_eq_true rfl) rfl (rfl) ?_
  refine ep_iln t57_28 rfl ?_
  refine ep_iln t57_29 rfl ?_
  refine ep_addN (a := 20) (b := k) t57_30 ?_
  refine ep_k1 (w := nI 1) t57_31 rfl ?_
  refine ep_addN (a := 20 + k) (b := 1) t57_32 ?_
  refine ep_aldN t57_33 rfl (Nat.le_of_ble_eq_true rfl) (Nat.ne_of_beq_eq_false rfl) (Nat.le_of_ble_eq_true rfl) (by omega) ?_
  refine ep_val (b := σ 34 ((20 + k) + 1)) (by (repeat rw [g_up_j (by omega)])) ?_
  refine ep_astN t57_34 rfl (Nat.le_of_ble_eq_true rfl) (Nat.le_of_ble_eq_true rfl) (by omega) ?_
  refine ep_aln t57_35 rfl ?_
  refine ep_getr (q := 34) t57_36 rfl (Nat.le_of_ble_eq_true rfl) rfl (rfl) ?_
  refine ep_iln t57_39 rfl ?_
  refine ep_iln t57_40 rfl ?_
  refine ep_addN (a := 20) (b := k) t57_41 ?_
  refine ep_k1 (w := nI 1) t57_42 rfl ?_
  refine ep_addN (a := 20 + k) (b := 1) t57_43 ?_
  refine ep_iln t57_44 rfl ?_
  refine ep_astN t57_45 rfl (Nat.le_of_ble_eq_true rfl) (Nat.le_of_ble_eq_true rfl) (by omega) ?_
  refine ep_inc (b := nI 28) (L' := [some (.ref 31), some (.int (nI k)), some (.int (nI 28)), some (.int (σ 34 (20 + k)))]) t57_46 rfl (nI_add 20 8) rfl (Nat.le_of_ble_eq_true rfl) ?_
  refine ep_gt t57_49 ?_
  refine ep_iln t57_2 rfl ?_
  refine ep_k2 (w := nI 36) t57_3 rfl ?_
  refine ep_ifP t57_5 (ic_ge (by omega) (by omega)) (fun (c5 : 36 ≤ 28) => (by omega)) (fun (c5 : ¬ (36 ≤ 28)) => ?_)
  refine ep_aln t57_8 rfl ?_
  refine ep_getr (q := 34) t57_9 rfl (Nat.le_of_ble_eq_true rfl) rfl (rfl) ?_
  refine ep_iln t57_12 rfl ?_
  refine ep_iln t57_13 rfl ?_
  refine ep_addN (a := 28) (b := k) t57_14 ?_
  refine ep_aldN t57_15 rfl (Nat.le_of_ble_eq_true rfl) (Nat.ne_of_beq_eq_false rfl) (Nat.le_of_ble_eq_true rfl) (by omega) ?_
  refine ep_val (b := σ 34 (28 + k)) (by (repeat rw [g_up_j (by omega)])) ?_
  refine ep_isn (L' := [some (.ref 31), some (.int (nI k)), some (.int (nI 28)), some (.int (σ 34 (28 + k)))]) t57_16 rfl (Nat.le_of_ble_eq_true rfl) ?_
  refine ep_aln t57_17 rfl ?_
  refine ep_getr (q := 34) t57_18 rfl (Nat.le_of_ble_eq_true rfl) rfl (rfl) ?_
  refine ep_iln t57_21 rfl ?_
  refine ep_iln t57_22 rfl ?_
  refine ep_addN (a := 28) (b := k) t57_23 ?_
  refine ep_aln t57_24 rfl ?_
  refine ep_getr (q := 34) t57_25 rfl (Nat.le_of_ble_eq_true rfl) rfl (rfl) ?_
  refine ep_iln t57_28 rfl ?_
  refine ep_iln t57_29 rfl ?_
  refine ep_addN (a := 28) (b := k) t57_30 ?_
  refine ep_k1 (w := nI 1) t57_31 rfl ?_
  refine ep_addN (a := 28 + k) (b := 1) t57_32 ?_
  refine ep_aldN t57_33 rfl (Nat.le_of_ble_eq_true rfl) (Nat.ne_of_beq_eq_false rfl) (Nat.le_of_ble_eq_true rfl) (by omega) ?_
  refine ep_val (b := σ 34 ((28 + k) + 1)) (by (repeat rw [g_up_j (by omega)])) ?_
  refine ep_astN t57_34 rfl (Nat.le_of_ble_eq_true rfl) (Nat.le_of_ble_eq_true rfl) (by omega) ?_
  refine ep_aln t57_35 rfl ?_
  refine ep_getr (q := 34) t57_36 rfl (Nat.le_of_ble_eq_true rfl) rfl (rfl) ?_
  refine ep_iln t57_39 rfl ?_
  refine ep_iln t57_40 rfl ?_
  refine ep_addN (a := 28) (b := k) t57_41 ?_
  refine ep_k1 (w := nI 1) t57_42 rfl ?_
  refine ep_addN (a := 28 + k) (b := 1) t57_43 ?_
  refine ep_iln t57_44 rfl ?_
  refine ep_astN t57_45 rfl (Nat.le_of_ble_eq_true rfl) (Nat.le_of_ble_eq_true rfl) (by omega) ?_
  refine ep_inc (b := nI 36) (L' := [some (.ref 31), some (.int (nI k)), some (.int (nI 36)), some (.int (σ 34 (28 + k)))]) t57_46 rfl (nI_add 28 8) rfl (Nat.le_of_ble_eq_true rfl) ?_
  refine ep_gt t57_49 ?_
  refine ep_iln t57_2 rfl ?_
  refine ep_k2 (w := nI 36) t57_3 rfl ?_
  refine ep_ifP t57_5 (ic_ge (by omega) (by omega)) (fun (c5 : 36 ≤ 36) => ?_) (fun (c5 : ¬ (36 ≤ 36)) => (by omega))
  refine ep_k1 (w := nI 0) t57_52 rfl ?_
  refine ep_isn (L' := [some (.ref 31), some (.int (nI k)), some (.int (nI 0)), some (.int (σ 34 (28 + k)))]) t57_53 rfl (Nat.le_of_ble_eq_true rfl) ?_
  obtain ⟨σa, ea⟩ : ∃ σa : gT1, σa = g_up (g_up (g_up (g_up (g_up (g_up (g_up (g_up σ 34 (4 + k) (σ 34 ((4 + k) + 1))) 34 ((4 + k) + 1) (σ 34 (4 + k))) 34 (12 + k) (σ 34 ((12 + k) + 1))) 34 ((12 + k) + 1) (σ 34 (12 + k))) 34 (20 + k) (σ 34 ((20 + k) + 1))) 34 ((20 + k) + 1) (σ 34 (20 + k))) 34 (28 + k) (σ 34 ((28 + k) + 1))) 34 ((28 + k) + 1) (σ 34 (28 + k)) := ⟨_, rfl⟩
  rw [← ea]
  have f34 : σa 34 = so_sw (σ 34) k := by
    rw [ea]
    refine funext (fun m => ?_)
    rw [g_up_at, g_up_at, g_up_at, g_up_at, g_up_at, g_up_at, g_up_at, g_up_at]
    rfl
  have fo : ∀ r, r ≠ 34 → σa r = σ r := fun r hr => by
    rw [ea]
    repeat rw [g_up_ne hr]
  refine L_ch (e := 0) (c := c) (by omega) (by decide) hc ((congrFun (fo 35 (by decide)) 0).trans hd.2.1) (fun σb b1 b2 b3 => ?_)
  refine L_ch (e := 1) (c := l) (by omega) (by decide) hl ((b2 1 (by decide)).trans ((congrFun (fo 35 (by decide)) 1).trans hd.2.2.1)) (fun σc c1 c2 c3 => ?_)
  refine ep_iln t57_54 rfl ?_
  refine ep_k1 (w := nI 1) t57_55 rfl ?_
  refine ep_ifP t57_56 (ic_gt (by omega) (by omega)) (fun (c56 : 1 < (1 + 1)) => ?_) (fun (c56 : ¬ (1 < (1 + 1))) => (by omega))
  refine ep_rv t57_102 ?_
  refine ⟨rfl, σc, rfl, fun r h1 h2 => (c1 r h2).trans ((b1 r h2).trans (fo r h1)), ?_, (c2 0 (by decide)).trans b3, c3, ?_, ?_, ?_⟩
  · rw [c1 34 (by decide), b1 34 (by decide), f34]
    exact so_sw_told hd.1 h8 hk
  · exact (c2 2 (by decide)).trans ((b2 2 (by decide)).trans ((congrFun (fo 35 (by decide)) 2).trans hd.2.2.2.1))
  · exact (c2 3 (by decide)).trans ((b2 3 (by decide)).trans ((congrFun (fo 35 (by decide)) 3).trans hd.2.2.2.2.1))
  · exact (c2 4 (by decide)).trans ((b2 4 (by decide)).trans ((congrFun (fo 35 (by decide)) 4).trans hd.2.2.2.2.2))

def so_S (σ0 : gT1) (T : Nat → Nat) (c l : Nat) (σ' : gT1) (T' : Nat → Nat) (c' l' : Nat) : Prop := (∀ r, r ≠ 34 → r ≠ 35 → σ' r = σ0 r) ∧ so_Prm T c l T' c' l' ∧ WFT T' ∧ (c' < 2 ^ T 3 ∧ l' < 2 ^ T 3) ∧ DrM σ' T' c' l' 
theorem L_s2 {X : gX} {q : Bool} {σ : gT1} {T : Nat → Nat} {c l r : Nat} {P : Option Value → gS → Prop} (hw : WFT T) (hr : r ≤ 8) (K : ∀ (σ' : gT1) (T' : Nat → Nat) (c' l' k : Nat), k ≤ 8 → so_S σ T c l σ' T' c' l' → so_I (so_ky T') (T 3) (r + 1) 0 → EvP X 58 86 [some (.ref 31), some (.int (nI r)), some (.int (nI k))] [] (47, g_rho q, σ') P) : ∀ (d k : Nat) (σ' : gT1) (T' : Nat → Nat) (c' l' : Nat), k + 1 + d = T 3 → so_S σ T c l σ' T' c' l' → so_I (so_ky T') (T 3) r k → EvP X 58 14 [some (.ref 31), some (.int (nI r)), some (.int (nI k))] [] (47, g_rho q, σ') P
  | 0, k, σ', T', c', l', hk, hS, hI => by
    obtain ⟨hf, hp, hw', ⟨hc', hl'⟩, hd⟩ := hS
    have hS : so_S σ T c l σ' T' c' l' := ⟨hf, hp, hw', ⟨hc', hl'⟩, hd⟩
    have h8 := hw.2.2.1
    have e3 : T' 3 = T 3 := hp.1 3 (by decide)
    refine ep_iln t58_14 rfl ?_
    refine ep_k1 (w := nI 1) t58_15 rfl ?_
    refine ep_addN (a := k) (b := 1) t58_16 ?_
    refine ep_aln t58_17 rfl ?_
    refine ep_getr (q := 34) t58_18 rfl (Nat.le_of_ble_eq_true rfl) rfl (rfl) ?_
    refine ep_k1 (w := nI 3) t58_21 rfl ?_
    refine ep_aldN t58_22 rfl (Nat.le_of_ble_eq_true rfl) (Nat.ne_of_beq_eq_false rfl) (Nat.le_of_ble_eq_true rfl) (by omega) ?_
    refine ep_val (b := nI (T 3)) ((hd.1.1 3 (by decide)).trans (congrArg nI e3)) ?_
    refine ep_ifP t58_23 (ic_ge (by omega) (by omega)) (fun (c23 : (T 3) ≤ (k + 1)) => ?_) (fun (c23 : ¬ ((T 3) ≤ (k + 1))) => (by omega))
    exact K σ' T' c' l' k (by omega) hS (hI.next (by omega))
  | d + 1, k, σ', T', c', l', hk, hS, hI => by
    obtain ⟨hf, hp, hw', ⟨hc', hl'⟩, hd⟩ := hS
    have hS : so_S σ T c l σ' T' c' l' := ⟨hf, hp, hw', ⟨hc', hl'⟩, hd⟩
    have h8 := hw.2.2.1
    have e3 : T' 3 = T 3 := hp.1 3 (by decide)
    have hk3 : k < T' 3 := by omega
    have hk4 : k + 1 < T' 3 := by omega
    have hc6 := Nat.lt_of_lt_of_le hc' (pow_le_256 h8)
    have hl6 := Nat.lt_of_lt_of_le hl' (pow_le_256 h8)
    have a1 := (hw'.2.2.2.1 k hk3).1
    have a2 := (hw'.2.2.2.1 k hk3).2.1
    have a3 := (hw'.2.2.2.1 (k + 1) hk4).1
    have a4 := (hw'.2.2.2.1 (k + 1) hk4).2.1
    refine ep_iln t58_14 rfl ?_
    refine ep_k1 (w := nI 1) t58_15 rfl ?_
    refine ep_addN (a := k) (b := 1) t58_16 ?_
    refine ep_aln t58_17 rfl ?_
    refine ep_getr (q := 34) t58_18 rfl (Nat.le_of_ble_eq_true rfl) rfl (rfl) ?_
    refine ep_k1 (w := nI 3) t58_21 rfl ?_
    refine ep_aldN t58_22 rfl (Nat.le_of_ble_eq_true rfl) (Nat.ne_of_beq_eq_false rfl) (Nat.le_of_ble_eq_true rfl) (by omega) ?_
    refine ep_val (b := nI (T 3)) ((hd.1.1 3 (by decide)).trans (congrArg nI e3)) ?_
    refine ep_ifP t58_23 (ic_ge (by omega) (by omega)) (fun (c23 : (T 3) ≤ (k + 1)) => (by omega)) (fun (c23 : ¬ ((T 3) ≤ (k + 1))) => ?_)
    refine ep_k2 (w := nI 100) t58_26 rfl ?_
    refine ep_aln t58_28 rfl ?_
    refine ep_getr (q := 34) t58_29 rfl (Nat.le_of_ble_eq_true rfl) rfl (rfl) ?_
    refine ep_k1 (w := nI 4) t58_32 rfl ?_
    refine ep_iln t58_33 rfl ?_
    refine ep_addN (a := 4) (b := k) t58_34 ?_
    refine ep_aldN t58_35 rfl (Nat.le_of_ble_eq_true rfl) (Nat.ne_of_beq_eq_false rfl) (Nat.le_of_ble_eq_true rfl) (by omega) ?_
    refine ep_val (b := nI (T' (4 + k))) ((hd.1.2 k hk3).1) ?_
    refine ep_mulN (a := 100) (b := T' (4 + k)) t58_36 ?_
    refine ep_aln t58_37 rfl ?_
    refine ep_getr (q := 34) t58_38 rfl (Nat.le_of_ble_eq_true rfl) rfl (rfl) ?_
    refine ep_k2 (w := nI 12) t58_41 rfl ?_
    refine ep_iln t58_43 rfl ?_
    refine ep_addN (a := 12) (b := k) t58_44 ?_
    refine ep_aldN t58_45 rfl (Nat.le_of_ble_eq_true rfl) (Nat.ne_of_beq_eq_false rfl) (Nat.le_of_ble_eq_true rfl) (by omega) ?_
    refine ep_val (b := nI (T' (12 + k))) ((hd.1.2 k hk3).2.1) ?_
    refine ep_addN (a := 100 * (T' (4 + k))) (b := T' (12 + k)) t58_46 ?_
    refine ep_k2 (w := nI 100) t58_47 rfl ?_
    refine ep_aln t58_49 rfl ?_
    refine ep_getr (q := 34) t58_50 rfl (Nat.le_of_ble_eq_true rfl) rfl (rfl) ?_
    refine ep_k1 (w := nI 4) t58_53 rfl ?_
    refine ep_iln t58_54 rfl ?_
    refine ep_addN (a := 4) (b := k) t58_55 ?_
    refine ep_k1 (w := nI 1) t58_56 rfl ?_
    refine ep_addN (a := 4 + k) (b := 1) t58_57 ?_
    refine ep_aldN t58_58 rfl (Nat.le_of_ble_eq_true rfl) (Nat.ne_of_beq_eq_false rfl) (Nat.le_of_ble_eq_true rfl) (by omega) ?_
    refine ep_val (b := nI (T' (4 + (k + 1)))) ((hd.1.2 (k + 1) hk4).1) ?_
    refine ep_mulN (a := 100) (b := T' (4 + (k + 1))) t58_59 ?_
    refine ep_aln t58_60 rfl ?_
    refine ep_getr (q := 34) t58_61 rfl (Nat.le_of_ble_eq_true rfl) rfl (rfl) ?_
    refine ep_k2 (w := nI 12) t58_64 rfl ?_
    refine ep_iln t58_66 rfl ?_
    refine ep_addN (a := 12) (b := k) t58_67 ?_
    refine ep_k1 (w := nI 1) t58_68 rfl ?_
    refine ep_addN (a := 12 + k) (b := 1) t58_69 ?_
    refine ep_aldN t58_70 rfl (Nat.le_of_ble_eq_true rfl) (Nat.ne_of_beq_eq_false rfl) (Nat.le_of_ble_eq_true rfl) (by omega) ?_
    refine ep_val (b := nI (T' (12 + (k + 1)))) ((hd.1.2 (k + 1) hk4).2.1) ?_
    refine ep_addN (a := 100 * (T' (4 + (k + 1)))) (b := T' (12 + (k + 1))) t58_71 ?_
    refine ep_ifP t58_72 (ic_le (by omega) (by omega)) (fun (c72 : ((100 * (T' (4 + k))) + (T' (12 + k))) ≤ ((100 * (T' (4 + (k + 1)))) + (T' (12 + (k + 1))))) => ?_) (fun (c72 : ¬ (((100 * (T' (4 + k))) + (T' (12 + k))) ≤ ((100 * (T' (4 + (k + 1)))) + (T' (12 + (k + 1)))))) => ?_)
    · refine ep_inc (b := nI (k + 1)) (L' := [some (.ref 31), some (.int (nI r)), some (.int (nI (k + 1)))]) t58_80 rfl (nI_add k 1) rfl (Nat.le_of_ble_eq_true rfl) ?_
      refine ep_gt t58_83 ?_
      refine L_s2 hw hr K d (k + 1) σ' T' c' l' (by omega) hS (hI.keep (by omega) (Nat.lt_of_le_of_ne c72 (fun z => ?_)))
      have z2 := so_ky_inj hw' hk3 hk4 z
      omega
    · refine ep_aln t58_75 rfl ?_
      refine ep_iln t58_76 rfl ?_
      obtain ⟨v9, g9, h9, rfl, σ1, rfl, m1, m2⟩ := cl_M_changes (X := X) (q := q) (σ := σ') (T := T') (c := c') (l := l') (k := k) hd (by omega) (by omega) (by omega) hk4
      refine ep_cv t58_77 rfl rfl (Nat.le_of_ble_eq_true rfl) (Nat.le_of_ble_eq_true rfl) (h9) ?_
      refine ep_inc (b := nI (k + 1)) (L' := [some (.ref 31), some (.int (nI r)), some (.int (nI (k + 1)))]) t58_80 rfl (nI_add k 1) rfl (Nat.le_of_ble_eq_true rfl) ?_
      refine ep_gt t58_83 ?_
      have hk5 : k + 1 < T 3 := by omega
      refine L_s2 hw hr K d (k + 1) σ1 (so_sw T' k) (so_swC c' k) (so_swC l' k) (by omega) ⟨fun r a b => (m1 r a b).trans (hf r a b), hp.sw h8 hk5, so_sw_wf hw' hk4, ⟨so_swC_lt hk5 hc', so_swC_lt hk5 hl'⟩, m2⟩ (hI.swap hk5 (Nat.lt_of_not_le c72) (fun i hi => so_sw_ky (by omega) (by omega)))
theorem L_s1 {X : gX} {q : Bool} {σ : gT1} {T : Nat → Nat} {c l : Nat} {P : Option Value → gS → Prop} (hw : WFT T) (K : ∀ σ' : gT1, (∀ r, r ≠ 34 → r ≠ 35 → σ' r = σ r) → DrM σ' (so_T T) (so_C T c) (so_C T l) → P none (47, g_rho q, σ')) : ∀ (d r : Nat) (σ' : gT1) (T' : Nat → Nat) (c' l' : Nat) (o2 : Option Value), r + d = T 3 → so_S σ T c l σ' T' c' l' → so_I (so_ky T') (T 3) r 0 → EvP X 58 2 [some (.ref 31), some (.int (nI r)), o2] [] (47, g_rho q, σ') P
  | 0, r, σ', T', c', l', o2, hk, hS, hI => by
    have h8 := hw.2.2.1
    refine ep_iln t58_2 rfl ?_
    refine ep_aln t58_3 rfl ?_
    refine ep_getr (q := 34) t58_4 rfl (Nat.le_of_ble_eq_true rfl) rfl (rfl) ?_
    refine ep_k1 (w := nI 3) t58_7 rfl ?_
    refine ep_aldN t58_8 rfl (Nat.le_of_ble_eq_true rfl) (Nat.ne_of_beq_eq_false rfl) (Nat.le_of_ble_eq_true rfl) (by omega) ?_
    refine ep_val (b := nI (T 3)) ((hS.2.2.2.2.1.1 3 (by decide)).trans (congrArg nI (hS.2.1.1 3 (by decide)))) ?_
    refine ep_ifP t58_9 (ic_ge (by omega) (by omega)) (fun (c9 : (T 3) ≤ r) => ?_) (fun (c9 : ¬ ((T 3) ≤ r)) => (by omega))
    refine ep_rv t58_92 ?_
    exact K σ' hS.1 (DrM.srt hw hS.2.1 hS.2.2.2.1.1 hS.2.2.2.1.2 (hI.done (by omega)) hS.2.2.2.2)
  | d + 1, r, σ', T', c', l', o2, hk, hS, hI => by
    have h8 := hw.2.2.1
    refine ep_iln t58_2 rfl ?_
    refine ep_aln t58_3 rfl ?_
    refine ep_getr (q := 34) t58_4 rfl (Nat.le_of_ble_eq_true rfl) rfl (rfl) ?_
    refine ep_k1 (w := nI 3) t58_7 rfl ?_
    refine ep_aldN t58_8 rfl (Nat.le_of_ble_eq_true rfl) (Nat.ne_of_beq_eq_false rfl) (Nat.le_of_ble_eq_true rfl) (by omega) ?_
    refine ep_val (b := nI (T 3)) ((hS.2.2.2.2.1.1 3 (by decide)).trans (congrArg nI (hS.2.1.1 3 (by decide)))) ?_
    refine ep_ifP t58_9 (ic_ge (by omega) (by omega)) (fun (c9 : (T 3) ≤ r) => (by omega)) (fun (c9 : ¬ ((T 3) ≤ r)) => ?_)
    refine ep_k1 (w := nI 0) t58_12 rfl ?_
    refine ep_isn (L' := [some (.ref 31), some (.int (nI r)), some (.int (nI 0))]) t58_13 rfl (Nat.le_of_ble_eq_true rfl) ?_
    refine L_s2 hw (by omega) (fun σ2 T2 c2 l2 k2 hk2 hS2 hI2 => ?_) (T 3 - 1) 0 σ' T' c' l' (by omega) hS hI
    refine ep_inc (b := nI (r + 1)) (L' := [some (.ref 31), some (.int (nI (r + 1))), some (.int (nI k2))]) t58_86 rfl (nI_add r 1) rfl (Nat.le_of_ble_eq_true rfl) ?_
    refine ep_gt t58_89 ?_
    exact L_s1 hw K d (r + 1) σ2 T2 c2 l2 _ (by omega) hS2 hI2
theorem cl_M_sorts {X : gX} {q : Bool} {σ : gT1} {T : Nat → Nat} {c l : Nat} (hw : WFD T c l) (hd : DrM σ T c l) : ClP X 58 [.ref 31] (47, g_rho q, σ) (fun v g1 => v = none ∧ ∃ σ1, g1 = (47, g_rho q, σ1) ∧ (∀ r, r ≠ 34 → r ≠ 35 → σ1 r = σ r) ∧ DrM σ1 (so_T T) (so_C T c) (so_C T l)) := by
  refine ClP.of ⟨Nat.le_of_ble_eq_true rfl, rfl⟩ ?_
  show EvP X 58 0 [some (.ref 31), none, none] [] (47, g_rho q, σ) _
  refine ep_k1 (w := nI 0) t58_0 rfl ?_
  refine ep_isn (L' := [some (.ref 31), some (.int (nI 0)), none]) t58_1 rfl (Nat.le_of_ble_eq_true rfl) ?_
  exact L_s1 hw.1 (fun σ1 a1 a2 => ⟨rfl, σ1, rfl, a1, a2⟩) (T 3) 0 σ T c l none (by omega) ⟨fun _ _ _ => rfl, so_Prm.rf, hw.1, ⟨hw.2.1, hw.2.2.1⟩, hd⟩ so_I.z

