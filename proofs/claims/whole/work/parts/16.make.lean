/-! Constructors. -/
theorem g_up_ne {σ : Nat → Nat → Int32} {p k q : Nat} {v : Int32} (h : q ≠ p) : g_up σ p k v q = σ q := by simp only [g_up, if_neg h]
theorem g_up_eq {σ : Nat → Nat → Int32} {p k : Nat} {v : Int32} : g_up σ p k v p k = v := by simp [g_up, upd]
theorem g_up_j {σ : Nat → Nat → Int32} {p k j : Nat} {v : Int32} (h : j ≠ k) : g_up σ p k v p j = σ p j := by simp [g_up, upd, h]
def RM (ρ : Nat → Nat → Option Nat) : Prop := ∀ e ∈ g_rM, ρ e.1 e.2.1 = some e.2.2
theorem RM_rho (q : Bool) : RM (g_rho q) := by
  unfold RM
  cases q <;> decide +kernel
theorem RM_r0 : RM g_r0 := by
  unfold RM
  decide +kernel
abbrev gT1 : Type := Nat → Nat → Int32
abbrev gT2 : Type := Nat → Nat → Option Nat
theorem cl_Text_init {X : gX} {ρ : gT2} {σ : gT1} (h : ∀ p, 2 ≤ p → σ p = fun _ => 0) : Cl X 0 [.ref 1] (2, ρ, σ) none (3, g_ur ρ 1 0 (some 2), σ) := by
  refine Cl.of ⟨Nat.le_of_ble_eq_true rfl, rfl⟩ ?_
  show EvP X 0 0 [some (.ref 1)] [] (2, ρ, σ) _
  refine ep_aln t0_0 rfl ?_
  refine ep_obj t0_1 ?_
  refine ep_aln t0_4 rfl ?_
  refine ep_k2 (w := nI 120) t0_5 rfl ?_
  refine ep_newi t0_7 rfl (Nat.le_of_ble_eq_true rfl) (Nat.le_of_ble_eq_true rfl) (h _ (by decide)) ?_
  refine ep_putr t0_9 rfl (Nat.le_of_ble_eq_true rfl) rfl (Nat.le_of_ble_eq_true rfl) ?_
  refine ep_rv t0_12 ?_
  exact ⟨rfl, rfl⟩

theorem cl_Draft_init {X : gX} {ρ : gT2} {σ : gT1} (h : ∀ p, 4 ≤ p → σ p = fun _ => 0) : Cl X 1 [.ref 3] (4, ρ, σ) none (7, g_ur (g_ur (g_ur ρ 3 6 (some 4)) 3 7 (some 5)) 3 8 (some 6), σ) := by
  refine Cl.of ⟨Nat.le_of_ble_eq_true rfl, rfl⟩ ?_
  show EvP X 1 0 [some (.ref 3)] [] (4, ρ, σ) _
  refine ep_aln t1_0 rfl ?_
  refine ep_obj t1_1 ?_
  refine ep_aln t1_4 rfl ?_
  refine ep_k2 (w := nI 26) t1_5 rfl ?_
  refine ep_newi t1_7 rfl (Nat.le_of_ble_eq_true rfl) (Nat.le_of_ble_eq_true rfl) (h _ (by decide)) ?_
  refine ep_putr t1_9 rfl (Nat.le_of_ble_eq_true rfl) rfl (Nat.le_of_ble_eq_true rfl) ?_
  refine ep_aln t1_12 rfl ?_
  refine ep_k2 (w := nI 26) t1_13 rfl ?_
  refine ep_newi t1_15 rfl (Nat.le_of_ble_eq_true rfl) (Nat.le_of_ble_eq_true rfl) (h _ (by decide)) ?_
  refine ep_putr t1_17 rfl (Nat.le_of_ble_eq_true rfl) rfl (Nat.le_of_ble_eq_true rfl) ?_
  refine ep_aln t1_20 rfl ?_
  refine ep_k2 (w := nI 26) t1_21 rfl ?_
  refine ep_newi t1_23 rfl (Nat.le_of_ble_eq_true rfl) (Nat.le_of_ble_eq_true rfl) (h _ (by decide)) ?_
  refine ep_putr t1_25 rfl (Nat.le_of_ble_eq_true rfl) rfl (Nat.le_of_ble_eq_true rfl) ?_
  refine ep_rv t1_28 ?_
  exact ⟨rfl, rfl⟩

theorem cl_Net_init_7 {X : gX} {ρ : gT2} {σ : gT1} (h : ∀ q, 8 ≤ q → σ q = fun _ => 0) : Cl X 2 [.ref 7] (8, ρ, σ) none (16, g_ur (g_ur (g_ur (g_ur (g_ur (g_ur (g_ur (g_ur ρ 7 6 (some 8)) 7 7 (some 9)) 7 8 (some 10)) 7 9 (some 11)) 7 10 (some 12)) 7 11 (some 13)) 7 12 (some 14)) 7 13 (some 15), g_up σ 7 0 (nI 3)) := by
  refine Cl.of ⟨Nat.le_of_ble_eq_true rfl, rfl⟩ ?_
  show EvP X 2 0 [some (.ref 7)] [] (8, ρ, σ) _
  refine ep_aln t2_0 rfl ?_
  refine ep_obj t2_1 ?_
  refine ep_aln t2_4 rfl ?_
  refine ep_k1 (w := nI 3) t2_5 rfl ?_
  refine ep_put t2_6 rfl (Nat.le_of_ble_eq_true rfl) rfl ?_
  refine ep_aln t2_9 rfl ?_
  refine ep_k2 (w := nI 8) t2_10 rfl ?_
  refine ep_newi t2_12 rfl (Nat.le_of_ble_eq_true rfl) (Nat.le_of_ble_eq_true rfl) (h _ (by decide)) ?_
  refine ep_putr t2_14 rfl (Nat.le_of_ble_eq_true rfl) rfl (Nat.le_of_ble_eq_true rfl) ?_
  refine ep_aln t2_17 rfl ?_
  refine ep_k2 (w := nI 8) t2_18 rfl ?_
  refine ep_newi t2_20 rfl (Nat.le_of_ble_eq_true rfl) (Nat.le_of_ble_eq_true rfl) (h _ (by decide)) ?_
  refine ep_putr t2_22 rfl (Nat.le_of_ble_eq_true rfl) rfl (Nat.le_of_ble_eq_true rfl) ?_
  refine ep_aln t2_25 rfl ?_
  refine ep_k2 (w := nI 8) t2_26 rfl ?_
  refine ep_newi t2_28 rfl (Nat.le_of_ble_eq_true rfl) (Nat.le_of_ble_eq_true rfl) (h _ (by decide)) ?_
  refine ep_putr t2_30 rfl (Nat.le_of_ble_eq_true rfl) rfl (Nat.le_of_ble_eq_true rfl) ?_
  refine ep_aln t2_33 rfl ?_
  refine ep_k2 (w := nI 8) t2_34 rfl ?_
  refine ep_newi t2_36 rfl (Nat.le_of_ble_eq_true rfl) (Nat.le_of_ble_eq_true rfl) (h _ (by decide)) ?_
  refine ep_putr t2_38 rfl (Nat.le_of_ble_eq_true rfl) rfl (Nat.le_of_ble_eq_true rfl) ?_
  refine ep_aln t2_41 rfl ?_
  refine ep_k3 (w := nI 256) t2_42 rfl ?_
  refine ep_newi t2_45 rfl (Nat.le_of_ble_eq_true rfl) (Nat.le_of_ble_eq_true rfl) (h _ (by decide)) ?_
  refine ep_putr t2_47 rfl (Nat.le_of_ble_eq_true rfl) rfl (Nat.le_of_ble_eq_true rfl) ?_
  refine ep_aln t2_50 rfl ?_
  refine ep_k3 (w := nI 256) t2_51 rfl ?_
  refine ep_newi t2_54 rfl (Nat.le_of_ble_eq_true rfl) (Nat.le_of_ble_eq_true rfl) (h _ (by decide)) ?_
  refine ep_putr t2_56 rfl (Nat.le_of_ble_eq_true rfl) rfl (Nat.le_of_ble_eq_true rfl) ?_
  refine ep_aln t2_59 rfl ?_
  refine ep_k3 (w := nI 256) t2_60 rfl ?_
  refine ep_newi t2_63 rfl (Nat.le_of_ble_eq_true rfl) (Nat.le_of_ble_eq_true rfl) (h _ (by decide)) ?_
  refine ep_putr t2_65 rfl (Nat.le_of_ble_eq_true rfl) rfl (Nat.le_of_ble_eq_true rfl) ?_
  refine ep_aln t2_68 rfl ?_
  refine ep_k2 (w := nI 6) t2_69 rfl ?_
  refine ep_newi t2_71 rfl (Nat.le_of_ble_eq_true rfl) (Nat.le_of_ble_eq_true rfl) (h _ (by decide)) ?_
  refine ep_putr t2_73 rfl (Nat.le_of_ble_eq_true rfl) rfl (Nat.le_of_ble_eq_true rfl) ?_
  refine ep_rv t2_76 ?_
  exact ⟨rfl, rfl⟩

theorem cl_Net_init_16 {X : gX} {ρ : gT2} {σ : gT1} (h : ∀ q, 17 ≤ q → σ q = fun _ => 0) : Cl X 2 [.ref 16] (17, ρ, σ) none (25, g_ur (g_ur (g_ur (g_ur (g_ur (g_ur (g_ur (g_ur ρ 16 6 (some 17)) 16 7 (some 18)) 16 8 (some 19)) 16 9 (some 20)) 16 10 (some 21)) 16 11 (some 22)) 16 12 (some 23)) 16 13 (some 24), g_up σ 16 0 (nI 3)) := by
  refine Cl.of ⟨Nat.le_of_ble_eq_true rfl, rfl⟩ ?_
  show EvP X 2 0 [some (.ref 16)] [] (17, ρ, σ) _
  refine ep_aln t2_0 rfl ?_
  refine ep_obj t2_1 ?_
  refine ep_aln t2_4 rfl ?_
  refine ep_k1 (w := nI 3) t2_5 rfl ?_
  refine ep_put t2_6 rfl (Nat.le_of_ble_eq_true rfl) rfl ?_
  refine ep_aln t2_9 rfl ?_
  refine ep_k2 (w := nI 8) t2_10 rfl ?_
  refine ep_newi t2_12 rfl (Nat.le_of_ble_eq_true rfl) (Nat.le_of_ble_eq_true rfl) (h _ (by decide)) ?_
  refine ep_putr t2_14 rfl (Nat.le_of_ble_eq_true rfl) rfl (Nat.le_of_ble_eq_true rfl) ?_
  refine ep_aln t2_17 rfl ?_
  refine ep_k2 (w := nI 8) t2_18 rfl ?_
  refine ep_newi t2_20 rfl (Nat.le_of_ble_eq_true rfl) (Nat.le_of_ble_eq_true rfl) (h _ (by decide)) ?_
  refine ep_putr t2_22 rfl (Nat.le_of_ble_eq_true rfl) rfl (Nat.le_of_ble_eq_true rfl) ?_
  refine ep_aln t2_25 rfl ?_
  refine ep_k2 (w := nI 8) t2_26 rfl ?_
  refine ep_newi t2_28 rfl (Nat.le_of_ble_eq_true rfl) (Nat.le_of_ble_eq_true rfl) (h _ (by decide)) ?_
  refine ep_putr t2_30 rfl (Nat.le_of_ble_eq_true rfl) rfl (Nat.le_of_ble_eq_true rfl) ?_
  refine ep_aln t2_33 rfl ?_
  refine ep_k2 (w := nI 8) t2_34 rfl ?_
  refine ep_newi t2_36 rfl (Nat.le_of_ble_eq_true rfl) (Nat.le_of_ble_eq_true rfl) (h _ (by decide)) ?_
  refine ep_putr t2_38 rfl (Nat.le_of_ble_eq_true rfl) rfl (Nat.le_of_ble_eq_true rfl) ?_
  refine ep_aln t2_41 rfl ?_
  refine ep_k3 (w := nI 256) t2_42 rfl ?_
  refine ep_newi t2_45 rfl (Nat.le_of_ble_eq_true rfl) (Nat.le_of_ble_eq_true rfl) (h _ (by decide)) ?_
  refine ep_putr t2_47 rfl (Nat.le_of_ble_eq_true rfl) rfl (Nat.le_of_ble_eq_true rfl) ?_
  refine ep_aln t2_50 rfl ?_
  refine ep_k3 (w := nI 256) t2_51 rfl ?_
  refine ep_newi t2_54 rfl (Nat.le_of_ble_eq_true rfl) (Nat.le_of_ble_eq_true rfl) (h _ (by decide)) ?_
  refine ep_putr t2_56 rfl (Nat.le_of_ble_eq_true rfl) rfl (Nat.le_of_ble_eq_true rfl) ?_
  refine ep_aln t2_59 rfl ?_
  refine ep_k3 (w := nI 256) t2_60 rfl ?_
  refine ep_newi t2_63 rfl (Nat.le_of_ble_eq_true rfl) (Nat.le_of_ble_eq_true rfl) (h _ (by decide)) ?_
  refine ep_putr t2_65 rfl (Nat.le_of_ble_eq_true rfl) rfl (Nat.le_of_ble_eq_true rfl) ?_
  refine ep_aln t2_68 rfl ?_
  refine ep_k2 (w := nI 6) t2_69 rfl ?_
  refine ep_newi t2_71 rfl (Nat.le_of_ble_eq_true rfl) (Nat.le_of_ble_eq_true rfl) (h _ (by decide)) ?_
  refine ep_putr t2_73 rfl (Nat.le_of_ble_eq_true rfl) rfl (Nat.le_of_ble_eq_true rfl) ?_
  refine ep_rv t2_76 ?_
  exact ⟨rfl, rfl⟩

theorem cl_B_setPrices {X : gX} {n : Nat} {ρ : gT2} {σ : gT1} (a b c : Int32) (hn : 31 ≤ n) (h6 : ρ 0 6 = some 25) : Cl X 3 [.ref 0, .int a, .int b, .int c] (n, ρ, σ) none (n, ρ, g_up (g_up (g_up σ 25 0 a) 25 1 b) 25 2 c) := by
  refine Cl.of ⟨Nat.le_of_ble_eq_true rfl, rfl⟩ ?_
  show EvP X 3 0 [some (.ref 0), some (.int a), some (.int b), some (.int c)] [] (n, ρ, σ) _
  refine ep_aln t3_0 rfl ?_
  refine ep_getr (q := 25) t3_1 rfl (by omega) rfl (h6) ?_
  refine ep_k1 (w := nI 0) t3_4 rfl ?_
  refine ep_iln t3_5 rfl ?_
  refine ep_astN t3_6 rfl (by omega) (Nat.le_of_ble_eq_true rfl) (by omega) ?_
  refine ep_aln t3_7 rfl ?_
  refine ep_getr (q := 25) t3_8 rfl (by omega) rfl (h6) ?_
  refine ep_k1 (w := nI 1) t3_11 rfl ?_
  refine ep_iln t3_12 rfl ?_
  refine ep_astN t3_13 rfl (by omega) (Nat.le_of_ble_eq_true rfl) (by omega) ?_
  refine ep_aln t3_14 rfl ?_
  refine ep_getr (q := 25) t3_15 rfl (by omega) rfl (h6) ?_
  refine ep_k1 (w := nI 2) t3_18 rfl ?_
  refine ep_iln t3_19 rfl ?_
  refine ep_astN t3_20 rfl (by omega) (Nat.le_of_ble_eq_true rfl) (by omega) ?_
  refine ep_rv t3_21 ?_
  exact ⟨rfl, rfl⟩

theorem cl_B_startAnew_7 {X : gX} {n : Nat} {ρ : gT2} {σ : gT1} (hn : 31 ≤ n) (h2 : ρ 0 2 = some 7) (h6 : ρ 0 6 = some 25) : Cl X 4 [.ref 0] (n, ρ, σ) none (n, ρ, g_up (g_up (g_up (g_up (g_up (g_up (g_up (g_up (g_up σ 0 4 (σ 7 4)) 0 5 (σ 7 5)) 25 0 (nI 1)) 25 1 (nI 2)) 25 2 (nI 3)) 0 8 (nI 0)) 0 10 (nI 0)) 0 14 (nI 0)) 0 12 (nI 0)) := by
  refine Cl.of ⟨Nat.le_of_ble_eq_true rfl, rfl⟩ ?_
  show EvP X 4 0 [some (.ref 0)] [] (n, ρ, σ) _
  refine ep_aln t4_0 rfl ?_
  refine ep_aln t4_1 rfl ?_
  refine ep_getr (q := 7) t4_2 rfl (by omega) rfl (h2) ?_
  refine ep_get t4_5 rfl (by omega) rfl ?_
  refine ep_put t4_8 rfl (by omega) rfl ?_
  refine ep_aln t4_11 rfl ?_
  refine ep_aln t4_12 rfl ?_
  refine ep_getr (q := 7) t4_13 rfl (by omega) rfl (h2) ?_
  refine ep_get t4_16 rfl (by omega) rfl ?_
  refine ep_put t4_19 rfl (by omega) rfl ?_
  refine ep_aln t4_22 rfl ?_
  refine ep_k1 (w := nI 1) t4_23 rfl ?_
  refine ep_k1 (w := nI 2) t4_24 rfl ?_
  refine ep_k1 (w := nI 3) t4_25 rfl ?_
  refine ep_cv t4_26 rfl rfl (by omega) (Nat.le_of_ble_eq_true rfl) (cl_B_setPrices _ _ _ hn h6) ?_
  refine ep_aln t4_29 rfl ?_
  refine ep_k1 (w := nI 0) t4_30 rfl ?_
  refine ep_put t4_31 rfl (by omega) rfl ?_
  refine ep_aln t4_34 rfl ?_
  refine ep_k1 (w := nI 0) t4_35 rfl ?_
  refine ep_put t4_36 rfl (by omega) rfl ?_
  refine ep_aln t4_39 rfl ?_
  refine ep_k1 (w := nI 0) t4_40 rfl ?_
  refine ep_put t4_41 rfl (by omega) rfl ?_
  refine ep_aln t4_44 rfl ?_
  refine ep_k1 (w := nI 0) t4_45 rfl ?_
  refine ep_put t4_46 rfl (by omega) rfl ?_
  refine ep_rv t4_49 ?_
  exact ⟨rfl, rfl⟩

theorem cl_B_startAnew_16 {X : gX} {n : Nat} {ρ : gT2} {σ : gT1} (hn : 31 ≤ n) (h2 : ρ 0 2 = some 16) (h6 : ρ 0 6 = some 25) : Cl X 4 [.ref 0] (n, ρ, σ) none (n, ρ, g_up (g_up (g_up (g_up (g_up (g_up (g_up (g_up (g_up σ 0 4 (σ 16 4)) 0 5 (σ 16 5)) 25 0 (nI 1)) 25 1 (nI 2)) 25 2 (nI 3)) 0 8 (nI 0)) 0 10 (nI 0)) 0 14 (nI 0)) 0 12 (nI 0)) := by
  refine Cl.of ⟨Nat.le_of_ble_eq_true rfl, rfl⟩ ?_
  show EvP X 4 0 [some (.ref 0)] [] (n, ρ, σ) _
  refine ep_aln t4_0 rfl ?_
  refine ep_aln t4_1 rfl ?_
  refine ep_getr (q := 16) t4_2 rfl (by omega) rfl (h2) ?_
  refine ep_get t4_5 rfl (by omega) rfl ?_
  refine ep_put t4_8 rfl (by omega) rfl ?_
  refine ep_aln t4_11 rfl ?_
  refine ep_aln t4_12 rfl ?_
  refine ep_getr (q := 16) t4_13 rfl (by omega) rfl (h2) ?_
  refine ep_get t4_16 rfl (by omega) rfl ?_
  refine ep_put t4_19 rfl (by omega) rfl ?_
  refine ep_aln t4_22 rfl ?_
  refine ep_k1 (w := nI 1) t4_23 rfl ?_
  refine ep_k1 (w := nI 2) t4_24 rfl ?_
  refine ep_k1 (w := nI 3) t4_25 rfl ?_
  refine ep_cv t4_26 rfl rfl (by omega) (Nat.le_of_ble_eq_true rfl) (cl_B_setPrices _ _ _ hn h6) ?_
  refine ep_aln t4_29 rfl ?_
  refine ep_k1 (w := nI 0) t4_30 rfl ?_
  refine ep_put t4_31 rfl (by omega) rfl ?_
  refine ep_aln t4_34 rfl ?_
  refine ep_k1 (w := nI 0) t4_35 rfl ?_
  refine ep_put t4_36 rfl (by omega) rfl ?_
  refine ep_aln t4_39 rfl ?_
  refine ep_k1 (w := nI 0) t4_40 rfl ?_
  refine ep_put t4_41 rfl (by omega) rfl ?_
  refine ep_aln t4_44 rfl ?_
  refine ep_k1 (w := nI 0) t4_45 rfl ?_
  refine ep_put t4_46 rfl (by omega) rfl ?_
  refine ep_rv t4_49 ?_
  exact ⟨rfl, rfl⟩

def s_B : gT1 := g_up (g_up (g_up (g_up (g_up (g_up (g_up (g_up (g_up (g_up (g_up (fun _ _ => 0) 7 0 (nI 3)) 16 0 (nI 3)) 0 4 ((g_up (g_up (fun _ _ => 0) 7 0 (nI 3)) 16 0 (nI 3)) 7 4)) 0 5 ((g_up (g_up (fun _ _ => 0) 7 0 (nI 3)) 16 0 (nI 3)) 7 5)) 25 0 (nI 1)) 25 1 (nI 2)) 25 2 (nI 3)) 0 8 (nI 0)) 0 10 (nI 0)) 0 14 (nI 0)) 0 12 (nI 0)
def r_B : gT2 := g_rof g_rB
theorem cl_B_init {X : gX}  : Cl X 5 [.ref 0] (1, fun _ _ => none, fun _ _ => 0) none (31, r_B, s_B) := by
  refine Cl.of ⟨Nat.le_of_ble_eq_true rfl, rfl⟩ ?_
  show EvP X 5 0 [some (.ref 0)] [] (1, fun _ _ => none, fun _ _ => 0) _
  refine ep_aln t5_0 rfl ?_
  refine ep_obj t5_1 ?_
  refine ep_aln t5_4 rfl ?_
  refine ep_new t5_5 rfl (Nat.le_of_ble_eq_true rfl) (rfl) (rfl) ?_
  refine ep_dup t5_8 rfl ?_
  refine ep_ci t5_9 (Nat.ne_of_beq_eq_false rfl) rfl (Nat.le_of_ble_eq_true rfl) (cl_Text_init (fun _ _ => rfl)) ?_
  refine ep_putr t5_12 rfl (Nat.le_of_ble_eq_true rfl) rfl (Nat.le_of_ble_eq_true rfl) ?_
  refine ep_aln t5_15 rfl ?_
  refine ep_new t5_16 rfl (Nat.le_of_ble_eq_true rfl) (rfl) (rfl) ?_
  refine ep_dup t5_19 rfl ?_
  refine ep_ci t5_20 (Nat.ne_of_beq_eq_false rfl) rfl (Nat.le_of_ble_eq_true rfl) (cl_Draft_init (fun _ _ => rfl)) ?_
  refine ep_putr t5_23 rfl (Nat.le_of_ble_eq_true rfl) rfl (Nat.le_of_ble_eq_true rfl) ?_
  refine ep_aln t5_26 rfl ?_
  refine ep_new t5_27 rfl (Nat.le_of_ble_eq_true rfl) (rfl) (rfl) ?_
  refine ep_dup t5_30 rfl ?_
  refine ep_ci t5_31 (Nat.ne_of_beq_eq_false rfl) rfl (Nat.le_of_ble_eq_true rfl) (cl_Net_init_7 (fun _ _ => rfl)) ?_
  refine ep_putr t5_34 rfl (Nat.le_of_ble_eq_true rfl) rfl (Nat.le_of_ble_eq_true rfl) ?_
  refine ep_aln t5_37 rfl ?_
  refine ep_new t5_38 rfl (Nat.le_of_ble_eq_true rfl) (rfl) (rfl) ?_
  refine ep_dup t5_41 rfl ?_
  refine ep_ci t5_42 (Nat.ne_of_beq_eq_false rfl) rfl (Nat.le_of_ble_eq_true rfl) (cl_Net_init_16 (fun p hp => g_up_ne (by omega))) ?_
  refine ep_putr t5_45 rfl (Nat.le_of_ble_eq_true rfl) rfl (Nat.le_of_ble_eq_true rfl) ?_
  refine ep_aln t5_48 rfl ?_
  refine ep_k1 (w := nI 3) t5_49 rfl ?_
  refine ep_newi t5_50 rfl (Nat.le_of_ble_eq_true rfl) (Nat.le_of_ble_eq_true rfl) (rfl) ?_
  refine ep_putr t5_52 rfl (Nat.le_of_ble_eq_true rfl) rfl (Nat.le_of_ble_eq_true rfl) ?_
  refine ep_aln t5_55 rfl ?_
  refine ep_k2 (w := nI 12) t5_56 rfl ?_
  refine ep_newi t5_58 rfl (Nat.le_of_ble_eq_true rfl) (Nat.le_of_ble_eq_true rfl) (rfl) ?_
  refine ep_putr t5_60 rfl (Nat.le_of_ble_eq_true rfl) rfl (Nat.le_of_ble_eq_true rfl) ?_
  refine ep_aln t5_63 rfl ?_
  refine ep_k2 (w := nI 10) t5_64 rfl ?_
  refine ep_newi t5_66 rfl (Nat.le_of_ble_eq_true rfl) (Nat.le_of_ble_eq_true rfl) (rfl) ?_
  refine ep_putr t5_68 rfl (Nat.le_of_ble_eq_true rfl) rfl (Nat.le_of_ble_eq_true rfl) ?_
  refine ep_aln t5_71 rfl ?_
  refine ep_k1 (w := nI 2) t5_72 rfl ?_
  refine ep_newi t5_73 rfl (Nat.le_of_ble_eq_true rfl) (Nat.le_of_ble_eq_true rfl) (rfl) ?_
  refine ep_putr t5_75 rfl (Nat.le_of_ble_eq_true rfl) rfl (Nat.le_of_ble_eq_true rfl) ?_
  refine ep_aln t5_78 rfl ?_
  refine ep_k2 (w := nI 6) t5_79 rfl ?_
  refine ep_newi t5_81 rfl (Nat.le_of_ble_eq_true rfl) (Nat.le_of_ble_eq_true rfl) (rfl) ?_
  refine ep_putr t5_83 rfl (Nat.le_of_ble_eq_true rfl) rfl (Nat.le_of_ble_eq_true rfl) ?_
  refine ep_aln t5_86 rfl ?_
  refine ep_k3 (w := nI 256) t5_87 rfl ?_
  refine ep_newi t5_90 rfl (Nat.le_of_ble_eq_true rfl) (Nat.le_of_ble_eq_true rfl) (rfl) ?_
  refine ep_putr t5_92 rfl (Nat.le_of_ble_eq_true rfl) rfl (Nat.le_of_ble_eq_true rfl) ?_
  refine ep_aln t5_95 rfl ?_
  refine ep_cv t5_96 rfl rfl (Nat.le_of_ble_eq_true rfl) (Nat.le_of_ble_eq_true rfl) (cl_B_startAnew_7 (by decide) rfl rfl) ?_
  refine ep_rv t5_99 ?_
  exact ⟨rfl, rfl⟩

theorem L_begins {X : gX} {ρ : gT2} {σ : gT1} {P : Option Value → gS → Prop} (hρ : RM ρ) (K : ∀ σ' : gT1, (∀ q, q ≠ 34 → σ' q = σ q) → (∀ j, j < 36 → σ' 34 j = 0) → EvP X 6 21 [some (.ref 31), some (.int (nI 36))] [] (47, ρ, σ') P) : ∀ (d k : Nat) (σ' : gT1), k + d = 36 → (∀ q, q ≠ 34 → σ' q = σ q) → (∀ j, j < k → σ' 34 j = 0) → EvP X 6 2 [some (.ref 31), some (.int (nI k))] [] (47, ρ, σ') P
  | 0, k, σ', hk, h1, h2 => by
    obtain rfl : k = 36 := by omega
    refine ep_iln t6_2 rfl ?_
    refine ep_k2 (w := nI 36) t6_3 rfl ?_
    refine ep_ifP t6_5 (ic_ge (by omega) (by omega)) (fun (c5 : 36 ≤ 36) => ?_) (fun (c5 : ¬ (36 ≤ 36)) => ?_)
    · exact K σ' h1 h2
    · exact absurd (Nat.le_refl 36) c5
  | d + 1, k, σ', hk, h1, h2 => by
    refine ep_iln t6_2 rfl ?_
    refine ep_k2 (w := nI 36) t6_3 rfl ?_
    refine ep_ifP t6_5 (ic_ge (by omega) (by omega)) (fun (c5 : 36 ≤ k) => ?_) (fun (c5 : ¬ (36 ≤ k)) => ?_)
    · omega
    · refine ep_aln t6_8 rfl ?_
      refine ep_getr (q := 34) t6_9 rfl (Nat.le_of_ble_eq_true rfl) rfl (hρ (31, 9, 34) (by decide)) ?_
      refine ep_iln t6_12 rfl ?_
      refine ep_k1 (w := nI 0) t6_13 rfl ?_
      refine ep_astN t6_14 rfl (Nat.le_of_ble_eq_true rfl) (Nat.le_of_ble_eq_true rfl) (by omega) ?_
      refine ep_inc (b := nI (k + 1)) (L' := [some (.ref 31), some (.int (nI (k + 1)))]) t6_15 rfl (nI_add k 1) rfl (Nat.le_of_ble_eq_true rfl) ?_
      refine ep_gt t6_18 ?_
      exact L_begins hρ K d (k + 1) _ (by omega) (fun q hq => (g_up_ne hq).trans (h1 q hq)) (fun j hj => by
              by_cases e : j = k
              · subst e; exact g_up_eq
              · exact (g_up_j e).trans (h2 j (by omega)))
theorem cl_M_begins {X : gX} {ρ : gT2} {σ : gT1} (hρ : RM ρ) : ClP X 6 [.ref 31] (47, ρ, σ) (fun v g1 => v = none ∧ (g1.1 = 47 ∧ g1.2.1 = ρ) ∧ (∀ q, q ≠ 34 → q ≠ 35 → g1.2.2 q = σ q) ∧ (∀ j, j < 36 → g1.2.2 34 j = if j = 0 then nI 3 else 0) ∧ g1.2.2 35 0 = nI 0 ∧ g1.2.2 35 1 = nI 0 ∧ g1.2.2 35 2 = nI 1 ∧ g1.2.2 35 3 = nI 2 ∧ g1.2.2 35 4 = nI 3) := by
  refine ClP.of ⟨Nat.le_of_ble_eq_true rfl, rfl⟩ ?_
  show EvP X 6 0 [some (.ref 31), none] [] (47, ρ, σ) _
  refine ep_k1 (w := nI 0) t6_0 rfl ?_
  refine ep_isn (L' := [some (.ref 31), some (.int (nI 0))]) t6_1 rfl (Nat.le_of_ble_eq_true rfl) ?_
  refine L_begins (σ := σ) hρ (fun σ' h1 h2 => ?_) 36 0 σ (by omega) (fun _ _ => rfl) (fun j hj => absurd hj (Nat.not_lt_zero j))
  refine ep_aln t6_21 rfl ?_
  refine ep_getr (q := 34) t6_22 rfl (Nat.le_of_ble_eq_true rfl) rfl (hρ (31, 9, 34) (by decide)) ?_
  refine ep_k1 (w := nI 0) t6_25 rfl ?_
  refine ep_k1 (w := nI 3) t6_26 rfl ?_
  refine ep_astN t6_27 rfl (Nat.le_of_ble_eq_true rfl) (Nat.le_of_ble_eq_true rfl) (by omega) ?_
  refine ep_aln t6_28 rfl ?_
  refine ep_getr (q := 35) t6_29 rfl (Nat.le_of_ble_eq_true rfl) rfl (hρ (31, 10, 35) (by decide)) ?_
  refine ep_k1 (w := nI 0) t6_32 rfl ?_
  refine ep_k1 (w := nI 0) t6_33 rfl ?_
  refine ep_astN t6_34 rfl (Nat.le_of_ble_eq_true rfl) (Nat.le_of_ble_eq_true rfl) (by omega) ?_
  refine ep_aln t6_35 rfl ?_
  refine ep_getr (q := 35) t6_36 rfl (Nat.le_of_ble_eq_true rfl) rfl (hρ (31, 10, 35) (by decide)) ?_
  refine ep_k1 (w := nI 1) t6_39 rfl ?_
  refine ep_k1 (w := nI 0) t6_40 rfl ?_
  refine ep_astN t6_41 rfl (Nat.le_of_ble_eq_true rfl) (Nat.le_of_ble_eq_true rfl) (by omega) ?_
  refine ep_aln t6_42 rfl ?_
  refine ep_getr (q := 35) t6_43 rfl (Nat.le_of_ble_eq_true rfl) rfl (hρ (31, 10, 35) (by decide)) ?_
  refine ep_k1 (w := nI 2) t6_46 rfl ?_
  refine ep_k1 (w := nI 1) t6_47 rfl ?_
  refine ep_astN t6_48 rfl (Nat.le_of_ble_eq_true rfl) (Nat.le_of_ble_eq_true rfl) (by omega) ?_
  refine ep_aln t6_49 rfl ?_
  refine ep_getr (q := 35) t6_50 rfl (Nat.le_of_ble_eq_true rfl) rfl (hρ (31, 10, 35) (by decide)) ?_
  refine ep_k1 (w := nI 3) t6_53 rfl ?_
  refine ep_k1 (w := nI 2) t6_54 rfl ?_
  refine ep_astN t6_55 rfl (Nat.le_of_ble_eq_true rfl) (Nat.le_of_ble_eq_true rfl) (by omega) ?_
  refine ep_aln t6_56 rfl ?_
  refine ep_getr (q := 35) t6_57 rfl (Nat.le_of_ble_eq_true rfl) rfl (hρ (31, 10, 35) (by decide)) ?_
  refine ep_k1 (w := nI 4) t6_60 rfl ?_
  refine ep_k1 (w := nI 3) t6_61 rfl ?_
  refine ep_astN t6_62 rfl (Nat.le_of_ble_eq_true rfl) (Nat.le_of_ble_eq_true rfl) (by omega) ?_
  refine ep_rv t6_63 ?_
  exact ⟨rfl, ⟨rfl, rfl⟩, fun q h34 h35 => by
    show g_up (g_up (g_up (g_up (g_up (g_up σ' 34 0 (nI 3)) 35 0 (nI 0)) 35 1 (nI 0)) 35 2 (nI 1)) 35 3 (nI 2)) 35 4 (nI 3) q = σ q
    simp only [g_up, if_neg h34, if_neg h35]
    exact h1 q h34, fun j hj => by
    show upd (σ' 34) 0 (nI 3) j = _
    unfold upd
    split
    · rfl
    · exact h2 j hj, rfl, rfl, rfl, rfl, rfl⟩

theorem L_settles1 {X : gX} {ρ : gT2} {σ : gT1} {P : Option Value → gS → Prop} (hρ : RM ρ) (K : ∀ σ' : gT1, (∀ q, q ≠ 33 → σ' q = σ q) → (∀ j, j < 36 → σ' 33 j = σ 34 j) → EvP X 7 26 [some (.ref 31), some (.int (nI 36))] [] (47, ρ, σ') P) : ∀ (d k : Nat) (σ' : gT1), k + d = 36 → (∀ q, q ≠ 33 → σ' q = σ q) → (∀ j, j < k → σ' 33 j = σ 34 j) → EvP X 7 2 [some (.ref 31), some (.int (nI k))] [] (47, ρ, σ') P
  | 0, k, σ', hk, h1, h2 => by
    obtain rfl : k = 36 := by omega
    refine ep_iln t7_2 rfl ?_
    refine ep_k2 (w := nI 36) t7_3 rfl ?_
    refine ep_ifP t7_5 (ic_ge (by omega) (by omega)) (fun (c5 : 36 ≤ 36) => ?_) (fun (c5 : ¬ (36 ≤ 36)) => ?_)
    · exact K σ' h1 h2
    · exact absurd (Nat.le_refl 36) c5
  | d + 1, k, σ', hk, h1, h2 => by
    refine ep_iln t7_2 rfl ?_
    refine ep_k2 (w := nI 36) t7_3 rfl ?_
    refine ep_ifP t7_5 (ic_ge (by omega) (by omega)) (fun (c5 : 36 ≤ k) => ?_) (fun (c5 : ¬ (36 ≤ k)) => ?_)
    · omega
    · refine ep_aln t7_8 rfl ?_
      refine ep_getr (q := 33) t7_9 rfl (Nat.le_of_ble_eq_true rfl) rfl (hρ (31, 8, 33) (by decide)) ?_
      refine ep_iln t7_12 rfl ?_
      refine ep_aln t7_13 rfl ?_
      refine ep_getr (q := 34) t7_14 rfl (Nat.le_of_ble_eq_true rfl) rfl (hρ (31, 9, 34) (by decide)) ?_
      refine ep_iln t7_17 rfl ?_
      refine ep_aldN t7_18 rfl (Nat.le_of_ble_eq_true rfl) (Nat.ne_of_beq_eq_false rfl) (Nat.le_of_ble_eq_true rfl) (by omega) ?_
      refine ep_astN t7_19 rfl (Nat.le_of_ble_eq_true rfl) (Nat.le_of_ble_eq_true rfl) (by omega) ?_
      refine ep_inc (b := nI (k + 1)) (L' := [some (.ref 31), some (.int (nI (k + 1)))]) t7_20 rfl (nI_add k 1) rfl (Nat.le_of_ble_eq_true rfl) ?_
      refine ep_gt t7_23 ?_
      exact L_settles1 hρ K d (k + 1) _ (by omega) (fun q hq => (g_up_ne hq).trans (h1 q hq)) (fun j hj => by
              by_cases e : j = k
              · subst e; exact g_up_eq.trans (by rw [h1 34 (by decide)])
              · exact (g_up_j e).trans (h2 j (by omega)))
theorem L_settles2 {X : gX} {ρ : gT2} {σ : gT1} {P : Option Value → gS → Prop} (hρ : RM ρ) (K : ∀ σ' : gT1, (∀ q, q ≠ 36 → σ' q = σ q) → (∀ j, j < 5 → σ' 36 j = σ 35 j) → EvP X 7 51 [some (.ref 31), some (.int (nI 5))] [] (47, ρ, σ') P) : ∀ (d k : Nat) (σ' : gT1), k + d = 5 → (∀ q, q ≠ 36 → σ' q = σ q) → (∀ j, j < k → σ' 36 j = σ 35 j) → EvP X 7 28 [some (.ref 31), some (.int (nI k))] [] (47, ρ, σ') P
  | 0, k, σ', hk, h1, h2 => by
    obtain rfl : k = 5 := by omega
    refine ep_iln t7_28 rfl ?_
    refine ep_k1 (w := nI 5) t7_29 rfl ?_
    refine ep_ifP t7_30 (ic_ge (by omega) (by omega)) (fun (c30 : 5 ≤ 5) => ?_) (fun (c30 : ¬ (5 ≤ 5)) => ?_)
    · exact K σ' h1 h2
    · exact absurd (Nat.le_refl 5) c30
  | d + 1, k, σ', hk, h1, h2 => by
    refine ep_iln t7_28 rfl ?_
    refine ep_k1 (w := nI 5) t7_29 rfl ?_
    refine ep_ifP t7_30 (ic_ge (by omega) (by omega)) (fun (c30 : 5 ≤ k) => ?_) (fun (c30 : ¬ (5 ≤ k)) => ?_)
    · omega
    · refine ep_aln t7_33 rfl ?_
      refine ep_getr (q := 36) t7_34 rfl (Nat.le_of_ble_eq_true rfl) rfl (hρ (31, 11, 36) (by decide)) ?_
      refine ep_iln t7_37 rfl ?_
      refine ep_aln t7_38 rfl ?_
      refine ep_getr (q := 35) t7_39 rfl (Nat.le_of_ble_eq_true rfl) rfl (hρ (31, 10, 35) (by decide)) ?_
      refine ep_iln t7_42 rfl ?_
      refine ep_aldN t7_43 rfl (Nat.le_of_ble_eq_true rfl) (Nat.ne_of_beq_eq_false rfl) (Nat.le_of_ble_eq_true rfl) (by omega) ?_
      refine ep_astN t7_44 rfl (Nat.le_of_ble_eq_true rfl) (Nat.le_of_ble_eq_true rfl) (by omega) ?_
      refine ep_inc (b := nI (k + 1)) (L' := [some (.ref 31), some (.int (nI (k + 1)))]) t7_45 rfl (nI_add k 1) rfl (Nat.le_of_ble_eq_true rfl) ?_
      refine ep_gt t7_48 ?_
      exact L_settles2 hρ K d (k + 1) _ (by omega) (fun q hq => (g_up_ne hq).trans (h1 q hq)) (fun j hj => by
              by_cases e : j = k
              · subst e; exact g_up_eq.trans (by rw [h1 35 (by decide)])
              · exact (g_up_j e).trans (h2 j (by omega)))
theorem cl_M_settles {X : gX} {ρ : gT2} {σ : gT1} (hρ : RM ρ) : ClP X 7 [.ref 31] (47, ρ, σ) (fun v g1 => v = none ∧ (g1.1 = 47 ∧ g1.2.1 = ρ) ∧ (∀ q, q ≠ 33 → q ≠ 36 → q ≠ 31 → q ≠ 39 → g1.2.2 q = σ q) ∧ (∀ j, j < 36 → g1.2.2 33 j = σ 34 j) ∧ (∀ j, j < 5 → g1.2.2 36 j = σ 35 j) ∧ (g1.2.2 31 2 = nI 0 ∧ g1.2.2 31 17 = nI 0 ∧ g1.2.2 31 20 = nI 0 ∧ g1.2.2 31 13 = nI 0) ∧ (∀ j, j ≠ 2 → j ≠ 17 → j ≠ 20 → j ≠ 13 → g1.2.2 31 j = σ 31 j) ∧ g1.2.2 39 0 = 0 ∧ g1.2.2 39 1 = 0) := by
  refine ClP.of ⟨Nat.le_of_ble_eq_true rfl, rfl⟩ ?_
  show EvP X 7 0 [some (.ref 31), none] [] (47, ρ, σ) _
  refine ep_k1 (w := nI 0) t7_0 rfl ?_
  refine ep_isn (L' := [some (.ref 31), some (.int (nI 0))]) t7_1 rfl (Nat.le_of_ble_eq_true rfl) ?_
  refine L_settles1 (σ := σ) hρ (fun σ1 h1 h2 => ?_) 36 0 σ (by omega) (fun _ _ => rfl) (fun j hj => absurd hj (Nat.not_lt_zero j))
  refine ep_k1 (w := nI 0) t7_26 rfl ?_
  refine ep_isn (L' := [some (.ref 31), some (.int (nI 0))]) t7_27 rfl (Nat.le_of_ble_eq_true rfl) ?_
  refine L_settles2 (σ := σ1) hρ (fun σ2 k1 k2 => ?_) 5 0 σ1 (by omega) (fun _ _ => rfl) (fun j hj => absurd hj (Nat.not_lt_zero j))
  refine ep_aln t7_51 rfl ?_
  refine ep_k1 (w := nI 0) t7_52 rfl ?_
  refine ep_put t7_53 rfl (Nat.le_of_ble_eq_true rfl) rfl ?_
  refine ep_aln t7_56 rfl ?_
  refine ep_k1 (w := nI 0) t7_57 rfl ?_
  refine ep_put t7_58 rfl (Nat.le_of_ble_eq_true rfl) rfl ?_
  refine ep_aln t7_61 rfl ?_
  refine ep_k1 (w := nI 0) t7_62 rfl ?_
  refine ep_put t7_63 rfl (Nat.le_of_ble_eq_true rfl) rfl ?_
  refine ep_aln t7_66 rfl ?_
  refine ep_k1 (w := nI 0) t7_67 rfl ?_
  refine ep_put t7_68 rfl (Nat.le_of_ble_eq_true rfl) rfl ?_
  refine ep_aln t7_71 rfl ?_
  refine ep_getr (q := 39) t7_72 rfl (Nat.le_of_ble_eq_true rfl) rfl (hρ (31, 15, 39) (by decide)) ?_
  refine ep_k1 (w := nI 0) t7_75 rfl ?_
  refine ep_k1 (w := nI 0) t7_76 rfl ?_
  refine ep_bstN t7_77 rfl (Nat.le_of_ble_eq_true rfl) (Nat.le_of_ble_eq_true rfl) (by omega) ?_
  refine ep_aln t7_78 rfl ?_
  refine ep_getr (q := 39) t7_79 rfl (Nat.le_of_ble_eq_true rfl) rfl (hρ (31, 15, 39) (by decide)) ?_
  refine ep_k1 (w := nI 1) t7_82 rfl ?_
  refine ep_k1 (w := nI 0) t7_83 rfl ?_
  refine ep_bstN t7_84 rfl (Nat.le_of_ble_eq_true rfl) (Nat.le_of_ble_eq_true rfl) (by omega) ?_
  refine ep_rv t7_85 ?_
  refine ⟨rfl, ⟨rfl, rfl⟩, fun q a1 a2 a3 a4 => ?_, fun j hj => ?_, fun j hj => ?_, ⟨rfl, rfl, rfl, rfl⟩, fun j b1 b2 b3 b4 => ?_, rfl, rfl⟩
  · simp only [g_up, if_neg a3, if_neg a4]
    rw [k1 q a2, h1 q a1]
  · show σ2 33 j = _
    rw [k1 33 (by decide)]
    exact h2 j hj
  · show σ2 36 j = _
    rw [k2 j hj, h1 35 (by decide)]
  · show upd (upd (upd (upd (σ2 31) 2 (nI 0)) 17 (nI 0)) 20 (nI 0)) 13 (nI 0) j = _
    simp only [upd, if_neg b1, if_neg b2, if_neg b3, if_neg b4]
    rw [k1 31 (by decide), h1 31 (by decide)]
