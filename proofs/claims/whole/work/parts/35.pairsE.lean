/-! Pairs: device, named. -/
/-- the model's scratch row has changed, nothing else -/
theorem Rel.scr {q : Bool} {σ σ' : gT1} (h : Rel q σ) (m1 : ∀ p, p ≠ 43 → p ≠ 44 → p ≠ 45 → p ≠ 46 → σ' p = σ p) : Rel q σ' := by
  obtain ⟨T, c, l, pr, hN, hW, hT, hO, hU, hI, hS⟩ := h
  have m : ∀ p, p < 43 → σ' p = σ p := fun p hp => m1 p (by omega) (by omega) (by omega) (by omega)
  have f : ∀ p k, p < 43 → σ' p k = σ p k := fun p k hp => congrFun (m p hp) k
  exact ⟨T, c, l, pr, hN.fr (fun p h1 h2 => m p (by omega)) (m 33 (by decide)), hW.fr (f 0 4 (by decide)) (f 0 5 (by decide)) (m 25 (by decide)) (m 36 (by decide)), hT.fr (f 1 1 (by decide)) (m 2 (by decide)) (f 31 2 (by decide)) (m 32 (by decide)), hO.fr (f 0 8 (by decide)) (m 26 (by decide)) (f 31 17 (by decide)) (m 40 (by decide)), hU.fr (f 0 10 (by decide)) (m 27 (by decide)) (f 31 13 (by decide)) (m 37 (by decide)), hI.fr (f 0 12 (by decide)) (m 28 (by decide)) (m 39 (by decide)) (m 38 (by decide)), hS.fr (f 0 14 (by decide)) (m 29 (by decide)) (f 31 20 (by decide)) (m 41 (by decide)) (m 42 (by decide))⟩
theorem Rel.scr1 {q : Bool} {σ σ' : gT1} (h : Rel q σ) (m1 : ∀ p, p ≠ 43 → σ' p = σ p) : Rel q σ' := h.scr (fun p h1 _ _ _ => m1 p h1)
theorem pr_device {X : gX} {q : Bool} {σ : gT1} (hR : Rel q σ) (a : Int32) (b : Int32) : Pair X 67 71 [.int a, .int b] q σ := by
  have hR0 := hR
  obtain ⟨T, c, l, pr, hN, hW, hT, hO, hU, hI, hS⟩ := hR
  obtain ⟨⟨hwf0, hwf1⟩, ⟨hwf2, hwf3⟩, hwf4, hwf5, hwf6⟩ := hN.1
  have hB3 : σ (np q) 3 = nI (T 3) := hN.2.1.1 3 (by decide)
  have hB0 : σ (np q) 0 = nI (T 0) := hN.2.1.1 0 (by decide)
  have hM3 : σ 33 3 = nI (T 3) := hN.2.2.1 3 (by decide)
  have hM0 : σ 33 0 = nI (T 0) := hN.2.2.1 0 (by decide)
  obtain ⟨hsn, e4, e5, e25, e36⟩ := id hW
  obtain ⟨hc, hl, hp0, hp1, hp2⟩ := hsn.lt hwf4
  have hw0 := hN.1.w0
  have hx2 := pow_le_256 hwf4
  have hx3 : (2 : Nat) ^ T 0 ≤ 256 := pow_le_256 (by omega)
  have hwl : ∀ k, why T l c k < 2147483648 := fun k => by have := why_le T l c k; omega
  cases hin : inR a (T 3) with
  | false =>
    refine Pair.of (ClP.of ⟨Nat.le_of_ble_eq_true rfl, rfl⟩ ?_)
    show EvP X 67 0 [some (.ref 0), some (.int a), some (.int b)] [] (47, g_rho q, σ) _
    refine ep_aln t67_0 rfl ?_
    refine ep_iln t67_1 rfl ?_
    refine ep_cv t67_2 rfl rfl (Nat.le_of_ble_eq_true rfl) (Nat.le_of_ble_eq_true rfl) (cl_B_isSwitch _ (by omega) hB3) ?_
    refine ep_bT t67_5 (fun (c5 : (inR a (T 3)) = true) => (by exact absurd c5 (by rw [hin]; decide))) (fun (c5 : (inR a (T 3)) = false) => ?_)
    refine ep_k1 (w := (-1)) t67_8 rfl ?_
    refine ep_ri t67_9 (fun h => absurd h (by decide)) ?_
    refine ⟨_, q, _, rfl, rfl, ClP.of ⟨Nat.le_of_ble_eq_true rfl, rfl⟩ ?_⟩
    show EvP X 71 0 [some (.ref 31), some (.int a), some (.int b)] [] (47, g_rho q, σ) _
    refine ep_aln t71_0 rfl ?_
    refine ep_k1 (w := nI 0) t71_1 rfl ?_
    refine ep_put t71_2 rfl (Nat.le_of_ble_eq_true rfl) rfl ?_
    refine ep_aln t71_5 rfl ?_
    refine ep_iln t71_6 rfl ?_
    refine ep_cv t71_7 rfl rfl (Nat.le_of_ble_eq_true rfl) (Nat.le_of_ble_eq_true rfl) (cl_M_isSwitch _ (by omega) hM3) ?_
    refine ep_bF t71_10 (fun (c10 : (inR a (T 3)) = false) => ?_) (fun (c10 : (inR a (T 3)) = true) => (by exact absurd c10 (by rw [hin]; decide)))
    refine ep_k1 (w := (-1)) t71_23 rfl ?_
    refine ep_ri t71_24 (fun h => absurd h (by decide)) ?_
    exact ⟨_, rfl, rfl, hR0.thrown _⟩
  | true =>
    obtain ⟨k, hk, rfl⟩ := inR_of (by omega) hin
    have hwk := hwl k
    have hkd := (hwf5 k hk).1
    have hnm := (hwf5 k hk).2.1.2
    have hfi := (hwf5 k hk).2.2.1
    cases hib : inB b 0 6 with
    | false =>
      refine Pair.of (ClP.of ⟨Nat.le_of_ble_eq_true rfl, rfl⟩ ?_)
      show EvP X 67 0 [some (.ref 0), some (.int (nI k)), some (.int b)] [] (47, g_rho q, σ) _
      refine ep_aln t67_0 rfl ?_
      refine ep_iln t67_1 rfl ?_
      refine ep_cv t67_2 rfl rfl (Nat.le_of_ble_eq_true rfl) (Nat.le_of_ble_eq_true rfl) (cl_B_isSwitch _ (by omega) hB3) ?_
      refine ep_bT t67_5 (fun (c5 : (inR (nI k) (T 3)) = true) => ?_) (fun (c5 : (inR (nI k) (T 3)) = false) => (by exact absurd c5 (by rw [hin]; decide)))
      refine ep_iln t67_10 rfl ?_
      refine ep_sw (t := 116) t67_11 (tgt_out (inB_F (x := 0) (y := 6) hib)) ?_
      refine ep_k1 (w := (-1)) t67_116 rfl ?_
      refine ep_ri t67_117 (fun h => absurd h (by decide)) ?_
      refine ⟨_, q, _, rfl, rfl, ClP.of ⟨Nat.le_of_ble_eq_true rfl, rfl⟩ ?_⟩
      show EvP X 71 0 [some (.ref 31), some (.int (nI k)), some (.int b)] [] (47, g_rho q, σ) _
      refine ep_aln t71_0 rfl ?_
      refine ep_k1 (w := nI 0) t71_1 rfl ?_
      refine ep_put t71_2 rfl (Nat.le_of_ble_eq_true rfl) rfl ?_
      refine ep_aln t71_5 rfl ?_
      refine ep_iln t71_6 rfl ?_
      refine ep_cv t71_7 rfl rfl (Nat.le_of_ble_eq_true rfl) (Nat.le_of_ble_eq_true rfl) (cl_M_isSwitch _ (by omega) hM3) ?_
      refine ep_bF t71_10 (fun (c10 : (inR (nI k) (T 3)) = false) => (by exact absurd c10 (by rw [hin]; decide))) (fun (c10 : (inR (nI k) (T 3)) = true) => ?_)
      refine ep_iln t71_13 rfl ?_
      refine ep_k1 (w := nI 0) t71_14 rfl ?_
      refine ep_k2 (w := nI 6) t71_15 rfl ?_
      refine ep_cs t71_17 (Nat.ne_of_beq_eq_false rfl) rfl (Nat.le_of_ble_eq_true rfl) (cl_M_inB _ (by decide) (by decide)) ?_
      refine ep_bT t71_20 (fun (c20 : (inB b 0 6) = true) => (by exact absurd c20 (by rw [hib]; decide))) (fun (c20 : (inB b 0 6) = false) => ?_)
      refine ep_k1 (w := (-1)) t71_23 rfl ?_
      refine ep_ri t71_24 (fun h => absurd h (by decide)) ?_
      exact ⟨_, rfl, rfl, hR0.thrown _⟩
    | true =>
      obtain ⟨t, ⟨-, ht⟩, rfl⟩ := inB_of hib
      clear hib
      obtain rfl | rfl | rfl | rfl | rfl | rfl | rfl := (by omega : t = 0 ∨ t = 1 ∨ t = 2 ∨ t = 3 ∨ t = 4 ∨ t = 5 ∨ t = 6)
      · cases q
        · refine Pair.of (ClP.of ⟨Nat.le_of_ble_eq_true rfl, rfl⟩ ?_)
          show EvP X 67 0 [some (.ref 0), some (.int (nI k)), some (.int (nI 0))] [] (47, g_rho false, σ) _
          refine ep_aln t67_0 rfl ?_
          refine ep_iln t67_1 rfl ?_
          refine ep_cv t67_2 rfl rfl (Nat.le_of_ble_eq_true rfl) (Nat.le_of_ble_eq_true rfl) (cl_B_isSwitch _ (by omega) hB3) ?_
          refine ep_bT t67_5 (fun (c5 : (inR (nI k) (T 3)) = true) => ?_) (fun (c5 : (inR (nI k) (T 3)) = false) => (by exact absurd c5 (by rw [hin]; decide)))
          refine ep_iln t67_10 rfl ?_
          refine ep_sw (t := 52) t67_11 (by decide +kernel) ?_
          refine ep_aln t67_52 rfl ?_
          refine ep_getr (q := 7) t67_53 rfl (Nat.le_of_ble_eq_true rfl) rfl (rfl) ?_
          refine ep_getr (q := 8) t67_56 rfl (Nat.le_of_ble_eq_true rfl) rfl (rfl) ?_
          refine ep_iln t67_59 rfl ?_
          refine ep_aldN t67_60 rfl (Nat.le_of_ble_eq_true rfl) (Nat.ne_of_beq_eq_false rfl) (Nat.le_of_ble_eq_true rfl) (by omega) ?_
          refine ep_val (b := nI (T (4 + k))) ((hN.2.1.2.1 k hk).1) ?_
          refine ep_ri t67_61 (fun h => absurd h (by decide)) ?_
          refine ⟨_, false, _, rfl, rfl, ClP.of ⟨Nat.le_of_ble_eq_true rfl, rfl⟩ ?_⟩
          show EvP X 71 0 [some (.ref 31), some (.int (nI k)), some (.int (nI 0))] [] (47, g_rho false, σ) _
          refine ep_aln t71_0 rfl ?_
          refine ep_k1 (w := nI 0) t71_1 rfl ?_
          refine ep_put t71_2 rfl (Nat.le_of_ble_eq_true rfl) rfl ?_
          refine ep_aln t71_5 rfl ?_
          refine ep_iln t71_6 rfl ?_
          refine ep_cv t71_7 rfl rfl (Nat.le_of_ble_eq_true rfl) (Nat.le_of_ble_eq_true rfl) (cl_M_isSwitch _ (by omega) hM3) ?_
          refine ep_bF t71_10 (fun (c10 : (inR (nI k) (T 3)) = false) => (by exact absurd c10 (by rw [hin]; decide))) (fun (c10 : (inR (nI k) (T 3)) = true) => ?_)
          refine ep_iln t71_13 rfl ?_
          refine ep_k1 (w := nI 0) t71_14 rfl ?_
          refine ep_k2 (w := nI 6) t71_15 rfl ?_
          refine ep_cs t71_17 (Nat.ne_of_beq_eq_false rfl) rfl (Nat.le_of_ble_eq_true rfl) (cl_M_inB _ (by decide) (by decide)) ?_
          refine ep_bT t71_20 (fun (c20 : (inB (nI 0) 0 6) = true) => ?_) (fun (c20 : (inB (nI 0) 0 6) = false) => (by exact absurd c20 (by decide)))
          refine ep_iln t71_25 rfl ?_
          refine ep_k1 (w := nI 4) t71_26 rfl ?_
          refine ep_ifP t71_27 (ic_ge (by omega) (by omega)) (fun (c27 : 4 ≤ 0) => (by exact absurd c27 (by omega))) (fun (c27 : ¬ (4 ≤ 0)) => ?_)
          refine ep_iln t71_30 rfl ?_
          refine ep_if0P t71_31 (ic0_ne (by omega)) (fun (c31 : ¬ 0 = 0) => (by exact absurd c31 (by omega))) (fun (c31 : ¬ (¬ 0 = 0)) => ?_)
          refine ep_aln t71_34 rfl ?_
          refine ep_getr (q := 33) t71_35 rfl (Nat.le_of_ble_eq_true rfl) rfl (rfl) ?_
          refine ep_k1 (w := nI 4) t71_38 rfl ?_
          refine ep_iln t71_39 rfl ?_
          refine ep_addN (a := 4) (b := k) t71_40 ?_
          refine ep_aldN t71_41 rfl (Nat.le_of_ble_eq_true rfl) (Nat.ne_of_beq_eq_false rfl) (Nat.le_of_ble_eq_true rfl) (by omega) ?_
          refine ep_val (b := nI (T (4 + k))) ((hN.2.2.2 k hk).1) ?_
          refine ep_gt t71_42 ?_
          refine ep_ri t71_88 (fun h => absurd h (by decide)) ?_
          exact ⟨_, rfl, rfl, hR0.thrown _⟩
        · refine Pair.of (ClP.of ⟨Nat.le_of_ble_eq_true rfl, rfl⟩ ?_)
          show EvP X 67 0 [some (.ref 0), some (.int (nI k)), some (.int (nI 0))] [] (47, g_rho true, σ) _
          refine ep_aln t67_0 rfl ?_
          refine ep_iln t67_1 rfl ?_
          refine ep_cv t67_2 rfl rfl (Nat.le_of_ble_eq_true rfl) (Nat.le_of_ble_eq_true rfl) (cl_B_isSwitch _ (by omega) hB3) ?_
          refine ep_bT t67_5 (fun (c5 : (inR (nI k) (T 3)) = true) => ?_) (fun (c5 : (inR (nI k) (T 3)) = false) => (by exact absurd c5 (by rw [hin]; decide)))
          refine ep_iln t67_10 rfl ?_
          refine ep_sw (t := 52) t67_11 (by decide +kernel) ?_
          refine ep_aln t67_52 rfl ?_
          refine ep_getr (q := 16) t67_53 rfl (Nat.le_of_ble_eq_true rfl) rfl (rfl) ?_
          refine ep_getr (q := 17) t67_56 rfl (Nat.le_of_ble_eq_true rfl) rfl (rfl) ?_
          refine ep_iln t67_59 rfl ?_
          refine ep_aldN t67_60 rfl (Nat.le_of_ble_eq_true rfl) (Nat.ne_of_beq_eq_false rfl) (Nat.le_of_ble_eq_true rfl) (by omega) ?_
          refine ep_val (b := nI (T (4 + k))) ((hN.2.1.2.1 k hk).1) ?_
          refine ep_ri t67_61 (fun h => absurd h (by decide)) ?_
          refine ⟨_, true, _, rfl, rfl, ClP.of ⟨Nat.le_of_ble_eq_true rfl, rfl⟩ ?_⟩
          show EvP X 71 0 [some (.ref 31), some (.int (nI k)), some (.int (nI 0))] [] (47, g_rho true, σ) _
          refine ep_aln t71_0 rfl ?_
          refine ep_k1 (w := nI 0) t71_1 rfl ?_
          refine ep_put t71_2 rfl (Nat.le_of_ble_eq_true rfl) rfl ?_
          refine ep_aln t71_5 rfl ?_
          refine ep_iln t71_6 rfl ?_
          refine ep_cv t71_7 rfl rfl (Nat.le_of_ble_eq_true rfl) (Nat.le_of_ble_eq_true rfl) (cl_M_isSwitch _ (by omega) hM3) ?_
          refine ep_bF t71_10 (fun (c10 : (inR (nI k) (T 3)) = false) => (by exact absurd c10 (by rw [hin]; decide))) (fun (c10 : (inR (nI k) (T 3)) = true) => ?_)
          refine ep_iln t71_13 rfl ?_
          refine ep_k1 (w := nI 0) t71_14 rfl ?_
          refine ep_k2 (w := nI 6) t71_15 rfl ?_
          refine ep_cs t71_17 (Nat.ne_of_beq_eq_false rfl) rfl (Nat.le_of_ble_eq_true rfl) (cl_M_inB _ (by decide) (by decide)) ?_
          refine ep_bT t71_20 (fun (c20 : (inB (nI 0) 0 6) = true) => ?_) (fun (c20 : (inB (nI 0) 0 6) = false) => (by exact absurd c20 (by decide)))
          refine ep_iln t71_25 rfl ?_
          refine ep_k1 (w := nI 4) t71_26 rfl ?_
          refine ep_ifP t71_27 (ic_ge (by omega) (by omega)) (fun (c27 : 4 ≤ 0) => (by exact absurd c27 (by omega))) (fun (c27 : ¬ (4 ≤ 0)) => ?_)
          refine ep_iln t71_30 rfl ?_
          refine ep_if0P t71_31 (ic0_ne (by omega)) (fun (c31 : ¬ 0 = 0) => (by exact absurd c31 (by omega))) (fun (c31 : ¬ (¬ 0 = 0)) => ?_)
          refine ep_aln t71_34 rfl ?_
          refine ep_getr (q := 33) t71_35 rfl (Nat.le_of_ble_eq_true rfl) rfl (rfl) ?_
          refine ep_k1 (w := nI 4) t71_38 rfl ?_
          refine ep_iln t71_39 rfl ?_
          refine ep_addN (a := 4) (b := k) t71_40 ?_
          refine ep_aldN t71_41 rfl (Nat.le_of_ble_eq_true rfl) (Nat.ne_of_beq_eq_false rfl) (Nat.le_of_ble_eq_true rfl) (by omega) ?_
          refine ep_val (b := nI (T (4 + k))) ((hN.2.2.2 k hk).1) ?_
          refine ep_gt t71_42 ?_
          refine ep_ri t71_88 (fun h => absurd h (by decide)) ?_
          exact ⟨_, rfl, rfl, hR0.thrown _⟩
      · cases q
        · refine Pair.of (ClP.of ⟨Nat.le_of_ble_eq_true rfl, rfl⟩ ?_)
          show EvP X 67 0 [some (.ref 0), some (.int (nI k)), some (.int (nI 1))] [] (47, g_rho false, σ) _
          refine ep_aln t67_0 rfl ?_
          refine ep_iln t67_1 rfl ?_
          refine ep_cv t67_2 rfl rfl (Nat.le_of_ble_eq_true rfl) (Nat.le_of_ble_eq_true rfl) (cl_B_isSwitch _ (by omega) hB3) ?_
          refine ep_bT t67_5 (fun (c5 : (inR (nI k) (T 3)) = true) => ?_) (fun (c5 : (inR (nI k) (T 3)) = false) => (by exact absurd c5 (by rw [hin]; decide)))
          refine ep_iln t67_10 rfl ?_
          refine ep_sw (t := 62) t67_11 (by decide +kernel) ?_
          refine ep_aln t67_62 rfl ?_
          refine ep_getr (q := 7) t67_63 rfl (Nat.le_of_ble_eq_true rfl) rfl (rfl) ?_
          refine ep_getr (q := 9) t67_66 rfl (Nat.le_of_ble_eq_true rfl) rfl (rfl) ?_
          refine ep_iln t67_69 rfl ?_
          refine ep_aldN t67_70 rfl (Nat.le_of_ble_eq_true rfl) (Nat.ne_of_beq_eq_false rfl) (Nat.le_of_ble_eq_true rfl) (by omega) ?_
          refine ep_val (b := nI (T (12 + k))) ((hN.2.1.2.1 k hk).2.1) ?_
          refine ep_ri t67_71 (fun h => absurd h (by decide)) ?_
          refine ⟨_, false, _, rfl, rfl, ClP.of ⟨Nat.le_of_ble_eq_true rfl, rfl⟩ ?_⟩
          show EvP X 71 0 [some (.ref 31), some (.int (nI k)), some (.int (nI 1))] [] (47, g_rho false, σ) _
          refine ep_aln t71_0 rfl ?_
          refine ep_k1 (w := nI 0) t71_1 rfl ?_
          refine ep_put t71_2 rfl (Nat.le_of_ble_eq_true rfl) rfl ?_
          refine ep_aln t71_5 rfl ?_
          refine ep_iln t71_6 rfl ?_
          refine ep_cv t71_7 rfl rfl (Nat.le_of_ble_eq_true rfl) (Nat.le_of_ble_eq_true rfl) (cl_M_isSwitch _ (by omega) hM3) ?_
          refine ep_bF t71_10 (fun (c10 : (inR (nI k) (T 3)) = false) => (by exact absurd c10 (by rw [hin]; decide))) (fun (c10 : (inR (nI k) (T 3)) = true) => ?_)
          refine ep_iln t71_13 rfl ?_
          refine ep_k1 (w := nI 0) t71_14 rfl ?_
          refine ep_k2 (w := nI 6) t71_15 rfl ?_
          refine ep_cs t71_17 (Nat.ne_of_beq_eq_false rfl) rfl (Nat.le_of_ble_eq_true rfl) (cl_M_inB _ (by decide) (by decide)) ?_
          refine ep_bT t71_20 (fun (c20 : (inB (nI 1) 0 6) = true) => ?_) (fun (c20 : (inB (nI 1) 0 6) = false) => (by exact absurd c20 (by decide)))
          refine ep_iln t71_25 rfl ?_
          refine ep_k1 (w := nI 4) t71_26 rfl ?_
          refine ep_ifP t71_27 (ic_ge (by omega) (by omega)) (fun (c27 : 4 ≤ 1) => (by exact absurd c27 (by omega))) (fun (c27 : ¬ (4 ≤ 1)) => ?_)
          refine ep_iln t71_30 rfl ?_
          refine ep_if0P t71_31 (ic0_ne (by omega)) (fun (c31 : ¬ 1 = 0) => ?_) (fun (c31 : ¬ (¬ 1 = 0)) => (by exact absurd (by omega) c31))
          refine ep_iln t71_45 rfl ?_
          refine ep_k1 (w := nI 1) t71_46 rfl ?_
          refine ep_ifP t71_47 (ic_ne (by omega) (by omega)) (fun (c47 : ¬ 1 = 1) => (by exact absurd c47 (by omega))) (fun (c47 : ¬ (¬ 1 = 1)) => ?_)
          refine ep_aln t71_50 rfl ?_
          refine ep_getr (q := 33) t71_51 rfl (Nat.le_of_ble_eq_true rfl) rfl (rfl) ?_
          refine ep_k2 (w := nI 12) t71_54 rfl ?_
          refine ep_iln t71_56 rfl ?_
          refine ep_addN (a := 12) (b := k) t71_57 ?_
          refine ep_aldN t71_58 rfl (Nat.le_of_ble_eq_true rfl) (Nat.ne_of_beq_eq_false rfl) (Nat.le_of_ble_eq_true rfl) (by omega) ?_
          refine ep_val (b := nI (T (12 + k))) ((hN.2.2.2 k hk).2.1) ?_
          refine ep_gt t71_59 ?_
          refine ep_ri t71_88 (fun h => absurd h (by decide)) ?_
          exact ⟨_, rfl, rfl, hR0.thrown _⟩
        · refine Pair.of (ClP.of ⟨Nat.le_of_ble_eq_true rfl, rfl⟩ ?_)
          show EvP X 67 0 [some (.ref 0), some (.int (nI k)), some (.int (nI 1))] [] (47, g_rho true, σ) _
          refine ep_aln t67_0 rfl ?_
          refine ep_iln t67_1 rfl ?_
          refine ep_cv t67_2 rfl rfl (Nat.le_of_ble_eq_true rfl) (Nat.le_of_ble_eq_true rfl) (cl_B_isSwitch _ (by omega) hB3) ?_
          refine ep_bT t67_5 (fun (c5 : (inR (nI k) (T 3)) = true) => ?_) (fun (c5 : (inR (nI k) (T 3)) = false) => (by exact absurd c5 (by rw [hin]; decide)))
          refine ep_iln t67_10 rfl ?_
          refine ep_sw (t := 62) t67_11 (by decide +kernel) ?_
          refine ep_aln t67_62 rfl ?_
          refine ep_getr (q := 16) t67_63 rfl (Nat.le_of_ble_eq_true rfl) rfl (rfl) ?_
          refine ep_getr (q := 18) t67_66 rfl (Nat.le_of_ble_eq_true rfl) rfl (rfl) ?_
          refine ep_iln t67_69 rfl ?_
          refine ep_aldN t67_70 rfl (Nat.le_of_ble_eq_true rfl) (Nat.ne_of_beq_eq_false rfl) (Nat.le_of_ble_eq_true rfl) (by omega) ?_
          refine ep_val (b := nI (T (12 + k))) ((hN.2.1.2.1 k hk).2.1) ?_
          refine ep_ri t67_71 (fun h => absurd h (by decide)) ?_
          refine ⟨_, true, _, rfl, rfl, ClP.of ⟨Nat.le_of_ble_eq_true rfl, rfl⟩ ?_⟩
          show EvP X 71 0 [some (.ref 31), some (.int (nI k)), some (.int (nI 1))] [] (47, g_rho true, σ) _
          refine ep_aln t71_0 rfl ?_
          refine ep_k1 (w := nI 0) t71_1 rfl ?_
          refine ep_put t71_2 rfl (Nat.le_of_ble_eq_true rfl) rfl ?_
          refine ep_aln t71_5 rfl ?_
          refine ep_iln t71_6 rfl ?_
          refine ep_cv t71_7 rfl rfl (Nat.le_of_ble_eq_true rfl) (Nat.le_of_ble_eq_true rfl) (cl_M_isSwitch _ (by omega) hM3) ?_
          refine ep_bF t71_10 (fun (c10 : (inR (nI k) (T 3)) = false) => (by exact absurd c10 (by rw [hin]; decide))) (fun (c10 : (inR (nI k) (T 3)) = true) => ?_)
          refine ep_iln t71_13 rfl ?_
          refine ep_k1 (w := nI 0) t71_14 rfl ?_
          refine ep_k2 (w := nI 6) t71_15 rfl ?_
          refine ep_cs t71_17 (Nat.ne_of_beq_eq_false rfl) rfl (Nat.le_of_ble_eq_true rfl) (cl_M_inB _ (by decide) (by decide)) ?_
          refine ep_bT t71_20 (fun (c20 : (inB (nI 1) 0 6) = true) => ?_) (fun (c20 : (inB (nI 1) 0 6) = false) => (by exact absurd c20 (by decide)))
          refine ep_iln t71_25 rfl ?_
          refine ep_k1 (w := nI 4) t71_26 rfl ?_
          refine ep_ifP t71_27 (ic_ge (by omega) (by omega)) (fun (c27 : 4 ≤ 1) => (by exact absurd c27 (by omega))) (fun (c27 : ¬ (4 ≤ 1)) => ?_)
          refine ep_iln t71_30 rfl ?_
          refine ep_if0P t71_31 (ic0_ne (by omega)) (fun (c31 : ¬ 1 = 0) => ?_) (fun (c31 : ¬ (¬ 1 = 0)) => (by exact absurd (by omega) c31))
          refine ep_iln t71_45 rfl ?_
          refine ep_k1 (w := nI 1) t71_46 rfl ?_
          refine ep_ifP t71_47 (ic_ne (by omega) (by omega)) (fun (c47 : ¬ 1 = 1) => (by exact absurd c47 (by omega))) (fun (c47 : ¬ (¬ 1 = 1)) => ?_)
          refine ep_aln t71_50 rfl ?_
          refine ep_getr (q := 33) t71_51 rfl (Nat.le_of_ble_eq_true rfl) rfl (rfl) ?_
          refine ep_k2 (w := nI 12) t71_54 rfl ?_
          refine ep_iln t71_56 rfl ?_
          refine ep_addN (a := 12) (b := k) t71_57 ?_
          refine ep_aldN t71_58 rfl (Nat.le_of_ble_eq_true rfl) (Nat.ne_of_beq_eq_false rfl) (Nat.le_of_ble_eq_true rfl) (by omega) ?_
          refine ep_val (b := nI (T (12 + k))) ((hN.2.2.2 k hk).2.1) ?_
          refine ep_gt t71_59 ?_
          refine ep_ri t71_88 (fun h => absurd h (by decide)) ?_
          exact ⟨_, rfl, rfl, hR0.thrown _⟩
      · cases q
        · refine Pair.of (ClP.of ⟨Nat.le_of_ble_eq_true rfl, rfl⟩ ?_)
          show EvP X 67 0 [some (.ref 0), some (.int (nI k)), some (.int (nI 2))] [] (47, g_rho false, σ) _
          refine ep_aln t67_0 rfl ?_
          refine ep_iln t67_1 rfl ?_
          refine ep_cv t67_2 rfl rfl (Nat.le_of_ble_eq_true rfl) (Nat.le_of_ble_eq_true rfl) (cl_B_isSwitch _ (by omega) hB3) ?_
          refine ep_bT t67_5 (fun (c5 : (inR (nI k) (T 3)) = true) => ?_) (fun (c5 : (inR (nI k) (T 3)) = false) => (by exact absurd c5 (by rw [hin]; decide)))
          refine ep_iln t67_10 rfl ?_
          refine ep_sw (t := 72) t67_11 (by decide +kernel) ?_
          refine ep_aln t67_72 rfl ?_
          refine ep_getr (q := 7) t67_73 rfl (Nat.le_of_ble_eq_true rfl) rfl (rfl) ?_
          refine ep_getr (q := 10) t67_76 rfl (Nat.le_of_ble_eq_true rfl) rfl (rfl) ?_
          refine ep_iln t67_79 rfl ?_
          refine ep_aldN t67_80 rfl (Nat.le_of_ble_eq_true rfl) (Nat.ne_of_beq_eq_false rfl) (Nat.le_of_ble_eq_true rfl) (by omega) ?_
          refine ep_val (b := nI (T (20 + k))) ((hN.2.1.2.1 k hk).2.2.1) ?_
          refine ep_ri t67_81 (fun h => absurd h (by decide)) ?_
          refine ⟨_, false, _, rfl, rfl, ClP.of ⟨Nat.le_of_ble_eq_true rfl, rfl⟩ ?_⟩
          show EvP X 71 0 [some (.ref 31), some (.int (nI k)), some (.int (nI 2))] [] (47, g_rho false, σ) _
          refine ep_aln t71_0 rfl ?_
          refine ep_k1 (w := nI 0) t71_1 rfl ?_
          refine ep_put t71_2 rfl (Nat.le_of_ble_eq_true rfl) rfl ?_
          refine ep_aln t71_5 rfl ?_
          refine ep_iln t71_6 rfl ?_
          refine ep_cv t71_7 rfl rfl (Nat.le_of_ble_eq_true rfl) (Nat.le_of_ble_eq_true rfl) (cl_M_isSwitch _ (by omega) hM3) ?_
          refine ep_bF t71_10 (fun (c10 : (inR (nI k) (T 3)) = false) => (by exact absurd c10 (by rw [hin]; decide))) (fun (c10 : (inR (nI k) (T 3)) = true) => ?_)
          refine ep_iln t71_13 rfl ?_
          refine ep_k1 (w := nI 0) t71_14 rfl ?_
          refine ep_k2 (w := nI 6) t71_15 rfl ?_
          refine ep_cs t71_17 (Nat.ne_of_beq_eq_false rfl) rfl (Nat.le_of_ble_eq_true rfl) (cl_M_inB _ (by decide) (by decide)) ?_
          refine ep_bT t71_20 (fun (c20 : (inB (nI 2) 0 6) = true) => ?_) (fun (c20 : (inB (nI 2) 0 6) = false) => (by exact absurd c20 (by decide)))
          refine ep_iln t71_25 rfl ?_
          refine ep_k1 (w := nI 4) t71_26 rfl ?_
          refine ep_ifP t71_27 (ic_ge (by omega) (by omega)) (fun (c27 : 4 ≤ 2) => (by exact absurd c27 (by omega))) (fun (c27 : ¬ (4 ≤ 2)) => ?_)
          refine ep_iln t71_30 rfl ?_
          refine ep_if0P t71_31 (ic0_ne (by omega)) (fun (c31 : ¬ 2 = 0) => ?_) (fun (c31 : ¬ (¬ 2 = 0)) => (by exact absurd (by omega) c31))
          refine ep_iln t71_45 rfl ?_
          refine ep_k1 (w := nI 1) t71_46 rfl ?_
          refine ep_ifP t71_47 (ic_ne (by omega) (by omega)) (fun (c47 : ¬ 2 = 1) => ?_) (fun (c47 : ¬ (¬ 2 = 1)) => (by exact absurd (by omega) c47))
          refine ep_iln t71_62 rfl ?_
          refine ep_k1 (w := nI 2) t71_63 rfl ?_
          refine ep_ifP t71_64 (ic_ne (by omega) (by omega)) (fun (c64 : ¬ 2 = 2) => (by exact absurd c64 (by omega))) (fun (c64 : ¬ (¬ 2 = 2)) => ?_)
          refine ep_aln t71_67 rfl ?_
          refine ep_getr (q := 33) t71_68 rfl (Nat.le_of_ble_eq_true rfl) rfl (rfl) ?_
          refine ep_k2 (w := nI 20) t71_71 rfl ?_
          refine ep_iln t71_73 rfl ?_
          refine ep_addN (a := 20) (b := k) t71_74 ?_
          refine ep_aldN t71_75 rfl (Nat.le_of_ble_eq_true rfl) (Nat.ne_of_beq_eq_false rfl) (Nat.le_of_ble_eq_true rfl) (by omega) ?_
          refine ep_val (b := nI (T (20 + k))) ((hN.2.2.2 k hk).2.2.1) ?_
          refine ep_gt t71_76 ?_
          refine ep_ri t71_88 (fun h => absurd h (by decide)) ?_
          exact ⟨_, rfl, rfl, hR0.thrown _⟩
        · refine Pair.of (ClP.of ⟨Nat.le_of_ble_eq_true rfl, rfl⟩ ?_)
          show EvP X 67 0 [some (.ref 0), some (.int (nI k)), some (.int (nI 2))] [] (47, g_rho true, σ) _
          refine ep_aln t67_0 rfl ?_
          refine ep_iln t67_1 rfl ?_
          refine ep_cv t67_2 rfl rfl (Nat.le_of_ble_eq_true rfl) (Nat.le_of_ble_eq_true rfl) (cl_B_isSwitch _ (by omega) hB3) ?_
          refine ep_bT t67_5 (fun (c5 : (inR (nI k) (T 3)) = true) => ?_) (fun (c5 : (inR (nI k) (T 3)) = false) => (by exact absurd c5 (by rw [hin]; decide)))
          refine ep_iln t67_10 rfl ?_
          refine ep_sw (t := 72) t67_11 (by decide +kernel) ?_
          refine ep_aln t67_72 rfl ?_
          refine ep_getr (q := 16) t67_73 rfl (Nat.le_of_ble_eq_true rfl) rfl (rfl) ?_
          refine ep_getr (q := 19) t67_76 rfl (Nat.le_of_ble_eq_true rfl) rfl (rfl) ?_
          refine ep_iln t67_79 rfl ?_
          refine ep_aldN t67_80 rfl (Nat.le_of_ble_eq_true rfl) (Nat.ne_of_beq_eq_false rfl) (Nat.le_of_ble_eq_true rfl) (by omega) ?_
          refine ep_val (b := nI (T (20 + k))) ((hN.2.1.2.1 k hk).2.2.1) ?_
          refine ep_ri t67_81 (fun h => absurd h (by decide)) ?_
          refine ⟨_, true, _, rfl, rfl, ClP.of ⟨Nat.le_of_ble_eq_true rfl, rfl⟩ ?_⟩
          show EvP X 71 0 [some (.ref 31), some (.int (nI k)), some (.int (nI 2))] [] (47, g_rho true, σ) _
          refine ep_aln t71_0 rfl ?_
          refine ep_k1 (w := nI 0) t71_1 rfl ?_
          refine ep_put t71_2 rfl (Nat.le_of_ble_eq_true rfl) rfl ?_
          refine ep_aln t71_5 rfl ?_
          refine ep_iln t71_6 rfl ?_
          refine ep_cv t71_7 rfl rfl (Nat.le_of_ble_eq_true rfl) (Nat.le_of_ble_eq_true rfl) (cl_M_isSwitch _ (by omega) hM3) ?_
          refine ep_bF t71_10 (fun (c10 : (inR (nI k) (T 3)) = false) => (by exact absurd c10 (by rw [hin]; decide))) (fun (c10 : (inR (nI k) (T 3)) = true) => ?_)
          refine ep_iln t71_13 rfl ?_
          refine ep_k1 (w := nI 0) t71_14 rfl ?_
          refine ep_k2 (w := nI 6) t71_15 rfl ?_
          refine ep_cs t71_17 (Nat.ne_of_beq_eq_false rfl) rfl (Nat.le_of_ble_eq_true rfl) (cl_M_inB _ (by decide) (by decide)) ?_
          refine ep_bT t71_20 (fun (c20 : (inB (nI 2) 0 6) = true) => ?_) (fun (c20 : (inB (nI 2) 0 6) = false) => (by exact absurd c20 (by decide)))
          refine ep_iln t71_25 rfl ?_
          refine ep_k1 (w := nI 4) t71_26 rfl ?_
          refine ep_ifP t71_27 (ic_ge (by omega) (by omega)) (fun (c27 : 4 ≤ 2) => (by exact absurd c27 (by omega))) (fun (c27 : ¬ (4 ≤ 2)) => ?_)
          refine ep_iln t71_30 rfl ?_
          refine ep_if0P t71_31 (ic0_ne (by omega)) (fun (c31 : ¬ 2 = 0) => ?_) (fun (c31 : ¬ (¬ 2 = 0)) => (by exact absurd (by omega) c31))
          refine ep_iln t71_45 rfl ?_
          refine ep_k1 (w := nI 1) t71_46 rfl ?_
          refine ep_ifP t71_47 (ic_ne (by omega) (by omega)) (fun (c47 : ¬ 2 = 1) => ?_) (fun (c47 : ¬ (¬ 2 = 1)) => (by exact absurd (by omega) c47))
          refine ep_iln t71_62 rfl ?_
          refine ep_k1 (w := nI 2) t71_63 rfl ?_
          refine ep_ifP t71_64 (ic_ne (by omega) (by omega)) (fun (c64 : ¬ 2 = 2) => (by exact absurd c64 (by omega))) (fun (c64 : ¬ (¬ 2 = 2)) => ?_)
          refine ep_aln t71_67 rfl ?_
          refine ep_getr (q := 33) t71_68 rfl (Nat.le_of_ble_eq_true rfl) rfl (rfl) ?_
          refine ep_k2 (w := nI 20) t71_71 rfl ?_
          refine ep_iln t71_73 rfl ?_
          refine ep_addN (a := 20) (b := k) t71_74 ?_
          refine ep_aldN t71_75 rfl (Nat.le_of_ble_eq_true rfl) (Nat.ne_of_beq_eq_false rfl) (Nat.le_of_ble_eq_true rfl) (by omega) ?_
          refine ep_val (b := nI (T (20 + k))) ((hN.2.2.2 k hk).2.2.1) ?_
          refine ep_gt t71_76 ?_
          refine ep_ri t71_88 (fun h => absurd h (by decide)) ?_
          exact ⟨_, rfl, rfl, hR0.thrown _⟩
      · cases q
        · refine Pair.of (ClP.of ⟨Nat.le_of_ble_eq_true rfl, rfl⟩ ?_)
          show EvP X 67 0 [some (.ref 0), some (.int (nI k)), some (.int (nI 3))] [] (47, g_rho false, σ) _
          refine ep_aln t67_0 rfl ?_
          refine ep_iln t67_1 rfl ?_
          refine ep_cv t67_2 rfl rfl (Nat.le_of_ble_eq_true rfl) (Nat.le_of_ble_eq_true rfl) (cl_B_isSwitch _ (by omega) hB3) ?_
          refine ep_bT t67_5 (fun (c5 : (inR (nI k) (T 3)) = true) => ?_) (fun (c5 : (inR (nI k) (T 3)) = false) => (by exact absurd c5 (by rw [hin]; decide)))
          refine ep_iln t67_10 rfl ?_
          refine ep_sw (t := 82) t67_11 (by decide +kernel) ?_
          refine ep_aln t67_82 rfl ?_
          refine ep_getr (q := 7) t67_83 rfl (Nat.le_of_ble_eq_true rfl) rfl (rfl) ?_
          refine ep_getr (q := 11) t67_86 rfl (Nat.le_of_ble_eq_true rfl) rfl (rfl) ?_
          refine ep_iln t67_89 rfl ?_
          refine ep_aldN t67_90 rfl (Nat.le_of_ble_eq_true rfl) (Nat.ne_of_beq_eq_false rfl) (Nat.le_of_ble_eq_true rfl) (by omega) ?_
          refine ep_val (b := sec T k) ((hN.2.1.2.1 k hk).2.2.2) ?_
          refine ep_ri t67_91 (fun h => absurd h (by decide)) ?_
          refine ⟨_, false, _, rfl, rfl, ClP.of ⟨Nat.le_of_ble_eq_true rfl, rfl⟩ ?_⟩
          show EvP X 71 0 [some (.ref 31), some (.int (nI k)), some (.int (nI 3))] [] (47, g_rho false, σ) _
          refine ep_aln t71_0 rfl ?_
          refine ep_k1 (w := nI 0) t71_1 rfl ?_
          refine ep_put t71_2 rfl (Nat.le_of_ble_eq_true rfl) rfl ?_
          refine ep_aln t71_5 rfl ?_
          refine ep_iln t71_6 rfl ?_
          refine ep_cv t71_7 rfl rfl (Nat.le_of_ble_eq_true rfl) (Nat.le_of_ble_eq_true rfl) (cl_M_isSwitch _ (by omega) hM3) ?_
          refine ep_bF t71_10 (fun (c10 : (inR (nI k) (T 3)) = false) => (by exact absurd c10 (by rw [hin]; decide))) (fun (c10 : (inR (nI k) (T 3)) = true) => ?_)
          refine ep_iln t71_13 rfl ?_
          refine ep_k1 (w := nI 0) t71_14 rfl ?_
          refine ep_k2 (w := nI 6) t71_15 rfl ?_
          refine ep_cs t71_17 (Nat.ne_of_beq_eq_false rfl) rfl (Nat.le_of_ble_eq_true rfl) (cl_M_inB _ (by decide) (by decide)) ?_
          refine ep_bT t71_20 (fun (c20 : (inB (nI 3) 0 6) = true) => ?_) (fun (c20 : (inB (nI 3) 0 6) = false) => (by exact absurd c20 (by decide)))
          refine ep_iln t71_25 rfl ?_
          refine ep_k1 (w := nI 4) t71_26 rfl ?_
          refine ep_ifP t71_27 (ic_ge (by omega) (by omega)) (fun (c27 : 4 ≤ 3) => (by exact absurd c27 (by omega))) (fun (c27 : ¬ (4 ≤ 3)) => ?_)
          refine ep_iln t71_30 rfl ?_
          refine ep_if0P t71_31 (ic0_ne (by omega)) (fun (c31 : ¬ 3 = 0) => ?_) (fun (c31 : ¬ (¬ 3 = 0)) => (by exact absurd (by omega) c31))
          refine ep_iln t71_45 rfl ?_
          refine ep_k1 (w := nI 1) t71_46 rfl ?_
          refine ep_ifP t71_47 (ic_ne (by omega) (by omega)) (fun (c47 : ¬ 3 = 1) => ?_) (fun (c47 : ¬ (¬ 3 = 1)) => (by exact absurd (by omega) c47))
          refine ep_iln t71_62 rfl ?_
          refine ep_k1 (w := nI 2) t71_63 rfl ?_
          refine ep_ifP t71_64 (ic_ne (by omega) (by omega)) (fun (c64 : ¬ 3 = 2) => ?_) (fun (c64 : ¬ (¬ 3 = 2)) => (by exact absurd (by omega) c64))
          refine ep_aln t71_79 rfl ?_
          refine ep_getr (q := 33) t71_80 rfl (Nat.le_of_ble_eq_true rfl) rfl (rfl) ?_
          refine ep_k2 (w := nI 28) t71_83 rfl ?_
          refine ep_iln t71_85 rfl ?_
          refine ep_addN (a := 28) (b := k) t71_86 ?_
          refine ep_aldN t71_87 rfl (Nat.le_of_ble_eq_true rfl) (Nat.ne_of_beq_eq_false rfl) (Nat.le_of_ble_eq_true rfl) (by omega) ?_
          refine ep_val (b := sec T k) ((hN.2.2.2 k hk).2.2.2) ?_
          refine ep_ri t71_88 (fun h => absurd h (by decide)) ?_
          exact ⟨_, rfl, rfl, hR0.thrown _⟩
        · refine Pair.of (ClP.of ⟨Nat.le_of_ble_eq_true rfl, rfl⟩ ?_)
          show EvP X 67 0 [some (.ref 0), some (.int (nI k)), some (.int (nI 3))] [] (47, g_rho true, σ) _
          refine ep_aln t67_0 rfl ?_
          refine ep_iln t67_1 rfl ?_
          refine ep_cv t67_2 rfl rfl (Nat.le_of_ble_eq_true rfl) (Nat.le_of_ble_eq_true rfl) (cl_B_isSwitch _ (by omega) hB3) ?_
          refine ep_bT t67_5 (fun (c5 : (inR (nI k) (T 3)) = true) => ?_) (fun (c5 : (inR (nI k) (T 3)) = false) => (by exact absurd c5 (by rw [hin]; decide)))
          refine ep_iln t67_10 rfl ?_
          refine ep_sw (t := 82) t67_11 (by decide +kernel) ?_
          refine ep_aln t67_82 rfl ?_
          refine ep_getr (q := 16) t67_83 rfl (Nat.le_of_ble_eq_true rfl) rfl (rfl) ?_
          refine ep_getr (q := 20) t67_86 rfl (Nat.le_of_ble_eq_true rfl) rfl (rfl) ?_
          refine ep_iln t67_89 rfl ?_
          refine ep_aldN t67_90 rfl (Nat.le_of_ble_eq_true rfl) (Nat.ne_of_beq_eq_false rfl) (Nat.le_of_ble_eq_true rfl) (by omega) ?_
          refine ep_val (b := sec T k) ((hN.2.1.2.1 k hk).2.2.2) ?_
          refine ep_ri t67_91 (fun h => absurd h (by decide)) ?_
          refine ⟨_, true, _, rfl, rfl, ClP.of ⟨Nat.le_of_ble_eq_true rfl, rfl⟩ ?_⟩
          show EvP X 71 0 [some (.ref 31), some (.int (nI k)), some (.int (nI 3))] [] (47, g_rho true, σ) _
          refine ep_aln t71_0 rfl ?_
          refine ep_k1 (w := nI 0) t71_1 rfl ?_
          refine ep_put t71_2 rfl (Nat.le_of_ble_eq_true rfl) rfl ?_
          refine ep_aln t71_5 rfl ?_
          refine ep_iln t71_6 rfl ?_
          refine ep_cv t71_7 rfl rfl (Nat.le_of_ble_eq_true rfl) (Nat.le_of_ble_eq_true rfl) (cl_M_isSwitch _ (by omega) hM3) ?_
          refine ep_bF t71_10 (fun (c10 : (inR (nI k) (T 3)) = false) => (by exact absurd c10 (by rw [hin]; decide))) (fun (c10 : (inR (nI k) (T 3)) = true) => ?_)
          refine ep_iln t71_13 rfl ?_
          refine ep_k1 (w := nI 0) t71_14 rfl ?_
          refine ep_k2 (w := nI 6) t71_15 rfl ?_
          refine ep_cs t71_17 (Nat.ne_of_beq_eq_false rfl) rfl (Nat.le_of_ble_eq_true rfl) (cl_M_inB _ (by decide) (by decide)) ?_
          refine ep_bT t71_20 (fun (c20 : (inB (nI 3) 0 6) = true) => ?_) (fun (c20 : (inB (nI 3) 0 6) = false) => (by exact absurd c20 (by decide)))
          refine ep_iln t71_25 rfl ?_
          refine ep_k1 (w := nI 4) t71_26 rfl ?_
          refine ep_ifP t71_27 (ic_ge (by omega) (by omega)) (fun (c27 : 4 ≤ 3) => (by exact absurd c27 (by omega))) (fun (c27 : ¬ (4 ≤ 3)) => ?_)
          refine ep_iln t71_30 rfl ?_
          refine ep_if0P t71_31 (ic0_ne (by omega)) (fun (c31 : ¬ 3 = 0) => ?_) (fun (c31 : ¬ (¬ 3 = 0)) => (by exact absurd (by omega) c31))
          refine ep_iln t71_45 rfl ?_
          refine ep_k1 (w := nI 1) t71_46 rfl ?_
          refine ep_ifP t71_47 (ic_ne (by omega) (by omega)) (fun (c47 : ¬ 3 = 1) => ?_) (fun (c47 : ¬ (¬ 3 = 1)) => (by exact absurd (by omega) c47))
          refine ep_iln t71_62 rfl ?_
          refine ep_k1 (w := nI 2) t71_63 rfl ?_
          refine ep_ifP t71_64 (ic_ne (by omega) (by omega)) (fun (c64 : ¬ 3 = 2) => ?_) (fun (c64 : ¬ (¬ 3 = 2)) => (by exact absurd (by omega) c64))
          refine ep_aln t71_79 rfl ?_
          refine ep_getr (q := 33) t71_80 rfl (Nat.le_of_ble_eq_true rfl) rfl (rfl) ?_
          refine ep_k2 (w := nI 28) t71_83 rfl ?_
          refine ep_iln t71_85 rfl ?_
          refine ep_addN (a := 28) (b := k) t71_86 ?_
          refine ep_aldN t71_87 rfl (Nat.le_of_ble_eq_true rfl) (Nat.ne_of_beq_eq_false rfl) (Nat.le_of_ble_eq_true rfl) (by omega) ?_
          refine ep_val (b := sec T k) ((hN.2.2.2 k hk).2.2.2) ?_
          refine ep_ri t71_88 (fun h => absurd h (by decide)) ?_
          exact ⟨_, rfl, rfl, hR0.thrown _⟩
      · cases q
        · refine Pair.of (ClP.of ⟨Nat.le_of_ble_eq_true rfl, rfl⟩ ?_)
          show EvP X 67 0 [some (.ref 0), some (.int (nI k)), some (.int (nI 4))] [] (47, g_rho false, σ) _
          refine ep_aln t67_0 rfl ?_
          refine ep_iln t67_1 rfl ?_
          refine ep_cv t67_2 rfl rfl (Nat.le_of_ble_eq_true rfl) (Nat.le_of_ble_eq_true rfl) (cl_B_isSwitch _ (by omega) hB3) ?_
          refine ep_bT t67_5 (fun (c5 : (inR (nI k) (T 3)) = true) => ?_) (fun (c5 : (inR (nI k) (T 3)) = false) => (by exact absurd c5 (by rw [hin]; decide)))
          refine ep_iln t67_10 rfl ?_
          refine ep_sw (t := 92) t67_11 (by decide +kernel) ?_
          refine ep_aln t67_92 rfl ?_
          refine ep_get t67_93 rfl (Nat.le_of_ble_eq_true rfl) rfl ?_
          refine ep_val (b := nI c) (e4) ?_
          refine ep_iln t67_96 rfl ?_
          refine ep_cs t67_97 (Nat.ne_of_beq_eq_false rfl) rfl (Nat.le_of_ble_eq_true rfl) (cl_B_bit (by omega) (by omega)) ?_
          refine ep_ri t67_100 (fun h => absurd h (by decide)) ?_
          refine ⟨_, false, _, rfl, rfl, ClP.of ⟨Nat.le_of_ble_eq_true rfl, rfl⟩ ?_⟩
          show EvP X 71 0 [some (.ref 31), some (.int (nI k)), some (.int (nI 4))] [] (47, g_rho false, σ) _
          refine ep_aln t71_0 rfl ?_
          refine ep_k1 (w := nI 0) t71_1 rfl ?_
          refine ep_put t71_2 rfl (Nat.le_of_ble_eq_true rfl) rfl ?_
          refine ep_aln t71_5 rfl ?_
          refine ep_iln t71_6 rfl ?_
          refine ep_cv t71_7 rfl rfl (Nat.le_of_ble_eq_true rfl) (Nat.le_of_ble_eq_true rfl) (cl_M_isSwitch _ (by omega) hM3) ?_
          refine ep_bF t71_10 (fun (c10 : (inR (nI k) (T 3)) = false) => (by exact absurd c10 (by rw [hin]; decide))) (fun (c10 : (inR (nI k) (T 3)) = true) => ?_)
          refine ep_iln t71_13 rfl ?_
          refine ep_k1 (w := nI 0) t71_14 rfl ?_
          refine ep_k2 (w := nI 6) t71_15 rfl ?_
          refine ep_cs t71_17 (Nat.ne_of_beq_eq_false rfl) rfl (Nat.le_of_ble_eq_true rfl) (cl_M_inB _ (by decide) (by decide)) ?_
          refine ep_bT t71_20 (fun (c20 : (inB (nI 4) 0 6) = true) => ?_) (fun (c20 : (inB (nI 4) 0 6) = false) => (by exact absurd c20 (by decide)))
          refine ep_iln t71_25 rfl ?_
          refine ep_k1 (w := nI 4) t71_26 rfl ?_
          refine ep_ifP t71_27 (ic_ge (by omega) (by omega)) (fun (c27 : 4 ≤ 4) => ?_) (fun (c27 : ¬ (4 ≤ 4)) => (by exact absurd (by omega) c27))
          refine ep_iln t71_89 rfl ?_
          refine ep_k1 (w := nI 4) t71_90 rfl ?_
          refine ep_ifP t71_91 (ic_ne (by omega) (by omega)) (fun (c91 : ¬ 4 = 4) => (by exact absurd c91 (by omega))) (fun (c91 : ¬ (¬ 4 = 4)) => ?_)
          refine ep_aln t71_94 rfl ?_
          refine ep_getr (q := 36) t71_95 rfl (Nat.le_of_ble_eq_true rfl) rfl (rfl) ?_
          refine ep_k1 (w := nI 0) t71_98 rfl ?_
          refine ep_aldN t71_99 rfl (Nat.le_of_ble_eq_true rfl) (Nat.ne_of_beq_eq_false rfl) (Nat.le_of_ble_eq_true rfl) (by omega) ?_
          refine ep_val (b := nI c) (e36 0 (by decide)) ?_
          refine ep_iln t71_100 rfl ?_
          refine ep_shrN (a := c) (b := k) t71_101 (by omega) (by omega) ?_
          refine ep_k1 (w := nI 1) t71_102 rfl ?_
          refine ep_andN (a := c / 2 ^ k) (b := 1) t71_103 ?_
          refine ep_val (b := bI (c.testBit k)) (by rw [Nat.and_one_is_mod, bI_bit]) ?_
          refine ep_gt t71_104 ?_
          refine ep_ri t71_136 (fun h => absurd h (by decide)) ?_
          exact ⟨_, rfl, rfl, hR0.thrown _⟩
        · refine Pair.of (ClP.of ⟨Nat.le_of_ble_eq_true rfl, rfl⟩ ?_)
          show EvP X 67 0 [some (.ref 0), some (.int (nI k)), some (.int (nI 4))] [] (47, g_rho true, σ) _
          refine ep_aln t67_0 rfl ?_
          refine ep_iln t67_1 rfl ?_
          refine ep_cv t67_2 rfl rfl (Nat.le_of_ble_eq_true rfl) (Nat.le_of_ble_eq_true rfl) (cl_B_isSwitch _ (by omega) hB3) ?_
          refine ep_bT t67_5 (fun (c5 : (inR (nI k) (T 3)) = true) => ?_) (fun (c5 : (inR (nI k) (T 3)) = false) => (by exact absurd c5 (by rw [hin]; decide)))
          refine ep_iln t67_10 rfl ?_
          refine ep_sw (t := 92) t67_11 (by decide +kernel) ?_
          refine ep_aln t67_92 rfl ?_
          refine ep_get t67_93 rfl (Nat.le_of_ble_eq_true rfl) rfl ?_
          refine ep_val (b := nI c) (e4) ?_
          refine ep_iln t67_96 rfl ?_
          refine ep_cs t67_97 (Nat.ne_of_beq_eq_false rfl) rfl (Nat.le_of_ble_eq_true rfl) (cl_B_bit (by omega) (by omega)) ?_
          refine ep_ri t67_100 (fun h => absurd h (by decide)) ?_
          refine ⟨_, true, _, rfl, rfl, ClP.of ⟨Nat.le_of_ble_eq_true rfl, rfl⟩ ?_⟩
          show EvP X 71 0 [some (.ref 31), some (.int (nI k)), some (.int (nI 4))] [] (47, g_rho true, σ) _
          refine ep_aln t71_0 rfl ?_
          refine ep_k1 (w := nI 0) t71_1 rfl ?_
          refine ep_put t71_2 rfl (Nat.le_of_ble_eq_true rfl) rfl ?_
          refine ep_aln t71_5 rfl ?_
          refine ep_iln t71_6 rfl ?_
          refine ep_cv t71_7 rfl rfl (Nat.le_of_ble_eq_true rfl) (Nat.le_of_ble_eq_true rfl) (cl_M_isSwitch _ (by omega) hM3) ?_
          refine ep_bF t71_10 (fun (c10 : (inR (nI k) (T 3)) = false) => (by exact absurd c10 (by rw [hin]; decide))) (fun (c10 : (inR (nI k) (T 3)) = true) => ?_)
          refine ep_iln t71_13 rfl ?_
          refine ep_k1 (w := nI 0) t71_14 rfl ?_
          refine ep_k2 (w := nI 6) t71_15 rfl ?_
          refine ep_cs t71_17 (Nat.ne_of_beq_eq_false rfl) rfl (Nat.le_of_ble_eq_true rfl) (cl_M_inB _ (by decide) (by decide)) ?_
          refine ep_bT t71_20 (fun (c20 : (inB (nI 4) 0 6) = true) => ?_) (fun (c20 : (inB (nI 4) 0 6) = false) => (by exact absurd c20 (by decide)))
          refine ep_iln t71_25 rfl ?_
          refine ep_k1 (w := nI 4) t71_26 rfl ?_
          refine ep_ifP t71_27 (ic_ge (by omega) (by omega)) (fun (c27 : 4 ≤ 4) => ?_) (fun (c27 : ¬ (4 ≤ 4)) => (by exact absurd (by omega) c27))
          refine ep_iln t71_89 rfl ?_
          refine ep_k1 (w := nI 4) t71_90 rfl ?_
          refine ep_ifP t71_91 (ic_ne (by omega) (by omega)) (fun (c91 : ¬ 4 = 4) => (by exact absurd c91 (by omega))) (fun (c91 : ¬ (¬ 4 = 4)) => ?_)
          refine ep_aln t71_94 rfl ?_
          refine ep_getr (q := 36) t71_95 rfl (Nat.le_of_ble_eq_true rfl) rfl (rfl) ?_
          refine ep_k1 (w := nI 0) t71_98 rfl ?_
          refine ep_aldN t71_99 rfl (Nat.le_of_ble_eq_true rfl) (Nat.ne_of_beq_eq_false rfl) (Nat.le_of_ble_eq_true rfl) (by omega) ?_
          refine ep_val (b := nI c) (e36 0 (by decide)) ?_
          refine ep_iln t71_100 rfl ?_
          refine ep_shrN (a := c) (b := k) t71_101 (by omega) (by omega) ?_
          refine ep_k1 (w := nI 1) t71_102 rfl ?_
          refine ep_andN (a := c / 2 ^ k) (b := 1) t71_103 ?_
          refine ep_val (b := bI (c.testBit k)) (by rw [Nat.and_one_is_mod, bI_bit]) ?_
          refine ep_gt t71_104 ?_
          refine ep_ri t71_136 (fun h => absurd h (by decide)) ?_
          exact ⟨_, rfl, rfl, hR0.thrown _⟩
      · cases q
        · refine Pair.of (ClP.of ⟨Nat.le_of_ble_eq_true rfl, rfl⟩ ?_)
          show EvP X 67 0 [some (.ref 0), some (.int (nI k)), some (.int (nI 5))] [] (47, g_rho false, σ) _
          refine ep_aln t67_0 rfl ?_
          refine ep_iln t67_1 rfl ?_
          refine ep_cv t67_2 rfl rfl (Nat.le_of_ble_eq_true rfl) (Nat.le_of_ble_eq_true rfl) (cl_B_isSwitch _ (by omega) hB3) ?_
          refine ep_bT t67_5 (fun (c5 : (inR (nI k) (T 3)) = true) => ?_) (fun (c5 : (inR (nI k) (T 3)) = false) => (by exact absurd c5 (by rw [hin]; decide)))
          refine ep_iln t67_10 rfl ?_
          refine ep_sw (t := 101) t67_11 (by decide +kernel) ?_
          refine ep_aln t67_101 rfl ?_
          refine ep_get t67_102 rfl (Nat.le_of_ble_eq_true rfl) rfl ?_
          refine ep_val (b := nI l) (e5) ?_
          refine ep_iln t67_105 rfl ?_
          refine ep_cs t67_106 (Nat.ne_of_beq_eq_false rfl) rfl (Nat.le_of_ble_eq_true rfl) (cl_B_bit (by omega) (by omega)) ?_
          refine ep_ri t67_109 (fun h => absurd h (by decide)) ?_
          refine ⟨_, false, _, rfl, rfl, ClP.of ⟨Nat.le_of_ble_eq_true rfl, rfl⟩ ?_⟩
          show EvP X 71 0 [some (.ref 31), some (.int (nI k)), some (.int (nI 5))] [] (47, g_rho false, σ) _
          refine ep_aln t71_0 rfl ?_
          refine ep_k1 (w := nI 0) t71_1 rfl ?_
          refine ep_put t71_2 rfl (Nat.le_of_ble_eq_true rfl) rfl ?_
          refine ep_aln t71_5 rfl ?_
          refine ep_iln t71_6 rfl ?_
          refine ep_cv t71_7 rfl rfl (Nat.le_of_ble_eq_true rfl) (Nat.le_of_ble_eq_true rfl) (cl_M_isSwitch _ (by omega) hM3) ?_
          refine ep_bF t71_10 (fun (c10 : (inR (nI k) (T 3)) = false) => (by exact absurd c10 (by rw [hin]; decide))) (fun (c10 : (inR (nI k) (T 3)) = true) => ?_)
          refine ep_iln t71_13 rfl ?_
          refine ep_k1 (w := nI 0) t71_14 rfl ?_
          refine ep_k2 (w := nI 6) t71_15 rfl ?_
          refine ep_cs t71_17 (Nat.ne_of_beq_eq_false rfl) rfl (Nat.le_of_ble_eq_true rfl) (cl_M_inB _ (by decide) (by decide)) ?_
          refine ep_bT t71_20 (fun (c20 : (inB (nI 5) 0 6) = true) => ?_) (fun (c20 : (inB (nI 5) 0 6) = false) => (by exact absurd c20 (by decide)))
          refine ep_iln t71_25 rfl ?_
          refine ep_k1 (w := nI 4) t71_26 rfl ?_
          refine ep_ifP t71_27 (ic_ge (by omega) (by omega)) (fun (c27 : 4 ≤ 5) => ?_) (fun (c27 : ¬ (4 ≤ 5)) => (by exact absurd (by omega) c27))
          refine ep_iln t71_89 rfl ?_
          refine ep_k1 (w := nI 4) t71_90 rfl ?_
          refine ep_ifP t71_91 (ic_ne (by omega) (by omega)) (fun (c91 : ¬ 5 = 4) => ?_) (fun (c91 : ¬ (¬ 5 = 4)) => (by exact absurd (by omega) c91))
          refine ep_iln t71_107 rfl ?_
          refine ep_k1 (w := nI 5) t71_108 rfl ?_
          refine ep_ifP t71_109 (ic_ne (by omega) (by omega)) (fun (c109 : ¬ 5 = 5) => (by exact absurd c109 (by omega))) (fun (c109 : ¬ (¬ 5 = 5)) => ?_)
          refine ep_aln t71_112 rfl ?_
          refine ep_getr (q := 36) t71_113 rfl (Nat.le_of_ble_eq_true rfl) rfl (rfl) ?_
          refine ep_k1 (w := nI 1) t71_116 rfl ?_
          refine ep_aldN t71_117 rfl (Nat.le_of_ble_eq_true rfl) (Nat.ne_of_beq_eq_false rfl) (Nat.le_of_ble_eq_true rfl) (by omega) ?_
          refine ep_val (b := nI l) (e36 1 (by decide)) ?_
          refine ep_iln t71_118 rfl ?_
          refine ep_shrN (a := l) (b := k) t71_119 (by omega) (by omega) ?_
          refine ep_k1 (w := nI 1) t71_120 rfl ?_
          refine ep_andN (a := l / 2 ^ k) (b := 1) t71_121 ?_
          refine ep_val (b := bI (l.testBit k)) (by rw [Nat.and_one_is_mod, bI_bit]) ?_
          refine ep_gt t71_122 ?_
          refine ep_ri t71_136 (fun h => absurd h (by decide)) ?_
          exact ⟨_, rfl, rfl, hR0.thrown _⟩
        · refine Pair.of (ClP.of ⟨Nat.le_of_ble_eq_true rfl, rfl⟩ ?_)
          show EvP X 67 0 [some (.ref 0), some (.int (nI k)), some (.int (nI 5))] [] (47, g_rho true, σ) _
          refine ep_aln t67_0 rfl ?_
          refine ep_iln t67_1 rfl ?_
          refine ep_cv t67_2 rfl rfl (Nat.le_of_ble_eq_true rfl) (Nat.le_of_ble_eq_true rfl) (cl_B_isSwitch _ (by omega) hB3) ?_
          refine ep_bT t67_5 (fun (c5 : (inR (nI k) (T 3)) = true) => ?_) (fun (c5 : (inR (nI k) (T 3)) = false) => (by exact absurd c5 (by rw [hin]; decide)))
          refine ep_iln t67_10 rfl ?_
          refine ep_sw (t := 101) t67_11 (by decide +kernel) ?_
          refine ep_aln t67_101 rfl ?_
          refine ep_get t67_102 rfl (Nat.le_of_ble_eq_true rfl) rfl ?_
          refine ep_val (b := nI l) (e5) ?_
          refine ep_iln t67_105 rfl ?_
          refine ep_cs t67_106 (Nat.ne_of_beq_eq_false rfl) rfl (Nat.le_of_ble_eq_true rfl) (cl_B_bit (by omega) (by omega)) ?_
          refine ep_ri t67_109 (fun h => absurd h (by decide)) ?_
          refine ⟨_, true, _, rfl, rfl, ClP.of ⟨Nat.le_of_ble_eq_true rfl, rfl⟩ ?_⟩
          show EvP X 71 0 [some (.ref 31), some (.int (nI k)), some (.int (nI 5))] [] (47, g_rho true, σ) _
          refine ep_aln t71_0 rfl ?_
          refine ep_k1 (w := nI 0) t71_1 rfl ?_
          refine ep_put t71_2 rfl (Nat.le_of_ble_eq_true rfl) rfl ?_
          refine ep_aln t71_5 rfl ?_
          refine ep_iln t71_6 rfl ?_
          refine ep_cv t71_7 rfl rfl (Nat.le_of_ble_eq_true rfl) (Nat.le_of_ble_eq_true rfl) (cl_M_isSwitch _ (by omega) hM3) ?_
          refine ep_bF t71_10 (fun (c10 : (inR (nI k) (T 3)) = false) => (by exact absurd c10 (by rw [hin]; decide))) (fun (c10 : (inR (nI k) (T 3)) = true) => ?_)
          refine ep_iln t71_13 rfl ?_
          refine ep_k1 (w := nI 0) t71_14 rfl ?_
          refine ep_k2 (w := nI 6) t71_15 rfl ?_
          refine ep_cs t71_17 (Nat.ne_of_beq_eq_false rfl) rfl (Nat.le_of_ble_eq_true rfl) (cl_M_inB _ (by decide) (by decide)) ?_
          refine ep_bT t71_20 (fun (c20 : (inB (nI 5) 0 6) = true) => ?_) (fun (c20 : (inB (nI 5) 0 6) = false) => (by exact absurd c20 (by decide)))
          refine ep_iln t71_25 rfl ?_
          refine ep_k1 (w := nI 4) t71_26 rfl ?_
          refine ep_ifP t71_27 (ic_ge (by omega) (by omega)) (fun (c27 : 4 ≤ 5) => ?_) (fun (c27 : ¬ (4 ≤ 5)) => (by exact absurd (by omega) c27))
          refine ep_iln t71_89 rfl ?_
          refine ep_k1 (w := nI 4) t71_90 rfl ?_
          refine ep_ifP t71_91 (ic_ne (by omega) (by omega)) (fun (c91 : ¬ 5 = 4) => ?_) (fun (c91 : ¬ (¬ 5 = 4)) => (by exact absurd (by omega) c91))
          refine ep_iln t71_107 rfl ?_
          refine ep_k1 (w := nI 5) t71_108 rfl ?_
          refine ep_ifP t71_109 (ic_ne (by omega) (by omega)) (fun (c109 : ¬ 5 = 5) => (by exact absurd c109 (by omega))) (fun (c109 : ¬ (¬ 5 = 5)) => ?_)
          refine ep_aln t71_112 rfl ?_
          refine ep_getr (q := 36) t71_113 rfl (Nat.le_of_ble_eq_true rfl) rfl (rfl) ?_
          refine ep_k1 (w := nI 1) t71_116 rfl ?_
          refine ep_aldN t71_117 rfl (Nat.le_of_ble_eq_true rfl) (Nat.ne_of_beq_eq_false rfl) (Nat.le_of_ble_eq_true rfl) (by omega) ?_
          refine ep_val (b := nI l) (e36 1 (by decide)) ?_
          refine ep_iln t71_118 rfl ?_
          refine ep_shrN (a := l) (b := k) t71_119 (by omega) (by omega) ?_
          refine ep_k1 (w := nI 1) t71_120 rfl ?_
          refine ep_andN (a := l / 2 ^ k) (b := 1) t71_121 ?_
          refine ep_val (b := bI (l.testBit k)) (by rw [Nat.and_one_is_mod, bI_bit]) ?_
          refine ep_gt t71_122 ?_
          refine ep_ri t71_136 (fun h => absurd h (by decide)) ?_
          exact ⟨_, rfl, rfl, hR0.thrown _⟩
      · cases q
        · refine Pair.of (ClP.of ⟨Nat.le_of_ble_eq_true rfl, rfl⟩ ?_)
          show EvP X 67 0 [some (.ref 0), some (.int (nI k)), some (.int (nI 6))] [] (47, g_rho false, σ) _
          refine ep_aln t67_0 rfl ?_
          refine ep_iln t67_1 rfl ?_
          refine ep_cv t67_2 rfl rfl (Nat.le_of_ble_eq_true rfl) (Nat.le_of_ble_eq_true rfl) (cl_B_isSwitch _ (by omega) hB3) ?_
          refine ep_bT t67_5 (fun (c5 : (inR (nI k) (T 3)) = true) => ?_) (fun (c5 : (inR (nI k) (T 3)) = false) => (by exact absurd c5 (by rw [hin]; decide)))
          refine ep_iln t67_10 rfl ?_
          refine ep_sw (t := 110) t67_11 (by decide +kernel) ?_
          refine ep_aln t67_110 rfl ?_
          refine ep_iln t67_111 rfl ?_
          refine ep_cv t67_112 rfl rfl (Nat.le_of_ble_eq_true rfl) (Nat.le_of_ble_eq_true rfl) (cl_B_whyNot (T := T) (c := c) (l := l) hN.2.1 hwf1 hwf4 hsn.1 hsn.2.1 e4 e5 hk) ?_
          refine ep_ri t67_115 (fun h => absurd h (by decide)) ?_
          refine ⟨_, false, _, rfl, rfl, ClP.of ⟨Nat.le_of_ble_eq_true rfl, rfl⟩ ?_⟩
          show EvP X 71 0 [some (.ref 31), some (.int (nI k)), some (.int (nI 6))] [] (47, g_rho false, σ) _
          refine ep_aln t71_0 rfl ?_
          refine ep_k1 (w := nI 0) t71_1 rfl ?_
          refine ep_put t71_2 rfl (Nat.le_of_ble_eq_true rfl) rfl ?_
          refine ep_aln t71_5 rfl ?_
          refine ep_iln t71_6 rfl ?_
          refine ep_cv t71_7 rfl rfl (Nat.le_of_ble_eq_true rfl) (Nat.le_of_ble_eq_true rfl) (cl_M_isSwitch _ (by omega) hM3) ?_
          refine ep_bF t71_10 (fun (c10 : (inR (nI k) (T 3)) = false) => (by exact absurd c10 (by rw [hin]; decide))) (fun (c10 : (inR (nI k) (T 3)) = true) => ?_)
          refine ep_iln t71_13 rfl ?_
          refine ep_k1 (w := nI 0) t71_14 rfl ?_
          refine ep_k2 (w := nI 6) t71_15 rfl ?_
          refine ep_cs t71_17 (Nat.ne_of_beq_eq_false rfl) rfl (Nat.le_of_ble_eq_true rfl) (cl_M_inB _ (by decide) (by decide)) ?_
          refine ep_bT t71_20 (fun (c20 : (inB (nI 6) 0 6) = true) => ?_) (fun (c20 : (inB (nI 6) 0 6) = false) => (by exact absurd c20 (by decide)))
          refine ep_iln t71_25 rfl ?_
          refine ep_k1 (w := nI 4) t71_26 rfl ?_
          refine ep_ifP t71_27 (ic_ge (by omega) (by omega)) (fun (c27 : 4 ≤ 6) => ?_) (fun (c27 : ¬ (4 ≤ 6)) => (by exact absurd (by omega) c27))
          refine ep_iln t71_89 rfl ?_
          refine ep_k1 (w := nI 4) t71_90 rfl ?_
          refine ep_ifP t71_91 (ic_ne (by omega) (by omega)) (fun (c91 : ¬ 6 = 4) => ?_) (fun (c91 : ¬ (¬ 6 = 4)) => (by exact absurd (by omega) c91))
          refine ep_iln t71_107 rfl ?_
          refine ep_k1 (w := nI 5) t71_108 rfl ?_
          refine ep_ifP t71_109 (ic_ne (by omega) (by omega)) (fun (c109 : ¬ 6 = 5) => ?_) (fun (c109 : ¬ (¬ 6 = 5)) => (by exact absurd (by omega) c109))
          refine ep_aln t71_125 rfl ?_
          refine ep_iln t71_126 rfl ?_
          refine ep_aln t71_127 rfl ?_
          refine ep_getr (q := 36) t71_128 rfl (Nat.le_of_ble_eq_true rfl) rfl (rfl) ?_
          refine ep_k1 (w := nI 0) t71_131 rfl ?_
          refine ep_aldN t71_132 rfl (Nat.le_of_ble_eq_true rfl) (Nat.ne_of_beq_eq_false rfl) (Nat.le_of_ble_eq_true rfl) (by omega) ?_
          refine ep_val (b := nI c) (e36 0 (by decide)) ?_
          obtain ⟨v9, g9, hm9, σw, rfl, rfl, m1⟩ := cl_M_whyNot (X := X) (q := false) (σ := g_up σ 31 0 (nI 0)) (T := T) (c := c) (l := l) (k := k) hN.2.2 hw0 (by omega) (by omega) (e36 1 (by decide)) (by omega) hsn.1 hk
          refine ep_cv t71_133 rfl rfl (Nat.le_of_ble_eq_true rfl) (Nat.le_of_ble_eq_true rfl) (hm9) ?_
          refine ep_ri t71_136 (fun h => absurd h (by decide)) ?_
          exact ⟨_, rfl, rfl, (hR0.thrown _).scr1 m1⟩
        · refine Pair.of (ClP.of ⟨Nat.le_of_ble_eq_true rfl, rfl⟩ ?_)
          show EvP X 67 0 [some (.ref 0), some (.int (nI k)), some (.int (nI 6))] [] (47, g_rho true, σ) _
          refine ep_aln t67_0 rfl ?_
          refine ep_iln t67_1 rfl ?_
          refine ep_cv t67_2 rfl rfl (Nat.le_of_ble_eq_true rfl) (Nat.le_of_ble_eq_true rfl) (cl_B_isSwitch _ (by omega) hB3) ?_
          refine ep_bT t67_5 (fun (c5 : (inR (nI k) (T 3)) = true) => ?_) (fun (c5 : (inR (nI k) (T 3)) = false) => (by exact absurd c5 (by rw [hin]; decide)))
          refine ep_iln t67_10 rfl ?_
          refine ep_sw (t := 110) t67_11 (by decide +kernel) ?_
          refine ep_aln t67_110 rfl ?_
          refine ep_iln t67_111 rfl ?_
          refine ep_cv t67_112 rfl rfl (Nat.le_of_ble_eq_true rfl) (Nat.le_of_ble_eq_true rfl) (cl_B_whyNot (T := T) (c := c) (l := l) hN.2.1 hwf1 hwf4 hsn.1 hsn.2.1 e4 e5 hk) ?_
          refine ep_ri t67_115 (fun h => absurd h (by decide)) ?_
          refine ⟨_, true, _, rfl, rfl, ClP.of ⟨Nat.le_of_ble_eq_true rfl, rfl⟩ ?_⟩
          show EvP X 71 0 [some (.ref 31), some (.int (nI k)), some (.int (nI 6))] [] (47, g_rho true, σ) _
          refine ep_aln t71_0 rfl ?_
          refine ep_k1 (w := nI 0) t71_1 rfl ?_
          refine ep_put t71_2 rfl (Nat.le_of_ble_eq_true rfl) rfl ?_
          refine ep_aln t71_5 rfl ?_
          refine ep_iln t71_6 rfl ?_
          refine ep_cv t71_7 rfl rfl (Nat.le_of_ble_eq_true rfl) (Nat.le_of_ble_eq_true rfl) (cl_M_isSwitch _ (by omega) hM3) ?_
          refine ep_bF t71_10 (fun (c10 : (inR (nI k) (T 3)) = false) => (by exact absurd c10 (by rw [hin]; decide))) (fun (c10 : (inR (nI k) (T 3)) = true) => ?_)
          refine ep_iln t71_13 rfl ?_
          refine ep_k1 (w := nI 0) t71_14 rfl ?_
          refine ep_k2 (w := nI 6) t71_15 rfl ?_
          refine ep_cs t71_17 (Nat.ne_of_beq_eq_false rfl) rfl (Nat.le_of_ble_eq_true rfl) (cl_M_inB _ (by decide) (by decide)) ?_
          refine ep_bT t71_20 (fun (c20 : (inB (nI 6) 0 6) = true) => ?_) (fun (c20 : (inB (nI 6) 0 6) = false) => (by exact absurd c20 (by decide)))
          refine ep_iln t71_25 rfl ?_
          refine ep_k1 (w := nI 4) t71_26 rfl ?_
          refine ep_ifP t71_27 (ic_ge (by omega) (by omega)) (fun (c27 : 4 ≤ 6) => ?_) (fun (c27 : ¬ (4 ≤ 6)) => (by exact absurd (by omega) c27))
          refine ep_iln t71_89 rfl ?_
          refine ep_k1 (w := nI 4) t71_90 rfl ?_
          refine ep_ifP t71_91 (ic_ne (by omega) (by omega)) (fun (c91 : ¬ 6 = 4) => ?_) (fun (c91 : ¬ (¬ 6 = 4)) => (by exact absurd (by omega) c91))
          refine ep_iln t71_107 rfl ?_
          refine ep_k1 (w := nI 5) t71_108 rfl ?_
          refine ep_ifP t71_109 (ic_ne (by omega) (by omega)) (fun (c109 : ¬ 6 = 5) => ?_) (fun (c109 : ¬ (¬ 6 = 5)) => (by exact absurd (by omega) c109))
          refine ep_aln t71_125 rfl ?_
          refine ep_iln t71_126 rfl ?_
          refine ep_aln t71_127 rfl ?_
          refine ep_getr (q := 36) t71_128 rfl (Nat.le_of_ble_eq_true rfl) rfl (rfl) ?_
          refine ep_k1 (w := nI 0) t71_131 rfl ?_
          refine ep_aldN t71_132 rfl (Nat.le_of_ble_eq_true rfl) (Nat.ne_of_beq_eq_false rfl) (Nat.le_of_ble_eq_true rfl) (by omega) ?_
          refine ep_val (b := nI c) (e36 0 (by decide)) ?_
          obtain ⟨v9, g9, hm9, σw, rfl, rfl, m1⟩ := cl_M_whyNot (X := X) (q := true) (σ := g_up σ 31 0 (nI 0)) (T := T) (c := c) (l := l) (k := k) hN.2.2 hw0 (by omega) (by omega) (e36 1 (by decide)) (by omega) hsn.1 hk
          refine ep_cv t71_133 rfl rfl (Nat.le_of_ble_eq_true rfl) (Nat.le_of_ble_eq_true rfl) (hm9) ?_
          refine ep_ri t71_136 (fun h => absurd h (by decide)) ?_
          exact ⟨_, rfl, rfl, (hR0.thrown _).scr1 m1⟩
theorem L_nm_33 {X : gX} {q : Bool} {σ : gT1} {T : Nat → Nat} {x : Nat} {P : Option Value → gS → Prop} (hT : ToldM (σ 33) T) (h3 : T 3 ≤ 8) (hnm : ∀ k, k < T 3 → T (12 + k) < 256) (hx : x < 256) (K : ∀ its : Int32, ((its = -9 ∧ ∀ i, i < T 3 → ¬ T (12 + i) = x) ∨ ∃ j, j < T 3 ∧ T (12 + j) = x ∧ its = nI j ∧ ∀ i, j < i → i < T 3 → ¬ T (12 + i) = x) → P (some (.int its)) (47, g_rho q, σ)) : ∀ (d k : Nat) (its : Int32), k + d = T 3 → ((its = -9 ∧ ∀ i, i < k → ¬ T (12 + i) = x) ∨ ∃ j, j < k ∧ T (12 + j) = x ∧ its = nI j ∧ ∀ i, j < i → i < k → ¬ T (12 + i) = x) → EvP X 52 5 [some (.ref 33), some (.int (nI x)), some (.int its), some (.int (nI k))] [] (47, g_rho q, σ) P
  | 0, k, its, hk, h2 => by
    obtain rfl : k = T 3 := by omega
    refine ep_iln t52_5 rfl ?_
    refine ep_aln t52_6 rfl ?_
    refine ep_k1 (w := nI 3) t52_7 rfl ?_
    refine ep_aldN t52_8 rfl (Nat.le_of_ble_eq_true rfl) (Nat.ne_of_beq_eq_false rfl) (Nat.le_of_ble_eq_true rfl) (by omega) ?_
    refine ep_val (b := nI (T 3)) (hT.1 3 (by decide)) ?_
    refine ep_ifP t52_9 (ic_ge (by omega) (by omega)) (fun (c9 : (T 3) ≤ (T 3)) => ?_) (fun (c9 : ¬ ((T 3) ≤ (T 3))) => (by exact absurd (Nat.le_refl _) c9))
    refine ep_iln t52_34 rfl ?_
    refine ep_ri t52_35 (fun h => absurd h (by decide)) ?_
    exact K its h2
  | d + 1, k, its, hk, h2 => by
    refine ep_iln t52_5 rfl ?_
    refine ep_aln t52_6 rfl ?_
    refine ep_k1 (w := nI 3) t52_7 rfl ?_
    refine ep_aldN t52_8 rfl (Nat.le_of_ble_eq_true rfl) (Nat.ne_of_beq_eq_false rfl) (Nat.le_of_ble_eq_true rfl) (by have := hnm k; omega) ?_
    refine ep_val (b := nI (T 3)) (hT.1 3 (by decide)) ?_
    refine ep_ifP t52_9 (ic_ge (by have := hnm k; omega) (by have := hnm k; omega)) (fun (c9 : (T 3) ≤ k) => (by omega)) (fun (c9 : ¬ ((T 3) ≤ k)) => ?_)
    refine ep_aln t52_12 rfl ?_
    refine ep_k2 (w := nI 12) t52_13 rfl ?_
    refine ep_iln t52_15 rfl ?_
    refine ep_addN (a := 12) (b := k) t52_16 ?_
    refine ep_aldN t52_17 rfl (Nat.le_of_ble_eq_true rfl) (Nat.ne_of_beq_eq_false rfl) (Nat.le_of_ble_eq_true rfl) (by have := hnm k; omega) ?_
    refine ep_val (b := nI (T (12 + k))) ((hT.2 k (by omega)).2.1) ?_
    refine ep_iln t52_18 rfl ?_
    refine ep_ifP t52_19 (ic_ne (by have := hnm k; omega) (by have := hnm k; omega)) (fun (c19 : ¬ (T (12 + k)) = x) => ?_) (fun (c19 : ¬ (¬ (T (12 + k)) = x)) => ?_)
    · refine ep_iln t52_26 rfl ?_
      refine ep_isn (L' := [some (.ref 33), some (.int (nI x)), some (.int its), some (.int (nI k))]) t52_27 rfl (Nat.le_of_ble_eq_true rfl) ?_
      refine ep_inc (b := nI (k + 1)) (L' := [some (.ref 33), some (.int (nI x)), some (.int its), some (.int (nI (k + 1)))]) t52_28 rfl (nI_add k 1) rfl (Nat.le_of_ble_eq_true rfl) ?_
      refine ep_gt t52_31 ?_
      refine L_nm_33 hT h3 hnm hx K d (k + 1) its (by omega) ?_
      rcases h2 with ⟨h2, h5⟩ | ⟨j, g1, g2, g3, g4⟩
      · refine Or.inl ⟨h2, fun i hi => ?_⟩
        by_cases e : i = k
        · subst e; exact c19
        · exact h5 i (by omega)
      · refine Or.inr ⟨j, by omega, g2, g3, fun i h1 h2 => ?_⟩
        by_cases e : i = k
        · subst e; exact c19
        · exact g4 i h1 (by omega)
    · refine ep_iln t52_22 rfl ?_
      refine ep_gt t52_23 ?_
      refine ep_isn (L' := [some (.ref 33), some (.int (nI x)), some (.int (nI k)), some (.int (nI k))]) t52_27 rfl (Nat.le_of_ble_eq_true rfl) ?_
      refine ep_inc (b := nI (k + 1)) (L' := [some (.ref 33), some (.int (nI x)), some (.int (nI k)), some (.int (nI (k + 1)))]) t52_28 rfl (nI_add k 1) rfl (Nat.le_of_ble_eq_true rfl) ?_
      refine ep_gt t52_31 ?_
      exact L_nm_33 hT h3 hnm hx K d (k + 1) _ (by omega) (Or.inr ⟨k, by omega, Classical.byContradiction c19, rfl, fun i h1 h2 => by omega⟩)
theorem cl_M_withName_33 {X : gX} {q : Bool} {σ : gT1} {T : Nat → Nat} {x : Nat} (hT : ToldM (σ 33) T) (h3 : T 3 ≤ 8) (hnm : ∀ k, k < T 3 → T (12 + k) < 256) (hx : x < 256) : ClP X 52 [.ref 33, .int (nI x)] (47, g_rho q, σ) (fun v g1 => ∃ its : Int32, v = some (.int its) ∧ g1 = (47, g_rho q, σ) ∧ ((its = -9 ∧ ∀ i, i < T 3 → ¬ T (12 + i) = x) ∨ ∃ j, j < T 3 ∧ T (12 + j) = x ∧ its = nI j ∧ ∀ i, j < i → i < T 3 → ¬ T (12 + i) = x)) := by
  refine ClP.of ⟨Nat.le_of_ble_eq_true rfl, rfl⟩ ?_
  show EvP X 52 0 [some (.ref 33), some (.int (nI x)), none, none] [] (47, g_rho q, σ) _
  refine ep_k2 (w := (-9)) t52_0 rfl ?_
  refine ep_isn (L' := [some (.ref 33), some (.int (nI x)), some (.int ((-9))), none]) t52_2 rfl (Nat.le_of_ble_eq_true rfl) ?_
  refine ep_k1 (w := nI 0) t52_3 rfl ?_
  refine ep_isn (L' := [some (.ref 33), some (.int (nI x)), some (.int ((-9))), some (.int (nI 0))]) t52_4 rfl (Nat.le_of_ble_eq_true rfl) ?_
  exact L_nm_33 hT h3 hnm hx (fun its h => ⟨its, rfl, rfl, h⟩) (T 3) 0 (-9) (by omega) (Or.inl ⟨rfl, fun i hi => absurd hi (Nat.not_lt_zero i)⟩)

theorem L_nm_34 {X : gX} {q : Bool} {σ : gT1} {T : Nat → Nat} {x : Nat} {P : Option Value → gS → Prop} (hT : ToldM (σ 34) T) (h3 : T 3 ≤ 8) (hnm : ∀ k, k < T 3 → T (12 + k) < 256) (hx : x < 256) (K : ∀ its : Int32, ((its = -9 ∧ ∀ i, i < T 3 → ¬ T (12 + i) = x) ∨ ∃ j, j < T 3 ∧ T (12 + j) = x ∧ its = nI j ∧ ∀ i, j < i → i < T 3 → ¬ T (12 + i) = x) → P (some (.int its)) (47, g_rho q, σ)) : ∀ (d k : Nat) (its : Int32), k + d = T 3 → ((its = -9 ∧ ∀ i, i < k → ¬ T (12 + i) = x) ∨ ∃ j, j < k ∧ T (12 + j) = x ∧ its = nI j ∧ ∀ i, j < i → i < k → ¬ T (12 + i) = x) → EvP X 52 5 [some (.ref 34), some (.int (nI x)), some (.int its), some (.int (nI k))] [] (47, g_rho q, σ) P
  | 0, k, its, hk, h2 => by
    obtain rfl : k = T 3 := by omega
    refine ep_iln t52_5 rfl ?_
    refine ep_aln t52_6 rfl ?_
    refine ep_k1 (w := nI 3) t52_7 rfl ?_
    refine ep_aldN t52_8 rfl (Nat.le_of_ble_eq_true rfl) (Nat.ne_of_beq_eq_false rfl) (Nat.le_of_ble_eq_true rfl) (by omega) ?_
    refine ep_val (b := nI (T 3)) (hT.1 3 (by decide)) ?_
    refine ep_ifP t52_9 (ic_ge (by omega) (by omega)) (fun (c9 : (T 3) ≤ (T 3)) => ?_) (fun (c9 : ¬ ((T 3) ≤ (T 3))) => (by exact absurd (Nat.le_refl _) c9))
    refine ep_iln t52_34 rfl ?_
    refine ep_ri t52_35 (fun h => absurd h (by decide)) ?_
    exact K its h2
  | d + 1, k, its, hk, h2 => by
    refine ep_iln t52_5 rfl ?_
    refine ep_aln t52_6 rfl ?_
    refine ep_k1 (w := nI 3) t52_7 rfl ?_
    refine ep_aldN t52_8 rfl (Nat.le_of_ble_eq_true rfl) (Nat.ne_of_beq_eq_false rfl) (Nat.le_of_ble_eq_true rfl) (by have := hnm k; omega) ?_
    refine ep_val (b := nI (T 3)) (hT.1 3 (by decide)) ?_
    refine ep_ifP t52_9 (ic_ge (by have := hnm k; omega) (by have := hnm k; omega)) (fun (c9 : (T 3) ≤ k) => (by omega)) (fun (c9 : ¬ ((T 3) ≤ k)) => ?_)
    refine ep_aln t52_12 rfl ?_
    refine ep_k2 (w := nI 12) t52_13 rfl ?_
    refine ep_iln t52_15 rfl ?_
    refine ep_addN (a := 12) (b := k) t52_16 ?_
    refine ep_aldN t52_17 rfl (Nat.le_of_ble_eq_true rfl) (Nat.ne_of_beq_eq_false rfl) (Nat.le_of_ble_eq_true rfl) (by have := hnm k; omega) ?_
    refine ep_val (b := nI (T (12 + k))) ((hT.2 k (by omega)).2.1) ?_
    refine ep_iln t52_18 rfl ?_
    refine ep_ifP t52_19 (ic_ne (by have := hnm k; omega) (by have := hnm k; omega)) (fun (c19 : ¬ (T (12 + k)) = x) => ?_) (fun (c19 : ¬ (¬ (T (12 + k)) = x)) => ?_)
    · refine ep_iln t52_26 rfl ?_
      refine ep_isn (L' := [some (.ref 34), some (.int (nI x)), some (.int its), some (.int (nI k))]) t52_27 rfl (Nat.le_of_ble_eq_true rfl) ?_
      refine ep_inc (b := nI (k + 1)) (L' := [some (.ref 34), some (.int (nI x)), some (.int its), some (.int (nI (k + 1)))]) t52_28 rfl (nI_add k 1) rfl (Nat.le_of_ble_eq_true rfl) ?_
      refine ep_gt t52_31 ?_
      refine L_nm_34 hT h3 hnm hx K d (k + 1) its (by omega) ?_
      rcases h2 with ⟨h2, h5⟩ | ⟨j, g1, g2, g3, g4⟩
      · refine Or.inl ⟨h2, fun i hi => ?_⟩
        by_cases e : i = k
        · subst e; exact c19
        · exact h5 i (by omega)
      · refine Or.inr ⟨j, by omega, g2, g3, fun i h1 h2 => ?_⟩
        by_cases e : i = k
        · subst e; exact c19
        · exact g4 i h1 (by omega)
    · refine ep_iln t52_22 rfl ?_
      refine ep_gt t52_23 ?_
      refine ep_isn (L' := [some (.ref 34), some (.int (nI x)), some (.int (nI k)), some (.int (nI k))]) t52_27 rfl (Nat.le_of_ble_eq_true rfl) ?_
      refine ep_inc (b := nI (k + 1)) (L' := [some (.ref 34), some (.int (nI x)), some (.int (nI k)), some (.int (nI (k + 1)))]) t52_28 rfl (nI_add k 1) rfl (Nat.le_of_ble_eq_true rfl) ?_
      refine ep_gt t52_31 ?_
      exact L_nm_34 hT h3 hnm hx K d (k + 1) _ (by omega) (Or.inr ⟨k, by omega, Classical.byContradiction c19, rfl, fun i h1 h2 => by omega⟩)
theorem cl_M_withName_34 {X : gX} {q : Bool} {σ : gT1} {T : Nat → Nat} {x : Nat} (hT : ToldM (σ 34) T) (h3 : T 3 ≤ 8) (hnm : ∀ k, k < T 3 → T (12 + k) < 256) (hx : x < 256) : ClP X 52 [.ref 34, .int (nI x)] (47, g_rho q, σ) (fun v g1 => ∃ its : Int32, v = some (.int its) ∧ g1 = (47, g_rho q, σ) ∧ ((its = -9 ∧ ∀ i, i < T 3 → ¬ T (12 + i) = x) ∨ ∃ j, j < T 3 ∧ T (12 + j) = x ∧ its = nI j ∧ ∀ i, j < i → i < T 3 → ¬ T (12 + i) = x)) := by
  refine ClP.of ⟨Nat.le_of_ble_eq_true rfl, rfl⟩ ?_
  show EvP X 52 0 [some (.ref 34), some (.int (nI x)), none, none] [] (47, g_rho q, σ) _
  refine ep_k2 (w := (-9)) t52_0 rfl ?_
  refine ep_isn (L' := [some (.ref 34), some (.int (nI x)), some (.int ((-9))), none]) t52_2 rfl (Nat.le_of_ble_eq_true rfl) ?_
  refine ep_k1 (w := nI 0) t52_3 rfl ?_
  refine ep_isn (L' := [some (.ref 34), some (.int (nI x)), some (.int ((-9))), some (.int (nI 0))]) t52_4 rfl (Nat.le_of_ble_eq_true rfl) ?_
  exact L_nm_34 hT h3 hnm hx (fun its h => ⟨its, rfl, rfl, h⟩) (T 3) 0 (-9) (by omega) (Or.inl ⟨rfl, fun i hi => absurd hi (Nat.not_lt_zero i)⟩)

theorem L_bn_7 {X : gX} {σ : gT1} {T : Nat → Nat} {x : Nat} {P : Option Value → gS → Prop} (hN : NetC σ 7 T) (h3 : T 3 ≤ 8) (hnm : ∀ k, k < T 3 → T (12 + k) < 256) (hx : x < 256) (K1 : (∀ i, i < T 3 → ¬ T (12 + i) = x) → P (some (.int (-9))) (47, g_rho false, σ)) (K2 : ∀ k, k < T 3 → T (12 + k) = x → P (some (.int (nI k))) (47, g_rho false, σ)) : ∀ (d k : Nat), k + d = T 3 → (∀ i, i < k → ¬ T (12 + i) = x) → EvP X 72 11 [some (.ref 0), some (.int (nI x)), some (.int (nI k))] [] (47, g_rho false, σ) P
  | 0, k, hk, h2 => by
    obtain rfl : k = T 3 := by omega
    refine ep_iln t72_11 rfl ?_
    refine ep_aln t72_12 rfl ?_
    refine ep_getr (q := 7) t72_13 rfl (Nat.le_of_ble_eq_true rfl) rfl (rfl) ?_
    refine ep_get t72_16 rfl (Nat.le_of_ble_eq_true rfl) rfl ?_
    refine ep_val (b := nI (T 3)) (hN.1 3 (by decide)) ?_
    refine ep_ifP t72_19 (ic_ge (by omega) (by omega)) (fun (c19 : (T 3) ≤ (T 3)) => ?_) (fun (c19 : ¬ ((T 3) ≤ (T 3))) => (by exact absurd (Nat.le_refl _) c19))
    refine ep_k2 (w := (-9)) t72_43 rfl ?_
    refine ep_ri t72_45 (fun h => absurd h (by decide)) ?_
    exact K1 h2
  | d + 1, k, hk, h2 => by
    refine ep_iln t72_11 rfl ?_
    refine ep_aln t72_12 rfl ?_
    refine ep_getr (q := 7) t72_13 rfl (Nat.le_of_ble_eq_true rfl) rfl (rfl) ?_
    refine ep_get t72_16 rfl (Nat.le_of_ble_eq_true rfl) rfl ?_
    refine ep_val (b := nI (T 3)) (hN.1 3 (by decide)) ?_
    refine ep_ifP t72_19 (ic_ge (by have := hnm k; omega) (by have := hnm k; omega)) (fun (c19 : (T 3) ≤ k) => (by omega)) (fun (c19 : ¬ ((T 3) ≤ k)) => ?_)
    refine ep_aln t72_22 rfl ?_
    refine ep_getr (q := 7) t72_23 rfl (Nat.le_of_ble_eq_true rfl) rfl (rfl) ?_
    refine ep_getr (q := 9) t72_26 rfl (Nat.le_of_ble_eq_true rfl) rfl (rfl) ?_
    refine ep_iln t72_29 rfl ?_
    refine ep_aldN t72_30 rfl (Nat.le_of_ble_eq_true rfl) (Nat.ne_of_beq_eq_false rfl) (Nat.le_of_ble_eq_true rfl) (by have := hnm k; omega) ?_
    refine ep_val (b := nI (T (12 + k))) ((hN.2.1 k (by omega)).2.1) ?_
    refine ep_iln t72_31 rfl ?_
    refine ep_ifP t72_32 (ic_ne (by have := hnm k; omega) (by have := hnm k; omega)) (fun (c32 : ¬ (T (12 + k)) = x) => ?_) (fun (c32 : ¬ (¬ (T (12 + k)) = x)) => ?_)
    · refine ep_inc (b := nI (k + 1)) (L' := [some (.ref 0), some (.int (nI x)), some (.int (nI (k + 1)))]) t72_37 rfl (nI_add k 1) rfl (Nat.le_of_ble_eq_true rfl) ?_
      refine ep_gt t72_40 ?_
      refine L_bn_7 hN h3 hnm hx K1 K2 d (k + 1) (by omega) (fun i hi => ?_)
      by_cases e : i = k
      · subst e; exact c32
      · exact h2 i (by omega)
    · refine ep_iln t72_35 rfl ?_
      refine ep_ri t72_36 (fun h => absurd h (by decide)) ?_
      exact K2 k (by omega) (Classical.byContradiction c32)
theorem L_bn_16 {X : gX} {σ : gT1} {T : Nat → Nat} {x : Nat} {P : Option Value → gS → Prop} (hN : NetC σ 16 T) (h3 : T 3 ≤ 8) (hnm : ∀ k, k < T 3 → T (12 + k) < 256) (hx : x < 256) (K1 : (∀ i, i < T 3 → ¬ T (12 + i) = x) → P (some (.int (-9))) (47, g_rho true, σ)) (K2 : ∀ k, k < T 3 → T (12 + k) = x → P (some (.int (nI k))) (47, g_rho true, σ)) : ∀ (d k : Nat), k + d = T 3 → (∀ i, i < k → ¬ T (12 + i) = x) → EvP X 72 11 [some (.ref 0), some (.int (nI x)), some (.int (nI k))] [] (47, g_rho true, σ) P
  | 0, k, hk, h2 => by
    obtain rfl : k = T 3 := by omega
    refine ep_iln t72_11 rfl ?_
    refine ep_aln t72_12 rfl ?_
    refine ep_getr (q := 16) t72_13 rfl (Nat.le_of_ble_eq_true rfl) rfl (rfl) ?_
    refine ep_get t72_16 rfl (Nat.le_of_ble_eq_true rfl) rfl ?_
    refine ep_val (b := nI (T 3)) (hN.1 3 (by decide)) ?_
    refine ep_ifP t72_19 (ic_ge (by omega) (by omega)) (fun (c19 : (T 3) ≤ (T 3)) => ?_) (fun (c19 : ¬ ((T 3) ≤ (T 3))) => (by exact absurd (Nat.le_refl _) c19))
    refine ep_k2 (w := (-9)) t72_43 rfl ?_
    refine ep_ri t72_45 (fun h => absurd h (by decide)) ?_
    exact K1 h2
  | d + 1, k, hk, h2 => by
    refine ep_iln t72_11 rfl ?_
    refine ep_aln t72_12 rfl ?_
    refine ep_getr (q := 16) t72_13 rfl (Nat.le_of_ble_eq_true rfl) rfl (rfl) ?_
    refine ep_get t72_16 rfl (Nat.le_of_ble_eq_true rfl) rfl ?_
    refine ep_val (b := nI (T 3)) (hN.1 3 (by decide)) ?_
    refine ep_ifP t72_19 (ic_ge (by have := hnm k; omega) (by have := hnm k; omega)) (fun (c19 : (T 3) ≤ k) => (by omega)) (fun (c19 : ¬ ((T 3) ≤ k)) => ?_)
    refine ep_aln t72_22 rfl ?_
    refine ep_getr (q := 16) t72_23 rfl (Nat.le_of_ble_eq_true rfl) rfl (rfl) ?_
    refine ep_getr (q := 18) t72_26 rfl (Nat.le_of_ble_eq_true rfl) rfl (rfl) ?_
    refine ep_iln t72_29 rfl ?_
    refine ep_aldN t72_30 rfl (Nat.le_of_ble_eq_true rfl) (Nat.ne_of_beq_eq_false rfl) (Nat.le_of_ble_eq_true rfl) (by have := hnm k; omega) ?_
    refine ep_val (b := nI (T (12 + k))) ((hN.2.1 k (by omega)).2.1) ?_
    refine ep_iln t72_31 rfl ?_
    refine ep_ifP t72_32 (ic_ne (by have := hnm k; omega) (by have := hnm k; omega)) (fun (c32 : ¬ (T (12 + k)) = x) => ?_) (fun (c32 : ¬ (¬ (T (12 + k)) = x)) => ?_)
    · refine ep_inc (b := nI (k + 1)) (L' := [some (.ref 0), some (.int (nI x)), some (.int (nI (k + 1)))]) t72_37 rfl (nI_add k 1) rfl (Nat.le_of_ble_eq_true rfl) ?_
      refine ep_gt t72_40 ?_
      refine L_bn_16 hN h3 hnm hx K1 K2 d (k + 1) (by omega) (fun i hi => ?_)
      by_cases e : i = k
      · subst e; exact c32
      · exact h2 i (by omega)
    · refine ep_iln t72_35 rfl ?_
      refine ep_ri t72_36 (fun h => absurd h (by decide)) ?_
      exact K2 k (by omega) (Classical.byContradiction c32)
theorem pr_named {X : gX} {q : Bool} {σ : gT1} (hR : Rel q σ) (a : Int32) : Pair X 72 73 [.int a] q σ := by
  have hR0 := hR
  obtain ⟨T, c, l, pr, hN, hW, hT, hO, hU, hI, hS⟩ := hR
  obtain ⟨⟨hwf0, hwf1⟩, ⟨hwf2, hwf3⟩, hwf4, hwf5, hwf6⟩ := hN.1
  have hB3 : σ (np q) 3 = nI (T 3) := hN.2.1.1 3 (by decide)
  have hB0 : σ (np q) 0 = nI (T 0) := hN.2.1.1 0 (by decide)
  have hM3 : σ 33 3 = nI (T 3) := hN.2.2.1 3 (by decide)
  have hM0 : σ 33 0 = nI (T 0) := hN.2.2.1 0 (by decide)
  have hnm : ∀ k, k < T 3 → T (12 + k) < 256 := fun k hk => by have := (hwf5 k hk).2.1.2; omega
  cases hin : inB a 97 122 with
  | false =>
    refine Pair.of (ClP.of ⟨Nat.le_of_ble_eq_true rfl, rfl⟩ ?_)
    show EvP X 72 0 [some (.ref 0), some (.int a), none] [] (47, g_rho q, σ) _
    refine ep_iln t72_0 rfl ?_
    refine ep_cs t72_1 (Nat.ne_of_beq_eq_false rfl) rfl (Nat.le_of_ble_eq_true rfl) (cl_B_isName _) ?_
    refine ep_bT t72_4 (fun (c4 : (inB a 97 122) = true) => (by exact absurd c4 (by rw [hin]; decide))) (fun (c4 : (inB a 97 122) = false) => ?_)
    refine ep_k1 (w := (-1)) t72_7 rfl ?_
    refine ep_ri t72_8 (fun h => absurd h (by decide)) ?_
    refine ⟨_, q, _, rfl, rfl, ClP.of ⟨Nat.le_of_ble_eq_true rfl, rfl⟩ ?_⟩
    show EvP X 73 0 [some (.ref 31), some (.int a)] [] (47, g_rho q, σ) _
    refine ep_aln t73_0 rfl ?_
    refine ep_k1 (w := nI 0) t73_1 rfl ?_
    refine ep_put t73_2 rfl (Nat.le_of_ble_eq_true rfl) rfl ?_
    refine ep_iln t73_5 rfl ?_
    refine ep_k2 (w := nI 97) t73_6 rfl ?_
    refine ep_k2 (w := nI 122) t73_8 rfl ?_
    refine ep_cs t73_10 (Nat.ne_of_beq_eq_false rfl) rfl (Nat.le_of_ble_eq_true rfl) (cl_M_inB _ (by decide) (by decide)) ?_
    refine ep_bF t73_13 (fun (c13 : (inB a 97 122) = false) => ?_) (fun (c13 : (inB a 97 122) = true) => (by exact absurd c13 (by rw [hin]; decide)))
    refine ep_k1 (w := (-1)) t73_27 rfl ?_
    refine ep_ri t73_28 (fun h => absurd h (by decide)) ?_
    exact ⟨_, rfl, rfl, hR0.thrown _⟩
  | true =>
    obtain ⟨x, hx, rfl⟩ := inB_of hin
    have hx2 : x < 256 := by omega
    cases q
    · refine Pair.of (ClP.of ⟨Nat.le_of_ble_eq_true rfl, rfl⟩ ?_)
      show EvP X 72 0 [some (.ref 0), some (.int (nI x)), none] [] (47, g_rho false, σ) _
      refine ep_iln t72_0 rfl ?_
      refine ep_cs t72_1 (Nat.ne_of_beq_eq_false rfl) rfl (Nat.le_of_ble_eq_true rfl) (cl_B_isName _) ?_
      refine ep_bT t72_4 (fun (c4 : (inB (nI x) 97 122) = true) => ?_) (fun (c4 : (inB (nI x) 97 122) = false) => (by exact absurd c4 (by rw [hin]; decide)))
      refine ep_k1 (w := nI 0) t72_9 rfl ?_
      refine ep_isn (L' := [some (.ref 0), some (.int (nI x)), some (.int (nI 0))]) t72_10 rfl (Nat.le_of_ble_eq_true rfl) ?_
      refine L_bn_7 hN.2.1 hwf4 hnm hx2 (fun hno => ?_) (fun k hk hkx => ?_) (T 3) 0 (by omega) (fun i hi => absurd hi (Nat.not_lt_zero i))
      · refine ⟨_, false, _, rfl, rfl, ClP.of ⟨Nat.le_of_ble_eq_true rfl, rfl⟩ ?_⟩
        show EvP X 73 0 [some (.ref 31), some (.int (nI x))] [] (47, g_rho false, σ) _
        refine ep_aln t73_0 rfl ?_
        refine ep_k1 (w := nI 0) t73_1 rfl ?_
        refine ep_put t73_2 rfl (Nat.le_of_ble_eq_true rfl) rfl ?_
        refine ep_iln t73_5 rfl ?_
        refine ep_k2 (w := nI 97) t73_6 rfl ?_
        refine ep_k2 (w := nI 122) t73_8 rfl ?_
        refine ep_cs t73_10 (Nat.ne_of_beq_eq_false rfl) rfl (Nat.le_of_ble_eq_true rfl) (cl_M_inB _ (by decide) (by decide)) ?_
        refine ep_bF t73_13 (fun (c13 : (inB (nI x) 97 122) = false) => (by exact absurd c13 (by rw [hin]; decide))) (fun (c13 : (inB (nI x) 97 122) = true) => ?_)
        refine ep_aln t73_16 rfl ?_
        refine ep_getr (q := 33) t73_17 rfl (Nat.le_of_ble_eq_true rfl) rfl (rfl) ?_
        refine ep_iln t73_20 rfl ?_
        obtain ⟨v9, g9, hm9, its, rfl, rfl, hits⟩ := cl_M_withName_33 (X := X) (q := false) (σ := g_up σ 31 0 (nI 0)) (T := T) (x := x) hN.2.2 hwf4 hnm hx2
        refine ep_cs t73_21 (Nat.ne_of_beq_eq_false rfl) rfl (Nat.le_of_ble_eq_true rfl) (hm9) ?_
        refine ep_gt t73_24 ?_
        refine ep_ri t73_28 (fun h => absurd h (by decide)) ?_
        rcases hits with ⟨h5, -⟩ | ⟨j, g1, g2, -⟩
        · rw [h5]; exact ⟨_, rfl, rfl, hR0.thrown _⟩
        · exact absurd g2 (hno j g1)
      · refine ⟨_, false, _, rfl, rfl, ClP.of ⟨Nat.le_of_ble_eq_true rfl, rfl⟩ ?_⟩
        show EvP X 73 0 [some (.ref 31), some (.int (nI x))] [] (47, g_rho false, σ) _
        refine ep_aln t73_0 rfl ?_
        refine ep_k1 (w := nI 0) t73_1 rfl ?_
        refine ep_put t73_2 rfl (Nat.le_of_ble_eq_true rfl) rfl ?_
        refine ep_iln t73_5 rfl ?_
        refine ep_k2 (w := nI 97) t73_6 rfl ?_
        refine ep_k2 (w := nI 122) t73_8 rfl ?_
        refine ep_cs t73_10 (Nat.ne_of_beq_eq_false rfl) rfl (Nat.le_of_ble_eq_true rfl) (cl_M_inB _ (by decide) (by decide)) ?_
        refine ep_bF t73_13 (fun (c13 : (inB (nI x) 97 122) = false) => (by exact absurd c13 (by rw [hin]; decide))) (fun (c13 : (inB (nI x) 97 122) = true) => ?_)
        refine ep_aln t73_16 rfl ?_
        refine ep_getr (q := 33) t73_17 rfl (Nat.le_of_ble_eq_true rfl) rfl (rfl) ?_
        refine ep_iln t73_20 rfl ?_
        obtain ⟨v9, g9, hm9, its, rfl, rfl, hits⟩ := cl_M_withName_33 (X := X) (q := false) (σ := g_up σ 31 0 (nI 0)) (T := T) (x := x) hN.2.2 hwf4 hnm hx2
        refine ep_cs t73_21 (Nat.ne_of_beq_eq_false rfl) rfl (Nat.le_of_ble_eq_true rfl) (hm9) ?_
        refine ep_gt t73_24 ?_
        refine ep_ri t73_28 (fun h => absurd h (by decide)) ?_
        rcases hits with ⟨-, h5⟩ | ⟨j, g1, g2, g3, g4⟩
        · exact absurd hkx (h5 k hk)
        · have e : j = k := by
            rcases Nat.lt_trichotomy j k with h | h | h
            · exact absurd (g2.trans hkx.symm) (hwf6 j k h hk)
            · exact h
            · exact absurd (hkx.trans g2.symm) (hwf6 k j h g1)
          rw [g3, e]; exact ⟨_, rfl, rfl, hR0.thrown _⟩
    · refine Pair.of (ClP.of ⟨Nat.le_of_ble_eq_true rfl, rfl⟩ ?_)
      show EvP X 72 0 [some (.ref 0), some (.int (nI x)), none] [] (47, g_rho true, σ) _
      refine ep_iln t72_0 rfl ?_
      refine ep_cs t72_1 (Nat.ne_of_beq_eq_false rfl) rfl (Nat.le_of_ble_eq_true rfl) (cl_B_isName _) ?_
      refine ep_bT t72_4 (fun (c4 : (inB (nI x) 97 122) = true) => ?_) (fun (c4 : (inB (nI x) 97 122) = false) => (by exact absurd c4 (by rw [hin]; decide)))
      refine ep_k1 (w := nI 0) t72_9 rfl ?_
      refine ep_isn (L' := [some (.ref 0), some (.int (nI x)), some (.int (nI 0))]) t72_10 rfl (Nat.le_of_ble_eq_true rfl) ?_
      refine L_bn_16 hN.2.1 hwf4 hnm hx2 (fun hno => ?_) (fun k hk hkx => ?_) (T 3) 0 (by omega) (fun i hi => absurd hi (Nat.not_lt_zero i))
      · refine ⟨_, true, _, rfl, rfl, ClP.of ⟨Nat.le_of_ble_eq_true rfl, rfl⟩ ?_⟩
        show EvP X 73 0 [some (.ref 31), some (.int (nI x))] [] (47, g_rho true, σ) _
        refine ep_aln t73_0 rfl ?_
        refine ep_k1 (w := nI 0) t73_1 rfl ?_
        refine ep_put t73_2 rfl (Nat.le_of_ble_eq_true rfl) rfl ?_
        refine ep_iln t73_5 rfl ?_
        refine ep_k2 (w := nI 97) t73_6 rfl ?_
        refine ep_k2 (w := nI 122) t73_8 rfl ?_
        refine ep_cs t73_10 (Nat.ne_of_beq_eq_false rfl) rfl (Nat.le_of_ble_eq_true rfl) (cl_M_inB _ (by decide) (by decide)) ?_
        refine ep_bF t73_13 (fun (c13 : (inB (nI x) 97 122) = false) => (by exact absurd c13 (by rw [hin]; decide))) (fun (c13 : (inB (nI x) 97 122) = true) => ?_)
        refine ep_aln t73_16 rfl ?_
        refine ep_getr (q := 33) t73_17 rfl (Nat.le_of_ble_eq_true rfl) rfl (rfl) ?_
        refine ep_iln t73_20 rfl ?_
        obtain ⟨v9, g9, hm9, its, rfl, rfl, hits⟩ := cl_M_withName_33 (X := X) (q := true) (σ := g_up σ 31 0 (nI 0)) (T := T) (x := x) hN.2.2 hwf4 hnm hx2
        refine ep_cs t73_21 (Nat.ne_of_beq_eq_false rfl) rfl (Nat.le_of_ble_eq_true rfl) (hm9) ?_
        refine ep_gt t73_24 ?_
        refine ep_ri t73_28 (fun h => absurd h (by decide)) ?_
        rcases hits with ⟨h5, -⟩ | ⟨j, g1, g2, -⟩
        · rw [h5]; exact ⟨_, rfl, rfl, hR0.thrown _⟩
        · exact absurd g2 (hno j g1)
      · refine ⟨_, true, _, rfl, rfl, ClP.of ⟨Nat.le_of_ble_eq_true rfl, rfl⟩ ?_⟩
        show EvP X 73 0 [some (.ref 31), some (.int (nI x))] [] (47, g_rho true, σ) _
        refine ep_aln t73_0 rfl ?_
        refine ep_k1 (w := nI 0) t73_1 rfl ?_
        refine ep_put t73_2 rfl (Nat.le_of_ble_eq_true rfl) rfl ?_
        refine ep_iln t73_5 rfl ?_
        refine ep_k2 (w := nI 97) t73_6 rfl ?_
        refine ep_k2 (w := nI 122) t73_8 rfl ?_
        refine ep_cs t73_10 (Nat.ne_of_beq_eq_false rfl) rfl (Nat.le_of_ble_eq_true rfl) (cl_M_inB _ (by decide) (by decide)) ?_
        refine ep_bF t73_13 (fun (c13 : (inB (nI x) 97 122) = false) => (by exact absurd c13 (by rw [hin]; decide))) (fun (c13 : (inB (nI x) 97 122) = true) => ?_)
        refine ep_aln t73_16 rfl ?_
        refine ep_getr (q := 33) t73_17 rfl (Nat.le_of_ble_eq_true rfl) rfl (rfl) ?_
        refine ep_iln t73_20 rfl ?_
        obtain ⟨v9, g9, hm9, its, rfl, rfl, hits⟩ := cl_M_withName_33 (X := X) (q := true) (σ := g_up σ 31 0 (nI 0)) (T := T) (x := x) hN.2.2 hwf4 hnm hx2
        refine ep_cs t73_21 (Nat.ne_of_beq_eq_false rfl) rfl (Nat.le_of_ble_eq_true rfl) (hm9) ?_
        refine ep_gt t73_24 ?_
        refine ep_ri t73_28 (fun h => absurd h (by decide)) ?_
        rcases hits with ⟨-, h5⟩ | ⟨j, g1, g2, g3, g4⟩
        · exact absurd hkx (h5 k hk)
        · have e : j = k := by
            rcases Nat.lt_trichotomy j k with h | h | h
            · exact absurd (g2.trans hkx.symm) (hwf6 j k h hk)
            · exact h
            · exact absurd (hkx.trans g2.symm) (hwf6 k j h g1)
          rw [g3, e]; exact ⟨_, rfl, rfl, hR0.thrown _⟩
