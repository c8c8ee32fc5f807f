/-! Pairs: text, order, sights, counts. -/
theorem pr_type {X : gX} {q : Bool} {σ : gT1} (hR : Rel q σ) (a : Int32) : Pair X 9 11 [.int a] q σ := by
  have hR0 := hR
  obtain ⟨T, c, l, pr, hN, hW, hT, hO, hU, hI, hS⟩ := hR
  obtain ⟨⟨hwf0, hwf1⟩, ⟨hwf2, hwf3⟩, hwf4, hwf5, hwf6⟩ := hN.1
  have hB3 : σ (np q) 3 = nI (T 3) := hN.2.1.1 3 (by decide)
  have hB0 : σ (np q) 0 = nI (T 0) := hN.2.1.1 0 (by decide)
  have hM3 : σ 33 3 = nI (T 3) := hN.2.2.1 3 (by decide)
  have hM0 : σ 33 0 = nI (T 0) := hN.2.2.1 0 (by decide)
  have hT0 := hT
  obtain ⟨n, hn, hT1, hT2, hT3⟩ := hT0
  refine Pair.of (ClP.of ⟨Nat.le_of_ble_eq_true rfl, rfl⟩ ?_)
  show EvP X 9 0 [some (.ref 0), some (.int a)] [] (47, g_rho q, σ) _
  refine ep_iln t9_0 rfl ?_
  refine ep_if0 t9_1 (fun (c1 : a < 0) => ?_) (fun (c1 : ¬ (a < 0)) => ?_)
  · refine ep_k1 (w := (-1)) t9_11 rfl ?_
    refine ep_ri t9_12 (fun h => absurd h (by decide)) ?_
    refine ⟨_, q, _, rfl, rfl, ClP.of ⟨Nat.le_of_ble_eq_true rfl, rfl⟩ ?_⟩
    show EvP X 11 0 [some (.ref 31), some (.int a)] [] (47, g_rho q, σ) _
    refine ep_aln t11_0 rfl ?_
    refine ep_k1 (w := nI 0) t11_1 rfl ?_
    refine ep_put t11_2 rfl (Nat.le_of_ble_eq_true rfl) rfl ?_
    refine ep_iln t11_5 rfl ?_
    refine ep_k1 (w := nI 0) t11_6 rfl ?_
    refine ep_k3 (w := nI 255) t11_7 rfl ?_
    refine ep_cs t11_10 (Nat.ne_of_beq_eq_false rfl) rfl (Nat.le_of_ble_eq_true rfl) (cl_M_inB _ (by decide) (by decide)) ?_
    refine ep_bT t11_13 (fun (c13 : (inB a 0 255) = true) => ?_) (fun (c13 : (inB a 0 255) = false) => ?_)
    · first | exact absurd c13 (by rw [inB_lt (by decide) c1]; decide) | exact absurd c13 (by rw [inB_gt (by decide) (Int32.not_le.mp c8)]; decide)
    · refine ep_k1 (w := (-1)) t11_16 rfl ?_
      refine ep_ri t11_17 (fun h => absurd h (by decide)) ?_
      exact ⟨_, rfl, rfl, hR0.thrown _⟩
  · refine ep_iln t9_4 rfl ?_
    refine ep_k3 (w := nI 255) t9_5 rfl ?_
    refine ep_if t9_8 (fun (c8 : a ≤ (nI 255)) => ?_) (fun (c8 : ¬ (a ≤ (nI 255))) => ?_)
    · refine ep_aln t9_13 rfl ?_
      refine ep_getr (q := 1) t9_14 rfl (Nat.le_of_ble_eq_true rfl) rfl (rfl) ?_
      refine ep_get t9_17 rfl (Nat.le_of_ble_eq_true rfl) rfl ?_
      refine ep_val (b := nI n) (hT1) ?_
      refine ep_k2 (w := nI 120) t9_20 rfl ?_
      refine ep_ifP t9_22 (ic_lt (by omega) (by omega)) (fun (c22 : n < 120) => ?_) (fun (c22 : ¬ (n < 120)) => ?_)
      · refine ep_aln t9_28 rfl ?_
        refine ep_getr (q := 1) t9_29 rfl (Nat.le_of_ble_eq_true rfl) rfl (rfl) ?_
        refine ep_getr (q := 2) t9_32 rfl (Nat.le_of_ble_eq_true rfl) rfl (rfl) ?_
        refine ep_aln t9_35 rfl ?_
        refine ep_getr (q := 1) t9_36 rfl (Nat.le_of_ble_eq_true rfl) rfl (rfl) ?_
        refine ep_get t9_39 rfl (Nat.le_of_ble_eq_true rfl) rfl ?_
        refine ep_val (b := nI n) (hT1) ?_
        refine ep_iln t9_42 rfl ?_
        refine ep_astN t9_43 rfl (Nat.le_of_ble_eq_true rfl) (Nat.le_of_ble_eq_true rfl) (by omega) ?_
        refine ep_aln t9_44 rfl ?_
        refine ep_getr (q := 1) t9_45 rfl (Nat.le_of_ble_eq_true rfl) rfl (rfl) ?_
        refine ep_dup t9_48 rfl ?_
        refine ep_get t9_49 rfl (Nat.le_of_ble_eq_true rfl) rfl ?_
        refine ep_val (b := nI n) (hT1) ?_
        refine ep_k1 (w := nI 1) t9_52 rfl ?_
        refine ep_addN (a := n) (b := 1) t9_53 ?_
        refine ep_put t9_54 rfl (Nat.le_of_ble_eq_true rfl) rfl ?_
        refine ep_aln t9_57 rfl ?_
        refine ep_getr (q := 1) t9_58 rfl (Nat.le_of_ble_eq_true rfl) rfl (rfl) ?_
        refine ep_get t9_61 rfl (Nat.le_of_ble_eq_true rfl) rfl ?_
        refine ep_val (b := nI (n + 1)) (rfl) ?_
        refine ep_ri t9_64 (fun h => absurd h (by decide)) ?_
        obtain ⟨b, hb, ea⟩ : ∃ b, b < 256 ∧ a = nI b := by
          obtain ⟨b, hb, e⟩ := inB_of (inB_ok (a := a) (x := 0) (y := 255) (by decide) (by decide) c1 (Int32.not_lt.mpr c8))
          exact ⟨b, by omega, e⟩
        refine ⟨_, q, _, rfl, rfl, ClP.of ⟨Nat.le_of_ble_eq_true rfl, rfl⟩ ?_⟩
        show EvP X 11 0 [some (.ref 31), some (.int a)] [] (47, g_rho q, g_up (g_up σ 2 n a) 1 1 (nI (n + 1))) _
        refine ep_aln t11_0 rfl ?_
        refine ep_k1 (w := nI 0) t11_1 rfl ?_
        refine ep_put t11_2 rfl (Nat.le_of_ble_eq_true rfl) rfl ?_
        refine ep_iln t11_5 rfl ?_
        refine ep_k1 (w := nI 0) t11_6 rfl ?_
        refine ep_k3 (w := nI 255) t11_7 rfl ?_
        refine ep_cs t11_10 (Nat.ne_of_beq_eq_false rfl) rfl (Nat.le_of_ble_eq_true rfl) (cl_M_inB _ (by decide) (by decide)) ?_
        refine ep_bT t11_13 (fun (c13 : (inB a 0 255) = true) => ?_) (fun (c13 : (inB a 0 255) = false) => ?_)
        · refine ep_aln t11_18 rfl ?_
          refine ep_get t11_19 rfl (Nat.le_of_ble_eq_true rfl) rfl ?_
          refine ep_val (b := nI n) (hT2) ?_
          refine ep_k2 (w := nI 120) t11_22 rfl ?_
          refine ep_ifP t11_24 (ic_ne (by omega) (by omega)) (fun (c24 : ¬ n = 120) => ?_) (fun (c24 : ¬ (¬ n = 120)) => ?_)
          · refine ep_aln t11_30 rfl ?_
            refine ep_getr (q := 32) t11_31 rfl (Nat.le_of_ble_eq_true rfl) rfl (rfl) ?_
            refine ep_aln t11_34 rfl ?_
            refine ep_get t11_35 rfl (Nat.le_of_ble_eq_true rfl) rfl ?_
            refine ep_val (b := nI n) (hT2) ?_
            refine ep_iln t11_38 rfl ?_
            refine ep_astN t11_39 rfl (Nat.le_of_ble_eq_true rfl) (Nat.le_of_ble_eq_true rfl) (by omega) ?_
            refine ep_aln t11_40 rfl ?_
            refine ep_dup t11_41 rfl ?_
            refine ep_get t11_42 rfl (Nat.le_of_ble_eq_true rfl) rfl ?_
            refine ep_val (b := nI n) (hT2) ?_
            refine ep_k1 (w := nI 1) t11_45 rfl ?_
            refine ep_addN (a := n) (b := 1) t11_46 ?_
            refine ep_put t11_47 rfl (Nat.le_of_ble_eq_true rfl) rfl ?_
            refine ep_aln t11_50 rfl ?_
            refine ep_get t11_51 rfl (Nat.le_of_ble_eq_true rfl) rfl ?_
            refine ep_val (b := nI (n + 1)) (rfl) ?_
            refine ep_ri t11_54 (fun h => absurd h (by decide)) ?_
            exact ⟨_, rfl, rfl, ⟨T, c, l, pr, hN.fr (fun p h1 h2 => by repeat rw [g_up_ne (by omega)]) rfl, hW.fr rfl rfl rfl rfl, ⟨n + 1, by omega, rfl, rfl, fun j hj => by
                by_cases e : j = n
                · subst e
                  exact ⟨by simp [g_up, upd], b, hb, by simp [g_up, upd, ea]⟩
                · have := hT3 j (by omega)
                  simpa [g_up, upd, e] using this⟩, hO.fr rfl rfl rfl rfl, hU.fr rfl rfl rfl rfl, hI.fr rfl rfl rfl rfl, hS.fr rfl rfl rfl rfl rfl⟩⟩
          · exact absurd c24 (by omega)
        · exact absurd (inB_ok (by decide) (by decide) c1 (Int32.not_lt.mpr c8)) (by rw [c13]; decide)
      · refine ep_k2 (w := (-3)) t9_25 rfl ?_
        refine ep_ri t9_27 (fun h => absurd h (by decide)) ?_
        obtain ⟨b, hb, ea⟩ : ∃ b, b < 256 ∧ a = nI b := by
          obtain ⟨b, hb, e⟩ := inB_of (inB_ok (a := a) (x := 0) (y := 255) (by decide) (by decide) c1 (Int32.not_lt.mpr c8))
          exact ⟨b, by omega, e⟩
        refine ⟨_, q, _, rfl, rfl, ClP.of ⟨Nat.le_of_ble_eq_true rfl, rfl⟩ ?_⟩
        show EvP X 11 0 [some (.ref 31), some (.int a)] [] (47, g_rho q, σ) _
        refine ep_aln t11_0 rfl ?_
        refine ep_k1 (w := nI 0) t11_1 rfl ?_
        refine ep_put t11_2 rfl (Nat.le_of_ble_eq_true rfl) rfl ?_
        refine ep_iln t11_5 rfl ?_
        refine ep_k1 (w := nI 0) t11_6 rfl ?_
        refine ep_k3 (w := nI 255) t11_7 rfl ?_
        refine ep_cs t11_10 (Nat.ne_of_beq_eq_false rfl) rfl (Nat.le_of_ble_eq_true rfl) (cl_M_inB _ (by decide) (by decide)) ?_
        refine ep_bT t11_13 (fun (c13 : (inB a 0 255) = true) => ?_) (fun (c13 : (inB a 0 255) = false) => ?_)
        · refine ep_aln t11_18 rfl ?_
          refine ep_get t11_19 rfl (Nat.le_of_ble_eq_true rfl) rfl ?_
          refine ep_val (b := nI n) (hT2) ?_
          refine ep_k2 (w := nI 120) t11_22 rfl ?_
          refine ep_ifP t11_24 (ic_ne (by omega) (by omega)) (fun (c24 : ¬ n = 120) => ?_) (fun (c24 : ¬ (¬ n = 120)) => ?_)
          · exact absurd (by omega) c24
          · refine ep_k2 (w := (-3)) t11_27 rfl ?_
            refine ep_ri t11_29 (fun h => absurd h (by decide)) ?_
            exact ⟨_, rfl, rfl, hR0.thrown _⟩
        · exact absurd (inB_ok (by decide) (by decide) c1 (Int32.not_lt.mpr c8)) (by rw [c13]; decide)
    · refine ep_k1 (w := (-1)) t9_11 rfl ?_
      refine ep_ri t9_12 (fun h => absurd h (by decide)) ?_
      refine ⟨_, q, _, rfl, rfl, ClP.of ⟨Nat.le_of_ble_eq_true rfl, rfl⟩ ?_⟩
      show EvP X 11 0 [some (.ref 31), some (.int a)] [] (47, g_rho q, σ) _
      refine ep_aln t11_0 rfl ?_
      refine ep_k1 (w := nI 0) t11_1 rfl ?_
      refine ep_put t11_2 rfl (Nat.le_of_ble_eq_true rfl) rfl ?_
      refine ep_iln t11_5 rfl ?_
      refine ep_k1 (w := nI 0) t11_6 rfl ?_
      refine ep_k3 (w := nI 255) t11_7 rfl ?_
      refine ep_cs t11_10 (Nat.ne_of_beq_eq_false rfl) rfl (Nat.le_of_ble_eq_true rfl) (cl_M_inB _ (by decide) (by decide)) ?_
      refine ep_bT t11_13 (fun (c13 : (inB a 0 255) = true) => ?_) (fun (c13 : (inB a 0 255) = false) => ?_)
      · first | exact absurd c13 (by rw [inB_lt (by decide) c1]; decide) | exact absurd c13 (by rw [inB_gt (by decide) (Int32.not_le.mp c8)]; decide)
      · refine ep_k1 (w := (-1)) t11_16 rfl ?_
        refine ep_ri t11_17 (fun h => absurd h (by decide)) ?_
        exact ⟨_, rfl, rfl, hR0.thrown _⟩
theorem pr_clear {X : gX} {q : Bool} {σ : gT1} (hR : Rel q σ) : Pair X 12 13 [] q σ := by
  have hR0 := hR
  obtain ⟨T, c, l, pr, hN, hW, hT, hO, hU, hI, hS⟩ := hR
  obtain ⟨⟨hwf0, hwf1⟩, ⟨hwf2, hwf3⟩, hwf4, hwf5, hwf6⟩ := hN.1
  have hB3 : σ (np q) 3 = nI (T 3) := hN.2.1.1 3 (by decide)
  have hB0 : σ (np q) 0 = nI (T 0) := hN.2.1.1 0 (by decide)
  have hM3 : σ 33 3 = nI (T 3) := hN.2.2.1 3 (by decide)
  have hM0 : σ 33 0 = nI (T 0) := hN.2.2.1 0 (by decide)
  have hZ := hT
  obtain ⟨n, hn, h1, h2, h3⟩ := hZ
  refine Pair.of (ClP.of ⟨Nat.le_of_ble_eq_true rfl, rfl⟩ ?_)
  show EvP X 12 0 [some (.ref 0), none] [] (47, g_rho q, σ) _
  refine ep_aln t12_0 rfl ?_
  refine ep_getr (q := 1) t12_1 rfl (Nat.le_of_ble_eq_true rfl) rfl (rfl) ?_
  refine ep_get t12_4 rfl (Nat.le_of_ble_eq_true rfl) rfl ?_
  refine ep_val (b := nI n) (h1) ?_
  refine ep_isn (L' := [some (.ref 0), some (.int (nI n))]) t12_7 rfl (Nat.le_of_ble_eq_true rfl) ?_
  refine ep_aln t12_8 rfl ?_
  refine ep_getr (q := 1) t12_9 rfl (Nat.le_of_ble_eq_true rfl) rfl (rfl) ?_
  refine ep_k1 (w := nI 0) t12_12 rfl ?_
  refine ep_put t12_13 rfl (Nat.le_of_ble_eq_true rfl) rfl ?_
  refine ep_iln t12_16 rfl ?_
  refine ep_ri t12_17 (fun h => absurd h (by decide)) ?_
  refine ⟨_, q, _, rfl, rfl, ClP.of ⟨Nat.le_of_ble_eq_true rfl, rfl⟩ ?_⟩
  show EvP X 13 0 [some (.ref 31), none] [] (47, g_rho q, g_up σ 1 1 (nI 0)) _
  refine ep_aln t13_0 rfl ?_
  refine ep_k1 (w := nI 0) t13_1 rfl ?_
  refine ep_put t13_2 rfl (Nat.le_of_ble_eq_true rfl) rfl ?_
  refine ep_aln t13_5 rfl ?_
  refine ep_get t13_6 rfl (Nat.le_of_ble_eq_true rfl) rfl ?_
  refine ep_val (b := nI n) (h2) ?_
  refine ep_isn (L' := [some (.ref 31), some (.int (nI n))]) t13_9 rfl (Nat.le_of_ble_eq_true rfl) ?_
  refine ep_aln t13_10 rfl ?_
  refine ep_k1 (w := nI 0) t13_11 rfl ?_
  refine ep_put t13_12 rfl (Nat.le_of_ble_eq_true rfl) rfl ?_
  refine ep_iln t13_15 rfl ?_
  refine ep_ri t13_16 (fun h => absurd h (by decide)) ?_
  exact ⟨_, rfl, rfl, ⟨T, c, l, pr, hN.fr (fun p h1 h2 => by repeat rw [g_up_ne (by omega)]) rfl, hW.fr rfl rfl rfl rfl, ⟨0, by decide, rfl, rfl, fun j hj => absurd hj (Nat.not_lt_zero j)⟩, hO.fr rfl rfl rfl rfl, hU.fr rfl rfl rfl rfl, hI.fr rfl rfl rfl rfl, hS.fr rfl rfl rfl rfl rfl⟩⟩
theorem pr_drops {X : gX} {q : Bool} {σ : gT1} (hR : Rel q σ) : Pair X 108 109 [] q σ := by
  have hR0 := hR
  obtain ⟨T, c, l, pr, hN, hW, hT, hO, hU, hI, hS⟩ := hR
  obtain ⟨⟨hwf0, hwf1⟩, ⟨hwf2, hwf3⟩, hwf4, hwf5, hwf6⟩ := hN.1
  have hB3 : σ (np q) 3 = nI (T 3) := hN.2.1.1 3 (by decide)
  have hB0 : σ (np q) 0 = nI (T 0) := hN.2.1.1 0 (by decide)
  have hM3 : σ 33 3 = nI (T 3) := hN.2.2.1 3 (by decide)
  have hM0 : σ 33 0 = nI (T 0) := hN.2.2.1 0 (by decide)
  have hZ := hO
  obtain ⟨n, hn, h1, h2, h3⟩ := hZ
  refine Pair.of (ClP.of ⟨Nat.le_of_ble_eq_true rfl, rfl⟩ ?_)
  show EvP X 108 0 [some (.ref 0), none] [] (47, g_rho q, σ) _
  refine ep_aln t108_0 rfl ?_
  refine ep_get t108_1 rfl (Nat.le_of_ble_eq_true rfl) rfl ?_
  refine ep_val (b := nI n) (h1) ?_
  refine ep_isn (L' := [some (.ref 0), some (.int (nI n))]) t108_4 rfl (Nat.le_of_ble_eq_true rfl) ?_
  refine ep_aln t108_5 rfl ?_
  refine ep_k1 (w := nI 0) t108_6 rfl ?_
  refine ep_put t108_7 rfl (Nat.le_of_ble_eq_true rfl) rfl ?_
  refine ep_iln t108_10 rfl ?_
  refine ep_ri t108_11 (fun h => absurd h (by decide)) ?_
  refine ⟨_, q, _, rfl, rfl, ClP.of ⟨Nat.le_of_ble_eq_true rfl, rfl⟩ ?_⟩
  show EvP X 109 0 [some (.ref 31), none] [] (47, g_rho q, g_up σ 0 8 (nI 0)) _
  refine ep_aln t109_0 rfl ?_
  refine ep_k1 (w := nI 0) t109_1 rfl ?_
  refine ep_put t109_2 rfl (Nat.le_of_ble_eq_true rfl) rfl ?_
  refine ep_aln t109_5 rfl ?_
  refine ep_get t109_6 rfl (Nat.le_of_ble_eq_true rfl) rfl ?_
  refine ep_val (b := nI n) (h2) ?_
  refine ep_isn (L' := [some (.ref 31), some (.int (nI n))]) t109_9 rfl (Nat.le_of_ble_eq_true rfl) ?_
  refine ep_aln t109_10 rfl ?_
  refine ep_k1 (w := nI 0) t109_11 rfl ?_
  refine ep_put t109_12 rfl (Nat.le_of_ble_eq_true rfl) rfl ?_
  refine ep_iln t109_15 rfl ?_
  refine ep_ri t109_16 (fun h => absurd h (by decide)) ?_
  exact ⟨_, rfl, rfl, ⟨T, c, l, pr, hN.fr (fun p h1 h2 => by repeat rw [g_up_ne (by omega)]) rfl, hW.fr rfl rfl rfl rfl, hT.fr rfl rfl rfl rfl, ⟨0, by decide, rfl, rfl, fun j hj => absurd hj (Nat.not_lt_zero j)⟩, hU.fr rfl rfl rfl rfl, hI.fr rfl rfl rfl rfl, hS.fr rfl rfl rfl rfl rfl⟩⟩
theorem pr_forget {X : gX} {q : Bool} {σ : gT1} (hR : Rel q σ) : Pair X 132 133 [] q σ := by
  have hR0 := hR
  obtain ⟨T, c, l, pr, hN, hW, hT, hO, hU, hI, hS⟩ := hR
  obtain ⟨⟨hwf0, hwf1⟩, ⟨hwf2, hwf3⟩, hwf4, hwf5, hwf6⟩ := hN.1
  have hB3 : σ (np q) 3 = nI (T 3) := hN.2.1.1 3 (by decide)
  have hB0 : σ (np q) 0 = nI (T 0) := hN.2.1.1 0 (by decide)
  have hM3 : σ 33 3 = nI (T 3) := hN.2.2.1 3 (by decide)
  have hM0 : σ 33 0 = nI (T 0) := hN.2.2.1 0 (by decide)
  have hZ := hS
  obtain ⟨n, hn, h1, h2, h3⟩ := hZ
  refine Pair.of (ClP.of ⟨Nat.le_of_ble_eq_true rfl, rfl⟩ ?_)
  show EvP X 132 0 [some (.ref 0), none] [] (47, g_rho q, σ) _
  refine ep_aln t132_0 rfl ?_
  refine ep_get t132_1 rfl (Nat.le_of_ble_eq_true rfl) rfl ?_
  refine ep_val (b := nI n) (h1) ?_
  refine ep_isn (L' := [some (.ref 0), some (.int (nI n))]) t132_4 rfl (Nat.le_of_ble_eq_true rfl) ?_
  refine ep_aln t132_5 rfl ?_
  refine ep_k1 (w := nI 0) t132_6 rfl ?_
  refine ep_put t132_7 rfl (Nat.le_of_ble_eq_true rfl) rfl ?_
  refine ep_iln t132_10 rfl ?_
  refine ep_ri t132_11 (fun h => absurd h (by decide)) ?_
  refine ⟨_, q, _, rfl, rfl, ClP.of ⟨Nat.le_of_ble_eq_true rfl, rfl⟩ ?_⟩
  show EvP X 133 0 [some (.ref 31), none] [] (47, g_rho q, g_up σ 0 14 (nI 0)) _
  refine ep_aln t133_0 rfl ?_
  refine ep_k1 (w := nI 0) t133_1 rfl ?_
  refine ep_put t133_2 rfl (Nat.le_of_ble_eq_true rfl) rfl ?_
  refine ep_aln t133_5 rfl ?_
  refine ep_get t133_6 rfl (Nat.le_of_ble_eq_true rfl) rfl ?_
  refine ep_val (b := nI n) (h2) ?_
  refine ep_isn (L' := [some (.ref 31), some (.int (nI n))]) t133_9 rfl (Nat.le_of_ble_eq_true rfl) ?_
  refine ep_aln t133_10 rfl ?_
  refine ep_k1 (w := nI 0) t133_11 rfl ?_
  refine ep_put t133_12 rfl (Nat.le_of_ble_eq_true rfl) rfl ?_
  refine ep_iln t133_15 rfl ?_
  refine ep_ri t133_16 (fun h => absurd h (by decide)) ?_
  exact ⟨_, rfl, rfl, ⟨T, c, l, pr, hN.fr (fun p h1 h2 => by repeat rw [g_up_ne (by omega)]) rfl, hW.fr rfl rfl rfl rfl, hT.fr rfl rfl rfl rfl, hO.fr rfl rfl rfl rfl, hU.fr rfl rfl rfl rfl, hI.fr rfl rfl rfl rfl, ⟨0, by decide, rfl, rfl, fun j hj => absurd hj (Nat.not_lt_zero j)⟩⟩⟩
theorem pr_lists {X : gX} {q : Bool} {σ : gT1} (hR : Rel q σ) (a : Int32) : Pair X 104 105 [.int a] q σ := by
  have hR0 := hR
  obtain ⟨T, c, l, pr, hN, hW, hT, hO, hU, hI, hS⟩ := hR
  obtain ⟨⟨hwf0, hwf1⟩, ⟨hwf2, hwf3⟩, hwf4, hwf5, hwf6⟩ := hN.1
  have hB3 : σ (np q) 3 = nI (T 3) := hN.2.1.1 3 (by decide)
  have hB0 : σ (np q) 0 = nI (T 0) := hN.2.1.1 0 (by decide)
  have hM3 : σ 33 3 = nI (T 3) := hN.2.2.1 3 (by decide)
  have hM0 : σ 33 0 = nI (T 0) := hN.2.2.1 0 (by decide)
  have hZ := hO
  obtain ⟨n, hn, h1, h2, h3⟩ := hZ
  refine Pair.of (ClP.of ⟨Nat.le_of_ble_eq_true rfl, rfl⟩ ?_)
  show EvP X 104 0 [some (.ref 0), some (.int a)] [] (47, g_rho q, σ) _
  refine ep_aln t104_0 rfl ?_
  refine ep_iln t104_1 rfl ?_
  refine ep_cv t104_2 rfl rfl (Nat.le_of_ble_eq_true rfl) (Nat.le_of_ble_eq_true rfl) (cl_B_isSwitch _ (by omega) hB3) ?_
  refine ep_bT t104_5 (fun (c5 : (inR a (T 3)) = true) => ?_) (fun (c5 : (inR a (T 3)) = false) => ?_)
  · refine ep_aln t104_10 rfl ?_
    refine ep_get t104_11 rfl (Nat.le_of_ble_eq_true rfl) rfl ?_
    refine ep_val (b := nI n) (h1) ?_
    refine ep_k2 (w := nI 12) t104_14 rfl ?_
    refine ep_ifP t104_16 (ic_lt (by omega) (by omega)) (fun (c16 : n < 12) => ?_) (fun (c16 : ¬ (n < 12)) => ?_)
    · refine ep_aln t104_22 rfl ?_
      refine ep_getr (q := 26) t104_23 rfl (Nat.le_of_ble_eq_true rfl) rfl (rfl) ?_
      refine ep_aln t104_26 rfl ?_
      refine ep_get t104_27 rfl (Nat.le_of_ble_eq_true rfl) rfl ?_
      refine ep_val (b := nI n) (h1) ?_
      refine ep_iln t104_30 rfl ?_
      refine ep_astN t104_31 rfl (Nat.le_of_ble_eq_true rfl) (Nat.le_of_ble_eq_true rfl) (by omega) ?_
      refine ep_aln t104_32 rfl ?_
      refine ep_dup t104_33 rfl ?_
      refine ep_get t104_34 rfl (Nat.le_of_ble_eq_true rfl) rfl ?_
      refine ep_val (b := nI n) (h1) ?_
      refine ep_k1 (w := nI 1) t104_37 rfl ?_
      refine ep_addN (a := n) (b := 1) t104_38 ?_
      refine ep_put t104_39 rfl (Nat.le_of_ble_eq_true rfl) rfl ?_
      refine ep_aln t104_42 rfl ?_
      refine ep_get t104_43 rfl (Nat.le_of_ble_eq_true rfl) rfl ?_
      refine ep_val (b := nI (n + 1)) (rfl) ?_
      refine ep_ri t104_46 (fun h => absurd h (by decide)) ?_
      obtain ⟨k, hk, ea⟩ := inR_of (by omega) c5
      refine ⟨_, q, _, rfl, rfl, ClP.of ⟨Nat.le_of_ble_eq_true rfl, rfl⟩ ?_⟩
      show EvP X 105 0 [some (.ref 31), some (.int a)] [] (47, g_rho q, g_up (g_up σ 26 n a) 0 8 (nI (n + 1))) _
      refine ep_aln t105_0 rfl ?_
      refine ep_k1 (w := nI 0) t105_1 rfl ?_
      refine ep_put t105_2 rfl (Nat.le_of_ble_eq_true rfl) rfl ?_
      refine ep_aln t105_5 rfl ?_
      refine ep_iln t105_6 rfl ?_
      refine ep_cv t105_7 rfl rfl (Nat.le_of_ble_eq_true rfl) (Nat.le_of_ble_eq_true rfl) (cl_M_isSwitch _ (by omega) hM3) ?_
      refine ep_bT t105_10 (fun (c10 : (inR a (T 3)) = true) => ?_) (fun (c10 : (inR a (T 3)) = false) => ?_)
      · refine ep_aln t105_15 rfl ?_
        refine ep_get t105_16 rfl (Nat.le_of_ble_eq_true rfl) rfl ?_
        refine ep_val (b := nI n) (h2) ?_
        refine ep_k2 (w := nI 12) t105_19 rfl ?_
        refine ep_ifP t105_21 (ic_ne (by omega) (by omega)) (fun (c21 : ¬ n = 12) => ?_) (fun (c21 : ¬ (¬ n = 12)) => ?_)
        · refine ep_aln t105_27 rfl ?_
          refine ep_getr (q := 40) t105_28 rfl (Nat.le_of_ble_eq_true rfl) rfl (rfl) ?_
          refine ep_aln t105_31 rfl ?_
          refine ep_get t105_32 rfl (Nat.le_of_ble_eq_true rfl) rfl ?_
          refine ep_val (b := nI n) (h2) ?_
          refine ep_iln t105_35 rfl ?_
          refine ep_astN t105_36 rfl (Nat.le_of_ble_eq_true rfl) (Nat.le_of_ble_eq_true rfl) (by omega) ?_
          refine ep_aln t105_37 rfl ?_
          refine ep_dup t105_38 rfl ?_
          refine ep_get t105_39 rfl (Nat.le_of_ble_eq_true rfl) rfl ?_
          refine ep_val (b := nI n) (h2) ?_
          refine ep_k1 (w := nI 1) t105_42 rfl ?_
          refine ep_addN (a := n) (b := 1) t105_43 ?_
          refine ep_put t105_44 rfl (Nat.le_of_ble_eq_true rfl) rfl ?_
          refine ep_aln t105_47 rfl ?_
          refine ep_get t105_48 rfl (Nat.le_of_ble_eq_true rfl) rfl ?_
          refine ep_val (b := nI (n + 1)) (rfl) ?_
          refine ep_ri t105_51 (fun h => absurd h (by decide)) ?_
          exact ⟨_, rfl, rfl, ⟨T, c, l, pr, hN.fr (fun p h1 h2 => by repeat rw [g_up_ne (by omega)]) rfl, hW.fr rfl rfl rfl rfl, hT.fr rfl rfl rfl rfl, ⟨n + 1, by omega, rfl, rfl, fun j hj => by
              by_cases e : j = n
              · subst e
                exact ⟨k, hk, by simp [g_up, upd, ea], by simp [g_up, upd, ea]⟩
              · have := h3 j (by omega)
                simpa [g_up, upd, e] using this⟩, hU.fr rfl rfl rfl rfl, hI.fr rfl rfl rfl rfl, hS.fr rfl rfl rfl rfl rfl⟩⟩
        · exact absurd c21 (by omega)
      · exact absurd c5 (by rw [c10]; decide)
    · refine ep_k2 (w := (-3)) t104_19 rfl ?_
      refine ep_ri t104_21 (fun h => absurd h (by decide)) ?_
      obtain ⟨k, hk, ea⟩ := inR_of (by omega) c5
      refine ⟨_, q, _, rfl, rfl, ClP.of ⟨Nat.le_of_ble_eq_true rfl, rfl⟩ ?_⟩
      show EvP X 105 0 [some (.ref 31), some (.int a)] [] (47, g_rho q, σ) _
      refine ep_aln t105_0 rfl ?_
      refine ep_k1 (w := nI 0) t105_1 rfl ?_
      refine ep_put t105_2 rfl (Nat.le_of_ble_eq_true rfl) rfl ?_
      refine ep_aln t105_5 rfl ?_
      refine ep_iln t105_6 rfl ?_
      refine ep_cv t105_7 rfl rfl (Nat.le_of_ble_eq_true rfl) (Nat.le_of_ble_eq_true rfl) (cl_M_isSwitch _ (by omega) hM3) ?_
      refine ep_bT t105_10 (fun (c10 : (inR a (T 3)) = true) => ?_) (fun (c10 : (inR a (T 3)) = false) => ?_)
      · refine ep_aln t105_15 rfl ?_
        refine ep_get t105_16 rfl (Nat.le_of_ble_eq_true rfl) rfl ?_
        refine ep_val (b := nI n) (h2) ?_
        refine ep_k2 (w := nI 12) t105_19 rfl ?_
        refine ep_ifP t105_21 (ic_ne (by omega) (by omega)) (fun (c21 : ¬ n = 12) => ?_) (fun (c21 : ¬ (¬ n = 12)) => ?_)
        · exact absurd (by omega) c21
        · refine ep_k2 (w := (-3)) t105_24 rfl ?_
          refine ep_ri t105_26 (fun h => absurd h (by decide)) ?_
          exact ⟨_, rfl, rfl, hR0.thrown _⟩
      · exact absurd c5 (by rw [c10]; decide)
  · refine ep_k1 (w := (-1)) t104_8 rfl ?_
    refine ep_ri t104_9 (fun h => absurd h (by decide)) ?_
    refine ⟨_, q, _, rfl, rfl, ClP.of ⟨Nat.le_of_ble_eq_true rfl, rfl⟩ ?_⟩
    show EvP X 105 0 [some (.ref 31), some (.int a)] [] (47, g_rho q, σ) _
    refine ep_aln t105_0 rfl ?_
    refine ep_k1 (w := nI 0) t105_1 rfl ?_
    refine ep_put t105_2 rfl (Nat.le_of_ble_eq_true rfl) rfl ?_
    refine ep_aln t105_5 rfl ?_
    refine ep_iln t105_6 rfl ?_
    refine ep_cv t105_7 rfl rfl (Nat.le_of_ble_eq_true rfl) (Nat.le_of_ble_eq_true rfl) (cl_M_isSwitch _ (by omega) hM3) ?_
    refine ep_bT t105_10 (fun (c10 : (inR a (T 3)) = true) => ?_) (fun (c10 : (inR a (T 3)) = false) => ?_)
    · exact absurd c10 (by rw [c5]; decide)
    · refine ep_k1 (w := (-1)) t105_13 rfl ?_
      refine ep_ri t105_14 (fun h => absurd h (by decide)) ?_
      exact ⟨_, rfl, rfl, hR0.thrown _⟩
theorem pr_sees {X : gX} {q : Bool} {σ : gT1} (hR : Rel q σ) (a : Int32) (b : Int32) : Pair X 130 131 [.int a, .int b] q σ := by
  have hR0 := hR
  obtain ⟨T, c, l, pr, hN, hW, hT, hO, hU, hI, hS⟩ := hR
  obtain ⟨⟨hwf0, hwf1⟩, ⟨hwf2, hwf3⟩, hwf4, hwf5, hwf6⟩ := hN.1
  have hB3 : σ (np q) 3 = nI (T 3) := hN.2.1.1 3 (by decide)
  have hB0 : σ (np q) 0 = nI (T 0) := hN.2.1.1 0 (by decide)
  have hM3 : σ 33 3 = nI (T 3) := hN.2.2.1 3 (by decide)
  have hM0 : σ 33 0 = nI (T 0) := hN.2.2.1 0 (by decide)
  have hZ := hS
  obtain ⟨n, hn, h1, h2, h3⟩ := hZ
  refine Pair.of (ClP.of ⟨Nat.le_of_ble_eq_true rfl, rfl⟩ ?_)
  show EvP X 130 0 [some (.ref 0), some (.int a), some (.int b)] [] (47, g_rho q, σ) _
  refine ep_aln t130_0 rfl ?_
  refine ep_iln t130_1 rfl ?_
  refine ep_cv t130_2 rfl rfl (Nat.le_of_ble_eq_true rfl) (Nat.le_of_ble_eq_true rfl) (cl_B_isNode _ (by omega) hB0) ?_
  refine ep_bF t130_5 (fun (c5 : (inR a (T 0)) = false) => ?_) (fun (c5 : (inR a (T 0)) = true) => ?_)
  · refine ep_k1 (w := (-1)) t130_17 rfl ?_
    refine ep_ri t130_18 (fun h => absurd h (by decide)) ?_
    refine ⟨_, q, _, rfl, rfl, ClP.of ⟨Nat.le_of_ble_eq_true rfl, rfl⟩ ?_⟩
    show EvP X 131 0 [some (.ref 31), some (.int a), some (.int b)] [] (47, g_rho q, σ) _
    refine ep_aln t131_0 rfl ?_
    refine ep_k1 (w := nI 0) t131_1 rfl ?_
    refine ep_put t131_2 rfl (Nat.le_of_ble_eq_true rfl) rfl ?_
    refine ep_aln t131_5 rfl ?_
    refine ep_iln t131_6 rfl ?_
    refine ep_cv t131_7 rfl rfl (Nat.le_of_ble_eq_true rfl) (Nat.le_of_ble_eq_true rfl) (cl_M_isNode _ (by omega) hM0) ?_
    refine ep_bF t131_10 (fun (c10 : (inR a (T 0)) = false) => ?_) (fun (c10 : (inR a (T 0)) = true) => ?_)
    · refine ep_k1 (w := (-1)) t131_22 rfl ?_
      refine ep_ri t131_23 (fun h => absurd h (by decide)) ?_
      exact ⟨_, rfl, rfl, hR0.thrown _⟩
    · refine ep_iln t131_13 rfl ?_
      refine ep_k1 (w := nI 0) t131_14 rfl ?_
      refine ep_k1 (w := nI 1) t131_15 rfl ?_
      refine ep_cs t131_16 (Nat.ne_of_beq_eq_false rfl) rfl (Nat.le_of_ble_eq_true rfl) (cl_M_inB _ (by decide) (by decide)) ?_
      refine ep_bT t131_19 (fun (c19 : (inB b 0 1) = true) => ?_) (fun (c19 : (inB b 0 1) = false) => ?_)
      · first | exact absurd c19 (by rw [inB_lt (by decide) c9]; decide) | exact absurd c19 (by rw [inB_gt (by decide) (Int32.not_le.mp c14)]; decide) | exact absurd c10 (by rw [c5]; decide)
      · refine ep_k1 (w := (-1)) t131_22 rfl ?_
        refine ep_ri t131_23 (fun h => absurd h (by decide)) ?_
        exact ⟨_, rfl, rfl, hR0.thrown _⟩
  · refine ep_iln t130_8 rfl ?_
    refine ep_if0 t130_9 (fun (c9 : b < 0) => ?_) (fun (c9 : ¬ (b < 0)) => ?_)
    · refine ep_k1 (w := (-1)) t130_17 rfl ?_
      refine ep_ri t130_18 (fun h => absurd h (by decide)) ?_
      refine ⟨_, q, _, rfl, rfl, ClP.of ⟨Nat.le_of_ble_eq_true rfl, rfl⟩ ?_⟩
      show EvP X 131 0 [some (.ref 31), some (.int a), some (.int b)] [] (47, g_rho q, σ) _
      refine ep_aln t131_0 rfl ?_
      refine ep_k1 (w := nI 0) t131_1 rfl ?_
      refine ep_put t131_2 rfl (Nat.le_of_ble_eq_true rfl) rfl ?_
      refine ep_aln t131_5 rfl ?_
      refine ep_iln t131_6 rfl ?_
      refine ep_cv t131_7 rfl rfl (Nat.le_of_ble_eq_true rfl) (Nat.le_of_ble_eq_true rfl) (cl_M_isNode _ (by omega) hM0) ?_
      refine ep_bF t131_10 (fun (c10 : (inR a (T 0)) = false) => ?_) (fun (c10 : (inR a (T 0)) = true) => ?_)
      · refine ep_k1 (w := (-1)) t131_22 rfl ?_
        refine ep_ri t131_23 (fun h => absurd h (by decide)) ?_
        exact ⟨_, rfl, rfl, hR0.thrown _⟩
      · refine ep_iln t131_13 rfl ?_
        refine ep_k1 (w := nI 0) t131_14 rfl ?_
        refine ep_k1 (w := nI 1) t131_15 rfl ?_
        refine ep_cs t131_16 (Nat.ne_of_beq_eq_false rfl) rfl (Nat.le_of_ble_eq_true rfl) (cl_M_inB _ (by decide) (by decide)) ?_
        refine ep_bT t131_19 (fun (c19 : (inB b 0 1) = true) => ?_) (fun (c19 : (inB b 0 1) = false) => ?_)
        · first | exact absurd c19 (by rw [inB_lt (by decide) c9]; decide) | exact absurd c19 (by rw [inB_gt (by decide) (Int32.not_le.mp c14)]; decide) | exact absurd c10 (by rw [c5]; decide)
        · refine ep_k1 (w := (-1)) t131_22 rfl ?_
          refine ep_ri t131_23 (fun h => absurd h (by decide)) ?_
          exact ⟨_, rfl, rfl, hR0.thrown _⟩
    · refine ep_iln t130_12 rfl ?_
      refine ep_k1 (w := nI 1) t130_13 rfl ?_
      refine ep_if t130_14 (fun (c14 : b ≤ (nI 1)) => ?_) (fun (c14 : ¬ (b ≤ (nI 1))) => ?_)
      · refine ep_aln t130_19 rfl ?_
        refine ep_get t130_20 rfl (Nat.le_of_ble_eq_true rfl) rfl ?_
        refine ep_val (b := nI n) (h1) ?_
        refine ep_k2 (w := nI 6) t130_23 rfl ?_
        refine ep_ifP t130_25 (ic_lt (by omega) (by omega)) (fun (c25 : n < 6) => ?_) (fun (c25 : ¬ (n < 6)) => ?_)
        · refine ep_aln t130_31 rfl ?_
          refine ep_getr (q := 29) t130_32 rfl (Nat.le_of_ble_eq_true rfl) rfl (rfl) ?_
          refine ep_aln t130_35 rfl ?_
          refine ep_get t130_36 rfl (Nat.le_of_ble_eq_true rfl) rfl ?_
          refine ep_val (b := nI n) (h1) ?_
          refine ep_k1 (w := nI 2) t130_39 rfl ?_
          refine ep_iln t130_40 rfl ?_
          refine ep_mul t130_41 ?_
          refine ep_iln t130_42 rfl ?_
          refine ep_add t130_43 ?_
          refine ep_astN t130_44 rfl (Nat.le_of_ble_eq_true rfl) (Nat.le_of_ble_eq_true rfl) (by omega) ?_
          refine ep_aln t130_45 rfl ?_
          refine ep_dup t130_46 rfl ?_
          refine ep_get t130_47 rfl (Nat.le_of_ble_eq_true rfl) rfl ?_
          refine ep_val (b := nI n) (h1) ?_
          refine ep_k1 (w := nI 1) t130_50 rfl ?_
          refine ep_addN (a := n) (b := 1) t130_51 ?_
          refine ep_put t130_52 rfl (Nat.le_of_ble_eq_true rfl) rfl ?_
          refine ep_aln t130_55 rfl ?_
          refine ep_get t130_56 rfl (Nat.le_of_ble_eq_true rfl) rfl ?_
          refine ep_val (b := nI (n + 1)) (rfl) ?_
          refine ep_ri t130_59 (fun h => absurd h (by decide)) ?_
          obtain ⟨u, hu, ea⟩ := inR_of (by omega) c5
          obtain ⟨d, hd, eb⟩ : ∃ d, d < 2 ∧ b = nI d := by
            obtain ⟨d, hd, e⟩ := inB_of (inB_ok (a := b) (x := 0) (y := 1) (by decide) (by decide) c9 (Int32.not_lt.mpr c14))
            exact ⟨d, by omega, e⟩
          refine ⟨_, q, _, rfl, rfl, ClP.of ⟨Nat.le_of_ble_eq_true rfl, rfl⟩ ?_⟩
          show EvP X 131 0 [some (.ref 31), some (.int a), some (.int b)] [] (47, g_rho q, g_up (g_up σ 29 n (((nI 2) * a) + b)) 0 14 (nI (n + 1))) _
          refine ep_aln t131_0 rfl ?_
          refine ep_k1 (w := nI 0) t131_1 rfl ?_
          refine ep_put t131_2 rfl (Nat.le_of_ble_eq_true rfl) rfl ?_
          refine ep_aln t131_5 rfl ?_
          refine ep_iln t131_6 rfl ?_
          refine ep_cv t131_7 rfl rfl (Nat.le_of_ble_eq_true rfl) (Nat.le_of_ble_eq_true rfl) (cl_M_isNode _ (by omega) hM0) ?_
          refine ep_bF t131_10 (fun (c10 : (inR a (T 0)) = false) => ?_) (fun (c10 : (inR a (T 0)) = true) => ?_)
          · exact absurd c5 (by rw [c10]; decide)
          · refine ep_iln t131_13 rfl ?_
            refine ep_k1 (w := nI 0) t131_14 rfl ?_
            refine ep_k1 (w := nI 1) t131_15 rfl ?_
            refine ep_cs t131_16 (Nat.ne_of_beq_eq_false rfl) rfl (Nat.le_of_ble_eq_true rfl) (cl_M_inB _ (by decide) (by decide)) ?_
            refine ep_bT t131_19 (fun (c19 : (inB b 0 1) = true) => ?_) (fun (c19 : (inB b 0 1) = false) => ?_)
            · refine ep_aln t131_24 rfl ?_
              refine ep_get t131_25 rfl (Nat.le_of_ble_eq_true rfl) rfl ?_
              refine ep_val (b := nI n) (h2) ?_
              refine ep_k2 (w := nI 6) t131_28 rfl ?_
              refine ep_ifP t131_30 (ic_ne (by omega) (by omega)) (fun (c30 : ¬ n = 6) => ?_) (fun (c30 : ¬ (¬ n = 6)) => ?_)
              · refine ep_aln t131_36 rfl ?_
                refine ep_getr (q := 41) t131_37 rfl (Nat.le_of_ble_eq_true rfl) rfl (rfl) ?_
                refine ep_aln t131_40 rfl ?_
                refine ep_get t131_41 rfl (Nat.le_of_ble_eq_true rfl) rfl ?_
                refine ep_val (b := nI n) (h2) ?_
                refine ep_iln t131_44 rfl ?_
                refine ep_astN t131_45 rfl (Nat.le_of_ble_eq_true rfl) (Nat.le_of_ble_eq_true rfl) (by omega) ?_
                refine ep_aln t131_46 rfl ?_
                refine ep_getr (q := 42) t131_47 rfl (Nat.le_of_ble_eq_true rfl) rfl (rfl) ?_
                refine ep_aln t131_50 rfl ?_
                refine ep_get t131_51 rfl (Nat.le_of_ble_eq_true rfl) rfl ?_
                refine ep_val (b := nI n) (h2) ?_
                refine ep_iln t131_54 rfl ?_
                refine ep_astN t131_55 rfl (Nat.le_of_ble_eq_true rfl) (Nat.le_of_ble_eq_true rfl) (by omega) ?_
                refine ep_aln t131_56 rfl ?_
                refine ep_dup t131_57 rfl ?_
                refine ep_get t131_58 rfl (Nat.le_of_ble_eq_true rfl) rfl ?_
                refine ep_val (b := nI n) (h2) ?_
                refine ep_k1 (w := nI 1) t131_61 rfl ?_
                refine ep_addN (a := n) (b := 1) t131_62 ?_
                refine ep_put t131_63 rfl (Nat.le_of_ble_eq_true rfl) rfl ?_
                refine ep_aln t131_66 rfl ?_
                refine ep_get t131_67 rfl (Nat.le_of_ble_eq_true rfl) rfl ?_
                refine ep_val (b := nI (n + 1)) (rfl) ?_
                refine ep_ri t131_70 (fun h => absurd h (by decide)) ?_
                exact ⟨_, rfl, rfl, ⟨T, c, l, pr, hN.fr (fun p h1 h2 => by repeat rw [g_up_ne (by omega)]) rfl, hW.fr rfl rfl rfl rfl, hT.fr rfl rfl rfl rfl, hO.fr rfl rfl rfl rfl, hU.fr rfl rfl rfl rfl, hI.fr rfl rfl rfl rfl, ⟨n + 1, by omega, rfl, rfl, fun j hj => by
                    by_cases e : j = n
                    · subst e
                      exact ⟨u, d, hu, hd, by rw [show nI (2 * u + d) = nI 2 * a + b by rw [ea, eb, pk_mul, nI_add]]; simp [g_up, upd], by rw [← ea]; simp [g_up, upd], by rw [← eb]; simp [g_up, upd]⟩
                    · have := h3 j (by omega)
                      simpa [g_up, upd, e] using this⟩⟩⟩
              · exact absurd c30 (by omega)
            · exact absurd (inB_ok (by decide) (by decide) c9 (Int32.not_lt.mpr c14)) (by rw [c19]; decide)
        · refine ep_k2 (w := (-3)) t130_28 rfl ?_
          refine ep_ri t130_30 (fun h => absurd h (by decide)) ?_
          obtain ⟨u, hu, ea⟩ := inR_of (by omega) c5
          obtain ⟨d, hd, eb⟩ : ∃ d, d < 2 ∧ b = nI d := by
            obtain ⟨d, hd, e⟩ := inB_of (inB_ok (a := b) (x := 0) (y := 1) (by decide) (by decide) c9 (Int32.not_lt.mpr c14))
            exact ⟨d, by omega, e⟩
          refine ⟨_, q, _, rfl, rfl, ClP.of ⟨Nat.le_of_ble_eq_true rfl, rfl⟩ ?_⟩
          show EvP X 131 0 [some (.ref 31), some (.int a), some (.int b)] [] (47, g_rho q, σ) _
          refine ep_aln t131_0 rfl ?_
          refine ep_k1 (w := nI 0) t131_1 rfl ?_
          refine ep_put t131_2 rfl (Nat.le_of_ble_eq_true rfl) rfl ?_
          refine ep_aln t131_5 rfl ?_
          refine ep_iln t131_6 rfl ?_
          refine ep_cv t131_7 rfl rfl (Nat.le_of_ble_eq_true rfl) (Nat.le_of_ble_eq_true rfl) (cl_M_isNode _ (by omega) hM0) ?_
          refine ep_bF t131_10 (fun (c10 : (inR a (T 0)) = false) => ?_) (fun (c10 : (inR a (T 0)) = true) => ?_)
          · exact absurd c5 (by rw [c10]; decide)
          · refine ep_iln t131_13 rfl ?_
            refine ep_k1 (w := nI 0) t131_14 rfl ?_
            refine ep_k1 (w := nI 1) t131_15 rfl ?_
            refine ep_cs t131_16 (Nat.ne_of_beq_eq_false rfl) rfl (Nat.le_of_ble_eq_true rfl) (cl_M_inB _ (by decide) (by decide)) ?_
            refine ep_bT t131_19 (fun (c19 : (inB b 0 1) = true) => ?_) (fun (c19 : (inB b 0 1) = false) => ?_)
            · refine ep_aln t131_24 rfl ?_
              refine ep_get t131_25 rfl (Nat.le_of_ble_eq_true rfl) rfl ?_
              refine ep_val (b := nI n) (h2) ?_
              refine ep_k2 (w := nI 6) t131_28 rfl ?_
              refine ep_ifP t131_30 (ic_ne (by omega) (by omega)) (fun (c30 : ¬ n = 6) => ?_) (fun (c30 : ¬ (¬ n = 6)) => ?_)
              · exact absurd (by omega) c30
              · refine ep_k2 (w := (-3)) t131_33 rfl ?_
                refine ep_ri t131_35 (fun h => absurd h (by decide)) ?_
                exact ⟨_, rfl, rfl, hR0.thrown _⟩
            · exact absurd (inB_ok (by decide) (by decide) c9 (Int32.not_lt.mpr c14)) (by rw [c19]; decide)
      · refine ep_k1 (w := (-1)) t130_17 rfl ?_
        refine ep_ri t130_18 (fun h => absurd h (by decide)) ?_
        refine ⟨_, q, _, rfl, rfl, ClP.of ⟨Nat.le_of_ble_eq_true rfl, rfl⟩ ?_⟩
        show EvP X 131 0 [some (.ref 31), some (.int a), some (.int b)] [] (47, g_rho q, σ) _
        refine ep_aln t131_0 rfl ?_
        refine ep_k1 (w := nI 0) t131_1 rfl ?_
        refine ep_put t131_2 rfl (Nat.le_of_ble_eq_true rfl) rfl ?_
        refine ep_aln t131_5 rfl ?_
        refine ep_iln t131_6 rfl ?_
        refine ep_cv t131_7 rfl rfl (Nat.le_of_ble_eq_true rfl) (Nat.le_of_ble_eq_true rfl) (cl_M_isNode _ (by omega) hM0) ?_
        refine ep_bF t131_10 (fun (c10 : (inR a (T 0)) = false) => ?_) (fun (c10 : (inR a (T 0)) = true) => ?_)
        · refine ep_k1 (w := (-1)) t131_22 rfl ?_
          refine ep_ri t131_23 (fun h => absurd h (by decide)) ?_
          exact ⟨_, rfl, rfl, hR0.thrown _⟩
        · refine ep_iln t131_13 rfl ?_
          refine ep_k1 (w := nI 0) t131_14 rfl ?_
          refine ep_k1 (w := nI 1) t131_15 rfl ?_
          refine ep_cs t131_16 (Nat.ne_of_beq_eq_false rfl) rfl (Nat.le_of_ble_eq_true rfl) (cl_M_inB _ (by decide) (by decide)) ?_
          refine ep_bT t131_19 (fun (c19 : (inB b 0 1) = true) => ?_) (fun (c19 : (inB b 0 1) = false) => ?_)
          · first | exact absurd c19 (by rw [inB_lt (by decide) c9]; decide) | exact absurd c19 (by rw [inB_gt (by decide) (Int32.not_le.mp c14)]; decide) | exact absurd c10 (by rw [c5]; decide)
          · refine ep_k1 (w := (-1)) t131_22 rfl ?_
            refine ep_ri t131_23 (fun h => absurd h (by decide)) ?_
            exact ⟨_, rfl, rfl, hR0.thrown _⟩
theorem pr_count {X : gX} {q : Bool} {σ : gT1} (hR : Rel q σ) (a : Int32) : Pair X 147 148 [.int a] q σ := by
  have hR0 := hR
  obtain ⟨T, c, l, pr, hN, hW, hT, hO, hU, hI, hS⟩ := hR
  obtain ⟨⟨hwf0, hwf1⟩, ⟨hwf2, hwf3⟩, hwf4, hwf5, hwf6⟩ := hN.1
  have hB3 : σ (np q) 3 = nI (T 3) := hN.2.1.1 3 (by decide)
  have hB0 : σ (np q) 0 = nI (T 0) := hN.2.1.1 0 (by decide)
  have hM3 : σ 33 3 = nI (T 3) := hN.2.2.1 3 (by decide)
  have hM0 : σ 33 0 = nI (T 0) := hN.2.2.1 0 (by decide)
  obtain ⟨n1, hn1, ho1, ho2, ho3⟩ := id hO
  obtain ⟨n2, hn2, hs1, hs2, hs3⟩ := id hS
  obtain ⟨n3, hn3, ht1, ht2, ht3⟩ := id hT
  cases hin : inB a 0 7 with
  | false =>
    refine Pair.of (ClP.of ⟨Nat.le_of_ble_eq_true rfl, rfl⟩ ?_)
    show EvP X 147 0 [some (.ref 0), some (.int a)] [] (47, g_rho q, σ) _
    refine ep_iln t147_0 rfl ?_
    refine ep_sw (t := 103) t147_1 (tgt_out (inB_F (x := 0) (y := 7) hin)) ?_
    refine ep_k1 (w := (-1)) t147_103 rfl ?_
    refine ep_ri t147_104 (fun h => absurd h (by decide)) ?_
    refine ⟨_, q, _, rfl, rfl, ClP.of ⟨Nat.le_of_ble_eq_true rfl, rfl⟩ ?_⟩
    show EvP X 148 0 [some (.ref 31), some (.int a)] [] (47, g_rho q, σ) _
    refine ep_aln t148_0 rfl ?_
    refine ep_k1 (w := nI 0) t148_1 rfl ?_
    refine ep_put t148_2 rfl (Nat.le_of_ble_eq_true rfl) rfl ?_
    refine ep_iln t148_5 rfl ?_
    refine ep_k1 (w := nI 0) t148_6 rfl ?_
    refine ep_k2 (w := nI 7) t148_7 rfl ?_
    refine ep_cs t148_9 (Nat.ne_of_beq_eq_false rfl) rfl (Nat.le_of_ble_eq_true rfl) (cl_M_inB _ (by decide) (by decide)) ?_
    refine ep_bT t148_12 (fun (c12 : (inB a 0 7) = true) => ?_) (fun (c12 : (inB a 0 7) = false) => ?_)
    · exact absurd c12 (by rw [hin]; decide)
    · refine ep_k1 (w := (-1)) t148_15 rfl ?_
      refine ep_ri t148_16 (fun h => absurd h (by decide)) ?_
      exact ⟨_, rfl, rfl, hR0.thrown _⟩
  | true =>
    obtain ⟨t, ⟨-, ht⟩, rfl⟩ := inB_of hin
    clear hin
    obtain rfl | rfl | rfl | rfl | rfl | rfl | rfl | rfl := (by omega : t = 0 ∨ t = 1 ∨ t = 2 ∨ t = 3 ∨ t = 4 ∨ t = 5 ∨ t = 6 ∨ t = 7)
    · cases q
      · refine Pair.of (ClP.of ⟨Nat.le_of_ble_eq_true rfl, rfl⟩ ?_)
        show EvP X 147 0 [some (.ref 0), some (.int (nI 0))] [] (47, g_rho false, σ) _
        refine ep_iln t147_0 rfl ?_
        refine ep_sw (t := 48) t147_1 (by decide +kernel) ?_
        refine ep_aln t147_48 rfl ?_
        refine ep_getr (q := 7) t147_49 rfl (Nat.le_of_ble_eq_true rfl) rfl (rfl) ?_
        refine ep_get t147_52 rfl (Nat.le_of_ble_eq_true rfl) rfl ?_
        refine ep_val (b := nI (T 0)) (hB0) ?_
        refine ep_ri t147_55 (fun h => absurd h (by decide)) ?_
        refine ⟨_, false, _, rfl, rfl, ClP.of ⟨Nat.le_of_ble_eq_true rfl, rfl⟩ ?_⟩
        show EvP X 148 0 [some (.ref 31), some (.int (nI 0))] [] (47, g_rho false, σ) _
        refine ep_aln t148_0 rfl ?_
        refine ep_k1 (w := nI 0) t148_1 rfl ?_
        refine ep_put t148_2 rfl (Nat.le_of_ble_eq_true rfl) rfl ?_
        refine ep_iln t148_5 rfl ?_
        refine ep_k1 (w := nI 0) t148_6 rfl ?_
        refine ep_k2 (w := nI 7) t148_7 rfl ?_
        refine ep_cs t148_9 (Nat.ne_of_beq_eq_false rfl) rfl (Nat.le_of_ble_eq_true rfl) (cl_M_inB _ (by decide) (by decide)) ?_
        refine ep_bT t148_12 (fun (c12 : (inB (nI 0) 0 7) = true) => ?_) (fun (c12 : (inB (nI 0) 0 7) = false) => ?_)
        · refine ep_iln t148_17 rfl ?_
          refine ep_k1 (w := nI 4) t148_18 rfl ?_
          refine ep_ifP t148_19 (ic_ge (by omega) (by omega)) (fun (c19 : 4 ≤ 0) => ?_) (fun (c19 : ¬ (4 ≤ 0)) => ?_)
          · exact absurd c19 (by omega)
          · refine ep_iln t148_22 rfl ?_
            refine ep_if0P t148_23 (ic0_ne (by omega)) (fun (c23 : ¬ 0 = 0) => ?_) (fun (c23 : ¬ (¬ 0 = 0)) => ?_)
            · exact absurd c23 (by omega)
            · refine ep_aln t148_26 rfl ?_
              refine ep_getr (q := 33) t148_27 rfl (Nat.le_of_ble_eq_true rfl) rfl (rfl) ?_
              refine ep_k1 (w := nI 0) t148_30 rfl ?_
              refine ep_aldN t148_31 rfl (Nat.le_of_ble_eq_true rfl) (Nat.ne_of_beq_eq_false rfl) (Nat.le_of_ble_eq_true rfl) (by omega) ?_
              refine ep_val (b := nI (T 0)) (hM0) ?_
              refine ep_gt t148_32 ?_
              refine ep_ri t148_65 (fun h => absurd h (by decide)) ?_
              exact ⟨_, rfl, rfl, hR0.thrown _⟩
        · exact absurd c12 (by decide)
      · refine Pair.of (ClP.of ⟨Nat.le_of_ble_eq_true rfl, rfl⟩ ?_)
        show EvP X 147 0 [some (.ref 0), some (.int (nI 0))] [] (47, g_rho true, σ) _
        refine ep_iln t147_0 rfl ?_
        refine ep_sw (t := 48) t147_1 (by decide +kernel) ?_
        refine ep_aln t147_48 rfl ?_
        refine ep_getr (q := 16) t147_49 rfl (Nat.le_of_ble_eq_true rfl) rfl (rfl) ?_
        refine ep_get t147_52 rfl (Nat.le_of_ble_eq_true rfl) rfl ?_
        refine ep_val (b := nI (T 0)) (hB0) ?_
        refine ep_ri t147_55 (fun h => absurd h (by decide)) ?_
        refine ⟨_, true, _, rfl, rfl, ClP.of ⟨Nat.le_of_ble_eq_true rfl, rfl⟩ ?_⟩
        show EvP X 148 0 [some (.ref 31), some (.int (nI 0))] [] (47, g_rho true, σ) _
        refine ep_aln t148_0 rfl ?_
        refine ep_k1 (w := nI 0) t148_1 rfl ?_
        refine ep_put t148_2 rfl (Nat.le_of_ble_eq_true rfl) rfl ?_
        refine ep_iln t148_5 rfl ?_
        refine ep_k1 (w := nI 0) t148_6 rfl ?_
        refine ep_k2 (w := nI 7) t148_7 rfl ?_
        refine ep_cs t148_9 (Nat.ne_of_beq_eq_false rfl) rfl (Nat.le_of_ble_eq_true rfl) (cl_M_inB _ (by decide) (by decide)) ?_
        refine ep_bT t148_12 (fun (c12 : (inB (nI 0) 0 7) = true) => ?_) (fun (c12 : (inB (nI 0) 0 7) = false) => ?_)
        · refine ep_iln t148_17 rfl ?_
          refine ep_k1 (w := nI 4) t148_18 rfl ?_
          refine ep_ifP t148_19 (ic_ge (by omega) (by omega)) (fun (c19 : 4 ≤ 0) => ?_) (fun (c19 : ¬ (4 ≤ 0)) => ?_)
          · exact absurd c19 (by omega)
          · refine ep_iln t148_22 rfl ?_
            refine ep_if0P t148_23 (ic0_ne (by omega)) (fun (c23 : ¬ 0 = 0) => ?_) (fun (c23 : ¬ (¬ 0 = 0)) => ?_)
            · exact absurd c23 (by omega)
            · refine ep_aln t148_26 rfl ?_
              refine ep_getr (q := 33) t148_27 rfl (Nat.le_of_ble_eq_true rfl) rfl (rfl) ?_
              refine ep_k1 (w := nI 0) t148_30 rfl ?_
              refine ep_aldN t148_31 rfl (Nat.le_of_ble_eq_true rfl) (Nat.ne_of_beq_eq_false rfl) (Nat.le_of_ble_eq_true rfl) (by omega) ?_
              refine ep_val (b := nI (T 0)) (hM0) ?_
              refine ep_gt t148_32 ?_
              refine ep_ri t148_65 (fun h => absurd h (by decide)) ?_
              exact ⟨_, rfl, rfl, hR0.thrown _⟩
        · exact absurd c12 (by decide)
    · cases q
      · refine Pair.of (ClP.of ⟨Nat.le_of_ble_eq_true rfl, rfl⟩ ?_)
        show EvP X 147 0 [some (.ref 0), some (.int (nI 1))] [] (47, g_rho false, σ) _
        refine ep_iln t147_0 rfl ?_
        refine ep_sw (t := 56) t147_1 (by decide +kernel) ?_
        refine ep_aln t147_56 rfl ?_
        refine ep_getr (q := 7) t147_57 rfl (Nat.le_of_ble_eq_true rfl) rfl (rfl) ?_
        refine ep_get t147_60 rfl (Nat.le_of_ble_eq_true rfl) rfl ?_
        refine ep_val (b := nI (T 3)) (hB3) ?_
        refine ep_ri t147_63 (fun h => absurd h (by decide)) ?_
        refine ⟨_, false, _, rfl, rfl, ClP.of ⟨Nat.le_of_ble_eq_true rfl, rfl⟩ ?_⟩
        show EvP X 148 0 [some (.ref 31), some (.int (nI 1))] [] (47, g_rho false, σ) _
        refine ep_aln t148_0 rfl ?_
        refine ep_k1 (w := nI 0) t148_1 rfl ?_
        refine ep_put t148_2 rfl (Nat.le_of_ble_eq_true rfl) rfl ?_
        refine ep_iln t148_5 rfl ?_
        refine ep_k1 (w := nI 0) t148_6 rfl ?_
        refine ep_k2 (w := nI 7) t148_7 rfl ?_
        refine ep_cs t148_9 (Nat.ne_of_beq_eq_false rfl) rfl (Nat.le_of_ble_eq_true rfl) (cl_M_inB _ (by decide) (by decide)) ?_
        refine ep_bT t148_12 (fun (c12 : (inB (nI 1) 0 7) = true) => ?_) (fun (c12 : (inB (nI 1) 0 7) = false) => ?_)
        · refine ep_iln t148_17 rfl ?_
          refine ep_k1 (w := nI 4) t148_18 rfl ?_
          refine ep_ifP t148_19 (ic_ge (by omega) (by omega)) (fun (c19 : 4 ≤ 1) => ?_) (fun (c19 : ¬ (4 ≤ 1)) => ?_)
          · exact absurd c19 (by omega)
          · refine ep_iln t148_22 rfl ?_
            refine ep_if0P t148_23 (ic0_ne (by omega)) (fun (c23 : ¬ 1 = 0) => ?_) (fun (c23 : ¬ (¬ 1 = 0)) => ?_)
            · refine ep_iln t148_35 rfl ?_
              refine ep_k1 (w := nI 1) t148_36 rfl ?_
              refine ep_ifP t148_37 (ic_ne (by omega) (by omega)) (fun (c37 : ¬ 1 = 1) => ?_) (fun (c37 : ¬ (¬ 1 = 1)) => ?_)
              · exact absurd c37 (by omega)
              · refine ep_aln t148_40 rfl ?_
                refine ep_getr (q := 33) t148_41 rfl (Nat.le_of_ble_eq_true rfl) rfl (rfl) ?_
                refine ep_k1 (w := nI 3) t148_44 rfl ?_
                refine ep_aldN t148_45 rfl (Nat.le_of_ble_eq_true rfl) (Nat.ne_of_beq_eq_false rfl) (Nat.le_of_ble_eq_true rfl) (by omega) ?_
                refine ep_val (b := nI (T 3)) (hM3) ?_
                refine ep_gt t148_46 ?_
                refine ep_ri t148_65 (fun h => absurd h (by decide)) ?_
                exact ⟨_, rfl, rfl, hR0.thrown _⟩
            · exact absurd (by omega) c23
        · exact absurd c12 (by decide)
      · refine Pair.of (ClP.of ⟨Nat.le_of_ble_eq_true rfl, rfl⟩ ?_)
        show EvP X 147 0 [some (.ref 0), some (.int (nI 1))] [] (47, g_rho true, σ) _
        refine ep_iln t147_0 rfl ?_
        refine ep_sw (t := 56) t147_1 (by decide +kernel) ?_
        refine ep_aln t147_56 rfl ?_
        refine ep_getr (q := 16) t147_57 rfl (Nat.le_of_ble_eq_true rfl) rfl (rfl) ?_
        refine ep_get t147_60 rfl (Nat.le_of_ble_eq_true rfl) rfl ?_
        refine ep_val (b := nI (T 3)) (hB3) ?_
        refine ep_ri t147_63 (fun h => absurd h (by decide)) ?_
        refine ⟨_, true, _, rfl, rfl, ClP.of ⟨Nat.le_of_ble_eq_true rfl, rfl⟩ ?_⟩
        show EvP X 148 0 [some (.ref 31), some (.int (nI 1))] [] (47, g_rho true, σ) _
        refine ep_aln t148_0 rfl ?_
        refine ep_k1 (w := nI 0) t148_1 rfl ?_
        refine ep_put t148_2 rfl (Nat.le_of_ble_eq_true rfl) rfl ?_
        refine ep_iln t148_5 rfl ?_
        refine ep_k1 (w := nI 0) t148_6 rfl ?_
        refine ep_k2 (w := nI 7) t148_7 rfl ?_
        refine ep_cs t148_9 (Nat.ne_of_beq_eq_false rfl) rfl (Nat.le_of_ble_eq_true rfl) (cl_M_inB _ (by decide) (by decide)) ?_
        refine ep_bT t148_12 (fun (c12 : (inB (nI 1) 0 7) = true) => ?_) (fun (c12 : (inB (nI 1) 0 7) = false) => ?_)
        · refine ep_iln t148_17 rfl ?_
          refine ep_k1 (w := nI 4) t148_18 rfl ?_
          refine ep_ifP t148_19 (ic_ge (by omega) (by omega)) (fun (c19 : 4 ≤ 1) => ?_) (fun (c19 : ¬ (4 ≤ 1)) => ?_)
          · exact absurd c19 (by omega)
          · refine ep_iln t148_22 rfl ?_
            refine ep_if0P t148_23 (ic0_ne (by omega)) (fun (c23 : ¬ 1 = 0) => ?_) (fun (c23 : ¬ (¬ 1 = 0)) => ?_)
            · refine ep_iln t148_35 rfl ?_
              refine ep_k1 (w := nI 1) t148_36 rfl ?_
              refine ep_ifP t148_37 (ic_ne (by omega) (by omega)) (fun (c37 : ¬ 1 = 1) => ?_) (fun (c37 : ¬ (¬ 1 = 1)) => ?_)
              · exact absurd c37 (by omega)
              · refine ep_aln t148_40 rfl ?_
                refine ep_getr (q := 33) t148_41 rfl (Nat.le_of_ble_eq_true rfl) rfl (rfl) ?_
                refine ep_k1 (w := nI 3) t148_44 rfl ?_
                refine ep_aldN t148_45 rfl (Nat.le_of_ble_eq_true rfl) (Nat.ne_of_beq_eq_false rfl) (Nat.le_of_ble_eq_true rfl) (by omega) ?_
                refine ep_val (b := nI (T 3)) (hM3) ?_
                refine ep_gt t148_46 ?_
                refine ep_ri t148_65 (fun h => absurd h (by decide)) ?_
                exact ⟨_, rfl, rfl, hR0.thrown _⟩
            · exact absurd (by omega) c23
        · exact absurd c12 (by decide)
    · cases q
      · refine Pair.of (ClP.of ⟨Nat.le_of_ble_eq_true rfl, rfl⟩ ?_)
        show EvP X 147 0 [some (.ref 0), some (.int (nI 2))] [] (47, g_rho false, σ) _
        refine ep_iln t147_0 rfl ?_
        refine ep_sw (t := 64) t147_1 (by decide +kernel) ?_
        refine ep_aln t147_64 rfl ?_
        refine ep_get t147_65 rfl (Nat.le_of_ble_eq_true rfl) rfl ?_
        refine ep_val (b := nI n1) (ho1) ?_
        refine ep_ri t147_68 (fun h => absurd h (by decide)) ?_
        refine ⟨_, false, _, rfl, rfl, ClP.of ⟨Nat.le_of_ble_eq_true rfl, rfl⟩ ?_⟩
        show EvP X 148 0 [some (.ref 31), some (.int (nI 2))] [] (47, g_rho false, σ) _
        refine ep_aln t148_0 rfl ?_
        refine ep_k1 (w := nI 0) t148_1 rfl ?_
        refine ep_put t148_2 rfl (Nat.le_of_ble_eq_true rfl) rfl ?_
        refine ep_iln t148_5 rfl ?_
        refine ep_k1 (w := nI 0) t148_6 rfl ?_
        refine ep_k2 (w := nI 7) t148_7 rfl ?_
        refine ep_cs t148_9 (Nat.ne_of_beq_eq_false rfl) rfl (Nat.le_of_ble_eq_true rfl) (cl_M_inB _ (by decide) (by decide)) ?_
        refine ep_bT t148_12 (fun (c12 : (inB (nI 2) 0 7) = true) => ?_) (fun (c12 : (inB (nI 2) 0 7) = false) => ?_)
        · refine ep_iln t148_17 rfl ?_
          refine ep_k1 (w := nI 4) t148_18 rfl ?_
          refine ep_ifP t148_19 (ic_ge (by omega) (by omega)) (fun (c19 : 4 ≤ 2) => ?_) (fun (c19 : ¬ (4 ≤ 2)) => ?_)
          · exact absurd c19 (by omega)
          · refine ep_iln t148_22 rfl ?_
            refine ep_if0P t148_23 (ic0_ne (by omega)) (fun (c23 : ¬ 2 = 0) => ?_) (fun (c23 : ¬ (¬ 2 = 0)) => ?_)
            · refine ep_iln t148_35 rfl ?_
              refine ep_k1 (w := nI 1) t148_36 rfl ?_
              refine ep_ifP t148_37 (ic_ne (by omega) (by omega)) (fun (c37 : ¬ 2 = 1) => ?_) (fun (c37 : ¬ (¬ 2 = 1)) => ?_)
              · refine ep_iln t148_49 rfl ?_
                refine ep_k1 (w := nI 2) t148_50 rfl ?_
                refine ep_ifP t148_51 (ic_ne (by omega) (by omega)) (fun (c51 : ¬ 2 = 2) => ?_) (fun (c51 : ¬ (¬ 2 = 2)) => ?_)
                · exact absurd c51 (by omega)
                · refine ep_aln t148_54 rfl ?_
                  refine ep_get t148_55 rfl (Nat.le_of_ble_eq_true rfl) rfl ?_
                  refine ep_val (b := nI n1) (ho2) ?_
                  refine ep_gt t148_58 ?_
                  refine ep_ri t148_65 (fun h => absurd h (by decide)) ?_
                  exact ⟨_, rfl, rfl, hR0.thrown _⟩
              · exact absurd (by omega) c37
            · exact absurd (by omega) c23
        · exact absurd c12 (by decide)
      · refine Pair.of (ClP.of ⟨Nat.le_of_ble_eq_true rfl, rfl⟩ ?_)
        show EvP X 147 0 [some (.ref 0), some (.int (nI 2))] [] (47, g_rho true, σ) _
        refine ep_iln t147_0 rfl ?_
        refine ep_sw (t := 64) t147_1 (by decide +kernel) ?_
        refine ep_aln t147_64 rfl ?_
        refine ep_get t147_65 rfl (Nat.le_of_ble_eq_true rfl) rfl ?_
        refine ep_val (b := nI n1) (ho1) ?_
        refine ep_ri t147_68 (fun h => absurd h (by decide)) ?_
        refine ⟨_, true, _, rfl, rfl, ClP.of ⟨Nat.le_of_ble_eq_true rfl, rfl⟩ ?_⟩
        show EvP X 148 0 [some (.ref 31), some (.int (nI 2))] [] (47, g_rho true, σ) _
        refine ep_aln t148_0 rfl ?_
        refine ep_k1 (w := nI 0) t148_1 rfl ?_
        refine ep_put t148_2 rfl (Nat.le_of_ble_eq_true rfl) rfl ?_
        refine ep_iln t148_5 rfl ?_
        refine ep_k1 (w := nI 0) t148_6 rfl ?_
        refine ep_k2 (w := nI 7) t148_7 rfl ?_
        refine ep_cs t148_9 (Nat.ne_of_beq_eq_false rfl) rfl (Nat.le_of_ble_eq_true rfl) (cl_M_inB _ (by decide) (by decide)) ?_
        refine ep_bT t148_12 (fun (c12 : (inB (nI 2) 0 7) = true) => ?_) (fun (c12 : (inB (nI 2) 0 7) = false) => ?_)
        · refine ep_iln t148_17 rfl ?_
          refine ep_k1 (w := nI 4) t148_18 rfl ?_
          refine ep_ifP t148_19 (ic_ge (by omega) (by omega)) (fun (c19 : 4 ≤ 2) => ?_) (fun (c19 : ¬ (4 ≤ 2)) => ?_)
          · exact absurd c19 (by omega)
          · refine ep_iln t148_22 rfl ?_
            refine ep_if0P t148_23 (ic0_ne (by omega)) (fun (c23 : ¬ 2 = 0) => ?_) (fun (c23 : ¬ (¬ 2 = 0)) => ?_)
            · refine ep_iln t148_35 rfl ?_
              refine ep_k1 (w := nI 1) t148_36 rfl ?_
              refine ep_ifP t148_37 (ic_ne (by omega) (by omega)) (fun (c37 : ¬ 2 = 1) => ?_) (fun (c37 : ¬ (¬ 2 = 1)) => ?_)
              · refine ep_iln t148_49 rfl ?_
                refine ep_k1 (w := nI 2) t148_50 rfl ?_
                refine ep_ifP t148_51 (ic_ne (by omega) (by omega)) (fun (c51 : ¬ 2 = 2) => ?_) (fun (c51 : ¬ (¬ 2 = 2)) => ?_)
                · exact absurd c51 (by omega)
                · refine ep_aln t148_54 rfl ?_
                  refine ep_get t148_55 rfl (Nat.le_of_ble_eq_true rfl) rfl ?_
                  refine ep_val (b := nI n1) (ho2) ?_
                  refine ep_gt t148_58 ?_
                  refine ep_ri t148_65 (fun h => absurd h (by decide)) ?_
                  exact ⟨_, rfl, rfl, hR0.thrown _⟩
              · exact absurd (by omega) c37
            · exact absurd (by omega) c23
        · exact absurd c12 (by decide)
    · cases q
      · refine Pair.of (ClP.of ⟨Nat.le_of_ble_eq_true rfl, rfl⟩ ?_)
        show EvP X 147 0 [some (.ref 0), some (.int (nI 3))] [] (47, g_rho false, σ) _
        refine ep_iln t147_0 rfl ?_
        refine ep_sw (t := 69) t147_1 (by decide +kernel) ?_
        refine ep_aln t147_69 rfl ?_
        refine ep_get t147_70 rfl (Nat.le_of_ble_eq_true rfl) rfl ?_
        refine ep_val (b := nI n2) (hs1) ?_
        refine ep_ri t147_73 (fun h => absurd h (by decide)) ?_
        refine ⟨_, false, _, rfl, rfl, ClP.of ⟨Nat.le_of_ble_eq_true rfl, rfl⟩ ?_⟩
        show EvP X 148 0 [some (.ref 31), some (.int (nI 3))] [] (47, g_rho false, σ) _
        refine ep_aln t148_0 rfl ?_
        refine ep_k1 (w := nI 0) t148_1 rfl ?_
        refine ep_put t148_2 rfl (Nat.le_of_ble_eq_true rfl) rfl ?_
        refine ep_iln t148_5 rfl ?_
        refine ep_k1 (w := nI 0) t148_6 rfl ?_
        refine ep_k2 (w := nI 7) t148_7 rfl ?_
        refine ep_cs t148_9 (Nat.ne_of_beq_eq_false rfl) rfl (Nat.le_of_ble_eq_true rfl) (cl_M_inB _ (by decide) (by decide)) ?_
        refine ep_bT t148_12 (fun (c12 : (inB (nI 3) 0 7) = true) => ?_) (fun (c12 : (inB (nI 3) 0 7) = false) => ?_)
        · refine ep_iln t148_17 rfl ?_
          refine ep_k1 (w := nI 4) t148_18 rfl ?_
          refine ep_ifP t148_19 (ic_ge (by omega) (by omega)) (fun (c19 : 4 ≤ 3) => ?_) (fun (c19 : ¬ (4 ≤ 3)) => ?_)
          · exact absurd c19 (by omega)
          · refine ep_iln t148_22 rfl ?_
            refine ep_if0P t148_23 (ic0_ne (by omega)) (fun (c23 : ¬ 3 = 0) => ?_) (fun (c23 : ¬ (¬ 3 = 0)) => ?_)
            · refine ep_iln t148_35 rfl ?_
              refine ep_k1 (w := nI 1) t148_36 rfl ?_
              refine ep_ifP t148_37 (ic_ne (by omega) (by omega)) (fun (c37 : ¬ 3 = 1) => ?_) (fun (c37 : ¬ (¬ 3 = 1)) => ?_)
              · refine ep_iln t148_49 rfl ?_
                refine ep_k1 (w := nI 2) t148_50 rfl ?_
                refine ep_ifP t148_51 (ic_ne (by omega) (by omega)) (fun (c51 : ¬ 3 = 2) => ?_) (fun (c51 : ¬ (¬ 3 = 2)) => ?_)
                · refine ep_aln t148_61 rfl ?_
                  refine ep_get t148_62 rfl (Nat.le_of_ble_eq_true rfl) rfl ?_
                  refine ep_val (b := nI n2) (hs2) ?_
                  refine ep_ri t148_65 (fun h => absurd h (by decide)) ?_
                  exact ⟨_, rfl, rfl, hR0.thrown _⟩
                · exact absurd (by omega) c51
              · exact absurd (by omega) c37
            · exact absurd (by omega) c23
        · exact absurd c12 (by decide)
      · refine Pair.of (ClP.of ⟨Nat.le_of_ble_eq_true rfl, rfl⟩ ?_)
        show EvP X 147 0 [some (.ref 0), some (.int (nI 3))] [] (47, g_rho true, σ) _
        refine ep_iln t147_0 rfl ?_
        refine ep_sw (t := 69) t147_1 (by decide +kernel) ?_
        refine ep_aln t147_69 rfl ?_
        refine ep_get t147_70 rfl (Nat.le_of_ble_eq_true rfl) rfl ?_
        refine ep_val (b := nI n2) (hs1) ?_
        refine ep_ri t147_73 (fun h => absurd h (by decide)) ?_
        refine ⟨_, true, _, rfl, rfl, ClP.of ⟨Nat.le_of_ble_eq_true rfl, rfl⟩ ?_⟩
        show EvP X 148 0 [some (.ref 31), some (.int (nI 3))] [] (47, g_rho true, σ) _
        refine ep_aln t148_0 rfl ?_
        refine ep_k1 (w := nI 0) t148_1 rfl ?_
        refine ep_put t148_2 rfl (Nat.le_of_ble_eq_true rfl) rfl ?_
        refine ep_iln t148_5 rfl ?_
        refine ep_k1 (w := nI 0) t148_6 rfl ?_
        refine ep_k2 (w := nI 7) t148_7 rfl ?_
        refine ep_cs t148_9 (Nat.ne_of_beq_eq_false rfl) rfl (Nat.le_of_ble_eq_true rfl) (cl_M_inB _ (by decide) (by decide)) ?_
        refine ep_bT t148_12 (fun (c12 : (inB (nI 3) 0 7) = true) => ?_) (fun (c12 : (inB (nI 3) 0 7) = false) => ?_)
        · refine ep_iln t148_17 rfl ?_
          refine ep_k1 (w := nI 4) t148_18 rfl ?_
          refine ep_ifP t148_19 (ic_ge (by omega) (by omega)) (fun (c19 : 4 ≤ 3) => ?_) (fun (c19 : ¬ (4 ≤ 3)) => ?_)
          · exact absurd c19 (by omega)
          · refine ep_iln t148_22 rfl ?_
            refine ep_if0P t148_23 (ic0_ne (by omega)) (fun (c23 : ¬ 3 = 0) => ?_) (fun (c23 : ¬ (¬ 3 = 0)) => ?_)
            · refine ep_iln t148_35 rfl ?_
              refine ep_k1 (w := nI 1) t148_36 rfl ?_
              refine ep_ifP t148_37 (ic_ne (by omega) (by omega)) (fun (c37 : ¬ 3 = 1) => ?_) (fun (c37 : ¬ (¬ 3 = 1)) => ?_)
              · refine ep_iln t148_49 rfl ?_
                refine ep_k1 (w := nI 2) t148_50 rfl ?_
                refine ep_ifP t148_51 (ic_ne (by omega) (by omega)) (fun (c51 : ¬ 3 = 2) => ?_) (fun (c51 : ¬ (¬ 3 = 2)) => ?_)
                · refine ep_aln t148_61 rfl ?_
                  refine ep_get t148_62 rfl (Nat.le_of_ble_eq_true rfl) rfl ?_
                  refine ep_val (b := nI n2) (hs2) ?_
                  refine ep_ri t148_65 (fun h => absurd h (by decide)) ?_
                  exact ⟨_, rfl, rfl, hR0.thrown _⟩
                · exact absurd (by omega) c51
              · exact absurd (by omega) c37
            · exact absurd (by omega) c23
        · exact absurd c12 (by decide)
    · cases q
      · refine Pair.of (ClP.of ⟨Nat.le_of_ble_eq_true rfl, rfl⟩ ?_)
        show EvP X 147 0 [some (.ref 0), some (.int (nI 4))] [] (47, g_rho false, σ) _
        refine ep_iln t147_0 rfl ?_
        refine ep_sw (t := 74) t147_1 (by decide +kernel) ?_
        refine ep_aln t147_74 rfl ?_
        refine ep_getr (q := 1) t147_75 rfl (Nat.le_of_ble_eq_true rfl) rfl (rfl) ?_
        refine ep_get t147_78 rfl (Nat.le_of_ble_eq_true rfl) rfl ?_
        refine ep_val (b := nI n3) (ht1) ?_
        refine ep_ri t147_81 (fun h => absurd h (by decide)) ?_
        refine ⟨_, false, _, rfl, rfl, ClP.of ⟨Nat.le_of_ble_eq_true rfl, rfl⟩ ?_⟩
        show EvP X 148 0 [some (.ref 31), some (.int (nI 4))] [] (47, g_rho false, σ) _
        refine ep_aln t148_0 rfl ?_
        refine ep_k1 (w := nI 0) t148_1 rfl ?_
        refine ep_put t148_2 rfl (Nat.le_of_ble_eq_true rfl) rfl ?_
        refine ep_iln t148_5 rfl ?_
        refine ep_k1 (w := nI 0) t148_6 rfl ?_
        refine ep_k2 (w := nI 7) t148_7 rfl ?_
        refine ep_cs t148_9 (Nat.ne_of_beq_eq_false rfl) rfl (Nat.le_of_ble_eq_true rfl) (cl_M_inB _ (by decide) (by decide)) ?_
        refine ep_bT t148_12 (fun (c12 : (inB (nI 4) 0 7) = true) => ?_) (fun (c12 : (inB (nI 4) 0 7) = false) => ?_)
        · refine ep_iln t148_17 rfl ?_
          refine ep_k1 (w := nI 4) t148_18 rfl ?_
          refine ep_ifP t148_19 (ic_ge (by omega) (by omega)) (fun (c19 : 4 ≤ 4) => ?_) (fun (c19 : ¬ (4 ≤ 4)) => ?_)
          · refine ep_iln t148_66 rfl ?_
            refine ep_k1 (w := nI 4) t148_67 rfl ?_
            refine ep_ifP t148_68 (ic_ne (by omega) (by omega)) (fun (c68 : ¬ 4 = 4) => ?_) (fun (c68 : ¬ (¬ 4 = 4)) => ?_)
            · exact absurd c68 (by omega)
            · refine ep_aln t148_71 rfl ?_
              refine ep_get t148_72 rfl (Nat.le_of_ble_eq_true rfl) rfl ?_
              refine ep_val (b := nI n3) (ht2) ?_
              refine ep_gt t148_75 ?_
              refine ep_ri t148_88 (fun h => absurd h (by decide)) ?_
              exact ⟨_, rfl, rfl, hR0.thrown _⟩
          · exact absurd (by omega) c19
        · exact absurd c12 (by decide)
      · refine Pair.of (ClP.of ⟨Nat.le_of_ble_eq_true rfl, rfl⟩ ?_)
        show EvP X 147 0 [some (.ref 0), some (.int (nI 4))] [] (47, g_rho true, σ) _
        refine ep_iln t147_0 rfl ?_
        refine ep_sw (t := 74) t147_1 (by decide +kernel) ?_
        refine ep_aln t147_74 rfl ?_
        refine ep_getr (q := 1) t147_75 rfl (Nat.le_of_ble_eq_true rfl) rfl (rfl) ?_
        refine ep_get t147_78 rfl (Nat.le_of_ble_eq_true rfl) rfl ?_
        refine ep_val (b := nI n3) (ht1) ?_
        refine ep_ri t147_81 (fun h => absurd h (by decide)) ?_
        refine ⟨_, true, _, rfl, rfl, ClP.of ⟨Nat.le_of_ble_eq_true rfl, rfl⟩ ?_⟩
        show EvP X 148 0 [some (.ref 31), some (.int (nI 4))] [] (47, g_rho true, σ) _
        refine ep_aln t148_0 rfl ?_
        refine ep_k1 (w := nI 0) t148_1 rfl ?_
        refine ep_put t148_2 rfl (Nat.le_of_ble_eq_true rfl) rfl ?_
        refine ep_iln t148_5 rfl ?_
        refine ep_k1 (w := nI 0) t148_6 rfl ?_
        refine ep_k2 (w := nI 7) t148_7 rfl ?_
        refine ep_cs t148_9 (Nat.ne_of_beq_eq_false rfl) rfl (Nat.le_of_ble_eq_true rfl) (cl_M_inB _ (by decide) (by decide)) ?_
        refine ep_bT t148_12 (fun (c12 : (inB (nI 4) 0 7) = true) => ?_) (fun (c12 : (inB (nI 4) 0 7) = false) => ?_)
        · refine ep_iln t148_17 rfl ?_
          refine ep_k1 (w := nI 4) t148_18 rfl ?_
          refine ep_ifP t148_19 (ic_ge (by omega) (by omega)) (fun (c19 : 4 ≤ 4) => ?_) (fun (c19 : ¬ (4 ≤ 4)) => ?_)
          · refine ep_iln t148_66 rfl ?_
            refine ep_k1 (w := nI 4) t148_67 rfl ?_
            refine ep_ifP t148_68 (ic_ne (by omega) (by omega)) (fun (c68 : ¬ 4 = 4) => ?_) (fun (c68 : ¬ (¬ 4 = 4)) => ?_)
            · exact absurd c68 (by omega)
            · refine ep_aln t148_71 rfl ?_
              refine ep_get t148_72 rfl (Nat.le_of_ble_eq_true rfl) rfl ?_
              refine ep_val (b := nI n3) (ht2) ?_
              refine ep_gt t148_75 ?_
              refine ep_ri t148_88 (fun h => absurd h (by decide)) ?_
              exact ⟨_, rfl, rfl, hR0.thrown _⟩
          · exact absurd (by omega) c19
        · exact absurd c12 (by decide)
    · cases q
      · refine Pair.of (ClP.of ⟨Nat.le_of_ble_eq_true rfl, rfl⟩ ?_)
        show EvP X 147 0 [some (.ref 0), some (.int (nI 5))] [] (47, g_rho false, σ) _
        refine ep_iln t147_0 rfl ?_
        refine ep_sw (t := 82) t147_1 (by decide +kernel) ?_
        refine ep_aln t147_82 rfl ?_
        refine ep_getr (q := 25) t147_83 rfl (Nat.le_of_ble_eq_true rfl) rfl (rfl) ?_
        refine ep_k1 (w := nI 0) t147_86 rfl ?_
        refine ep_aldN t147_87 rfl (Nat.le_of_ble_eq_true rfl) (Nat.ne_of_beq_eq_false rfl) (Nat.le_of_ble_eq_true rfl) (by omega) ?_
        refine ep_val (b := nI (pr 0)) (hW.2.2.2.1 0 (by decide)) ?_
        refine ep_ri t147_88 (fun h => absurd h (by decide)) ?_
        refine ⟨_, false, _, rfl, rfl, ClP.of ⟨Nat.le_of_ble_eq_true rfl, rfl⟩ ?_⟩
        show EvP X 148 0 [some (.ref 31), some (.int (nI 5))] [] (47, g_rho false, σ) _
        refine ep_aln t148_0 rfl ?_
        refine ep_k1 (w := nI 0) t148_1 rfl ?_
        refine ep_put t148_2 rfl (Nat.le_of_ble_eq_true rfl) rfl ?_
        refine ep_iln t148_5 rfl ?_
        refine ep_k1 (w := nI 0) t148_6 rfl ?_
        refine ep_k2 (w := nI 7) t148_7 rfl ?_
        refine ep_cs t148_9 (Nat.ne_of_beq_eq_false rfl) rfl (Nat.le_of_ble_eq_true rfl) (cl_M_inB _ (by decide) (by decide)) ?_
        refine ep_bT t148_12 (fun (c12 : (inB (nI 5) 0 7) = true) => ?_) (fun (c12 : (inB (nI 5) 0 7) = false) => ?_)
        · refine ep_iln t148_17 rfl ?_
          refine ep_k1 (w := nI 4) t148_18 rfl ?_
          refine ep_ifP t148_19 (ic_ge (by omega) (by omega)) (fun (c19 : 4 ≤ 5) => ?_) (fun (c19 : ¬ (4 ≤ 5)) => ?_)
          · refine ep_iln t148_66 rfl ?_
            refine ep_k1 (w := nI 4) t148_67 rfl ?_
            refine ep_ifP t148_68 (ic_ne (by omega) (by omega)) (fun (c68 : ¬ 5 = 4) => ?_) (fun (c68 : ¬ (¬ 5 = 4)) => ?_)
            · refine ep_aln t148_78 rfl ?_
              refine ep_getr (q := 36) t148_79 rfl (Nat.le_of_ble_eq_true rfl) rfl (rfl) ?_
              refine ep_k1 (w := nI 2) t148_82 rfl ?_
              refine ep_iln t148_83 rfl ?_
              refine ep_addN (a := 2) (b := 5) t148_84 ?_
              refine ep_k1 (w := nI 5) t148_85 rfl ?_
              refine ep_subN (a := 2 + 5) (b := 5) t148_86 (by decide) ?_
              refine ep_aldN t148_87 rfl (Nat.le_of_ble_eq_true rfl) (Nat.ne_of_beq_eq_false rfl) (Nat.le_of_ble_eq_true rfl) (by decide) ?_
              refine ep_val (b := nI (pr 0)) (hW.2.2.2.2 2 (by decide)) ?_
              refine ep_ri t148_88 (fun h => absurd h (by decide)) ?_
              exact ⟨_, rfl, rfl, hR0.thrown _⟩
            · exact absurd (by omega) c68
          · exact absurd (by omega) c19
        · exact absurd c12 (by decide)
      · refine Pair.of (ClP.of ⟨Nat.le_of_ble_eq_true rfl, rfl⟩ ?_)
        show EvP X 147 0 [some (.ref 0), some (.int (nI 5))] [] (47, g_rho true, σ) _
        refine ep_iln t147_0 rfl ?_
        refine ep_sw (t := 82) t147_1 (by decide +kernel) ?_
        refine ep_aln t147_82 rfl ?_
        refine ep_getr (q := 25) t147_83 rfl (Nat.le_of_ble_eq_true rfl) rfl (rfl) ?_
        refine ep_k1 (w := nI 0) t147_86 rfl ?_
        refine ep_aldN t147_87 rfl (Nat.le_of_ble_eq_true rfl) (Nat.ne_of_beq_eq_false rfl) (Nat.le_of_ble_eq_true rfl) (by omega) ?_
        refine ep_val (b := nI (pr 0)) (hW.2.2.2.1 0 (by decide)) ?_
        refine ep_ri t147_88 (fun h => absurd h (by decide)) ?_
        refine ⟨_, true, _, rfl, rfl, ClP.of ⟨Nat.le_of_ble_eq_true rfl, rfl⟩ ?_⟩
        show EvP X 148 0 [some (.ref 31), some (.int (nI 5))] [] (47, g_rho true, σ) _
        refine ep_aln t148_0 rfl ?_
        refine ep_k1 (w := nI 0) t148_1 rfl ?_
        refine ep_put t148_2 rfl (Nat.le_of_ble_eq_true rfl) rfl ?_
        refine ep_iln t148_5 rfl ?_
        refine ep_k1 (w := nI 0) t148_6 rfl ?_
        refine ep_k2 (w := nI 7) t148_7 rfl ?_
        refine ep_cs t148_9 (Nat.ne_of_beq_eq_false rfl) rfl (Nat.le_of_ble_eq_true rfl) (cl_M_inB _ (by decide) (by decide)) ?_
        refine ep_bT t148_12 (fun (c12 : (inB (nI 5) 0 7) = true) => ?_) (fun (c12 : (inB (nI 5) 0 7) = false) => ?_)
        · refine ep_iln t148_17 rfl ?_
          refine ep_k1 (w := nI 4) t148_18 rfl ?_
          refine ep_ifP t148_19 (ic_ge (by omega) (by omega)) (fun (c19 : 4 ≤ 5) => ?_) (fun (c19 : ¬ (4 ≤ 5)) => ?_)
          · refine ep_iln t148_66 rfl ?_
            refine ep_k1 (w := nI 4) t148_67 rfl ?_
            refine ep_ifP t148_68 (ic_ne (by omega) (by omega)) (fun (c68 : ¬ 5 = 4) => ?_) (fun (c68 : ¬ (¬ 5 = 4)) => ?_)
            · refine ep_aln t148_78 rfl ?_
              refine ep_getr (q := 36) t148_79 rfl (Nat.le_of_ble_eq_true rfl) rfl (rfl) ?_
              refine ep_k1 (w := nI 2) t148_82 rfl ?_
              refine ep_iln t148_83 rfl ?_
              refine ep_addN (a := 2) (b := 5) t148_84 ?_
              refine ep_k1 (w := nI 5) t148_85 rfl ?_
              refine ep_subN (a := 2 + 5) (b := 5) t148_86 (by decide) ?_
              refine ep_aldN t148_87 rfl (Nat.le_of_ble_eq_true rfl) (Nat.ne_of_beq_eq_false rfl) (Nat.le_of_ble_eq_true rfl) (by decide) ?_
              refine ep_val (b := nI (pr 0)) (hW.2.2.2.2 2 (by decide)) ?_
              refine ep_ri t148_88 (fun h => absurd h (by decide)) ?_
              exact ⟨_, rfl, rfl, hR0.thrown _⟩
            · exact absurd (by omega) c68
          · exact absurd (by omega) c19
        · exact absurd c12 (by decide)
    · cases q
      · refine Pair.of (ClP.of ⟨Nat.le_of_ble_eq_true rfl, rfl⟩ ?_)
        show EvP X 147 0 [some (.ref 0), some (.int (nI 6))] [] (47, g_rho false, σ) _
        refine ep_iln t147_0 rfl ?_
        refine ep_sw (t := 89) t147_1 (by decide +kernel) ?_
        refine ep_aln t147_89 rfl ?_
        refine ep_getr (q := 25) t147_90 rfl (Nat.le_of_ble_eq_true rfl) rfl (rfl) ?_
        refine ep_k1 (w := nI 1) t147_93 rfl ?_
        refine ep_aldN t147_94 rfl (Nat.le_of_ble_eq_true rfl) (Nat.ne_of_beq_eq_false rfl) (Nat.le_of_ble_eq_true rfl) (by omega) ?_
        refine ep_val (b := nI (pr 1)) (hW.2.2.2.1 1 (by decide)) ?_
        refine ep_ri t147_95 (fun h => absurd h (by decide)) ?_
        refine ⟨_, false, _, rfl, rfl, ClP.of ⟨Nat.le_of_ble_eq_true rfl, rfl⟩ ?_⟩
        show EvP X 148 0 [some (.ref 31), some (.int (nI 6))] [] (47, g_rho false, σ) _
        refine ep_aln t148_0 rfl ?_
        refine ep_k1 (w := nI 0) t148_1 rfl ?_
        refine ep_put t148_2 rfl (Nat.le_of_ble_eq_true rfl) rfl ?_
        refine ep_iln t148_5 rfl ?_
        refine ep_k1 (w := nI 0) t148_6 rfl ?_
        refine ep_k2 (w := nI 7) t148_7 rfl ?_
        refine ep_cs t148_9 (Nat.ne_of_beq_eq_false rfl) rfl (Nat.le_of_ble_eq_true rfl) (cl_M_inB _ (by decide) (by decide)) ?_
        refine ep_bT t148_12 (fun (c12 : (inB (nI 6) 0 7) = true) => ?_) (fun (c12 : (inB (nI 6) 0 7) = false) => ?_)
        · refine ep_iln t148_17 rfl ?_
          refine ep_k1 (w := nI 4) t148_18 rfl ?_
          refine ep_ifP t148_19 (ic_ge (by omega) (by omega)) (fun (c19 : 4 ≤ 6) => ?_) (fun (c19 : ¬ (4 ≤ 6)) => ?_)
          · refine ep_iln t148_66 rfl ?_
            refine ep_k1 (w := nI 4) t148_67 rfl ?_
            refine ep_ifP t148_68 (ic_ne (by omega) (by omega)) (fun (c68 : ¬ 6 = 4) => ?_) (fun (c68 : ¬ (¬ 6 = 4)) => ?_)
            · refine ep_aln t148_78 rfl ?_
              refine ep_getr (q := 36) t148_79 rfl (Nat.le_of_ble_eq_true rfl) rfl (rfl) ?_
              refine ep_k1 (w := nI 2) t148_82 rfl ?_
              refine ep_iln t148_83 rfl ?_
              refine ep_addN (a := 2) (b := 6) t148_84 ?_
              refine ep_k1 (w := nI 5) t148_85 rfl ?_
              refine ep_subN (a := 2 + 6) (b := 5) t148_86 (by decide) ?_
              refine ep_aldN t148_87 rfl (Nat.le_of_ble_eq_true rfl) (Nat.ne_of_beq_eq_false rfl) (Nat.le_of_ble_eq_true rfl) (by decide) ?_
              refine ep_val (b := nI (pr 1)) (hW.2.2.2.2 3 (by decide)) ?_
              refine ep_ri t148_88 (fun h => absurd h (by decide)) ?_
              exact ⟨_, rfl, rfl, hR0.thrown _⟩
            · exact absurd (by omega) c68
          · exact absurd (by omega) c19
        · exact absurd c12 (by decide)
      · refine Pair.of (ClP.of ⟨Nat.le_of_ble_eq_true rfl, rfl⟩ ?_)
        show EvP X 147 0 [some (.ref 0), some (.int (nI 6))] [] (47, g_rho true, σ) _
        refine ep_iln t147_0 rfl ?_
        refine ep_sw (t := 89) t147_1 (by decide +kernel) ?_
        refine ep_aln t147_89 rfl ?_
        refine ep_getr (q := 25) t147_90 rfl (Nat.le_of_ble_eq_true rfl) rfl (rfl) ?_
        refine ep_k1 (w := nI 1) t147_93 rfl ?_
        refine ep_aldN t147_94 rfl (Nat.le_of_ble_eq_true rfl) (Nat.ne_of_beq_eq_false rfl) (Nat.le_of_ble_eq_true rfl) (by omega) ?_
        refine ep_val (b := nI (pr 1)) (hW.2.2.2.1 1 (by decide)) ?_
        refine ep_ri t147_95 (fun h => absurd h (by decide)) ?_
        refine ⟨_, true, _, rfl, rfl, ClP.of ⟨Nat.le_of_ble_eq_true rfl, rfl⟩ ?_⟩
        show EvP X 148 0 [some (.ref 31), some (.int (nI 6))] [] (47, g_rho true, σ) _
        refine ep_aln t148_0 rfl ?_
        refine ep_k1 (w := nI 0) t148_1 rfl ?_
        refine ep_put t148_2 rfl (Nat.le_of_ble_eq_true rfl) rfl ?_
        refine ep_iln t148_5 rfl ?_
        refine ep_k1 (w := nI 0) t148_6 rfl ?_
        refine ep_k2 (w := nI 7) t148_7 rfl ?_
        refine ep_cs t148_9 (Nat.ne_of_beq_eq_false rfl) rfl (Nat.le_of_ble_eq_true rfl) (cl_M_inB _ (by decide) (by decide)) ?_
        refine ep_bT t148_12 (fun (c12 : (inB (nI 6) 0 7) = true) => ?_) (fun (c12 : (inB (nI 6) 0 7) = false) => ?_)
        · refine ep_iln t148_17 rfl ?_
          refine ep_k1 (w := nI 4) t148_18 rfl ?_
          refine ep_ifP t148_19 (ic_ge (by omega) (by omega)) (fun (c19 : 4 ≤ 6) => ?_) (fun (c19 : ¬ (4 ≤ 6)) => ?_)
          · refine ep_iln t148_66 rfl ?_
            refine ep_k1 (w := nI 4) t148_67 rfl ?_
            refine ep_ifP t148_68 (ic_ne (by omega) (by omega)) (fun (c68 : ¬ 6 = 4) => ?_) (fun (c68 : ¬ (¬ 6 = 4)) => ?_)
            · refine ep_aln t148_78 rfl ?_
              refine ep_getr (q := 36) t148_79 rfl (Nat.le_of_ble_eq_true rfl) rfl (rfl) ?_
              refine ep_k1 (w := nI 2) t148_82 rfl ?_
              refine ep_iln t148_83 rfl ?_
              refine ep_addN (a := 2) (b := 6) t148_84 ?_
              refine ep_k1 (w := nI 5) t148_85 rfl ?_
              refine ep_subN (a := 2 + 6) (b := 5) t148_86 (by decide) ?_
              refine ep_aldN t148_87 rfl (Nat.le_of_ble_eq_true rfl) (Nat.ne_of_beq_eq_false rfl) (Nat.le_of_ble_eq_true rfl) (by decide) ?_
              refine ep_val (b := nI (pr 1)) (hW.2.2.2.2 3 (by decide)) ?_
              refine ep_ri t148_88 (fun h => absurd h (by decide)) ?_
              exact ⟨_, rfl, rfl, hR0.thrown _⟩
            · exact absurd (by omega) c68
          · exact absurd (by omega) c19
        · exact absurd c12 (by decide)
    · cases q
      · refine Pair.of (ClP.of ⟨Nat.le_of_ble_eq_true rfl, rfl⟩ ?_)
        show EvP X 147 0 [some (.ref 0), some (.int (nI 7))] [] (47, g_rho false, σ) _
        refine ep_iln t147_0 rfl ?_
        refine ep_sw (t := 96) t147_1 (by decide +kernel) ?_
        refine ep_aln t147_96 rfl ?_
        refine ep_getr (q := 25) t147_97 rfl (Nat.le_of_ble_eq_true rfl) rfl (rfl) ?_
        refine ep_k1 (w := nI 2) t147_100 rfl ?_
        refine ep_aldN t147_101 rfl (Nat.le_of_ble_eq_true rfl) (Nat.ne_of_beq_eq_false rfl) (Nat.le_of_ble_eq_true rfl) (by omega) ?_
        refine ep_val (b := nI (pr 2)) (hW.2.2.2.1 2 (by decide)) ?_
        refine ep_ri t147_102 (fun h => absurd h (by decide)) ?_
        refine ⟨_, false, _, rfl, rfl, ClP.of ⟨Nat.le_of_ble_eq_true rfl, rfl⟩ ?_⟩
        show EvP X 148 0 [some (.ref 31), some (.int (nI 7))] [] (47, g_rho false, σ) _
        refine ep_aln t148_0 rfl ?_
        refine ep_k1 (w := nI 0) t148_1 rfl ?_
        refine ep_put t148_2 rfl (Nat.le_of_ble_eq_true rfl) rfl ?_
        refine ep_iln t148_5 rfl ?_
        refine ep_k1 (w := nI 0) t148_6 rfl ?_
        refine ep_k2 (w := nI 7) t148_7 rfl ?_
        refine ep_cs t148_9 (Nat.ne_of_beq_eq_false rfl) rfl (Nat.le_of_ble_eq_true rfl) (cl_M_inB _ (by decide) (by decide)) ?_
        refine ep_bT t148_12 (fun (c12 : (inB (nI 7) 0 7) = true) => ?_) (fun (c12 : (inB (nI 7) 0 7) = false) => ?_)
        · refine ep_iln t148_17 rfl ?_
          refine ep_k1 (w := nI 4) t148_18 rfl ?_
          refine ep_ifP t148_19 (ic_ge (by omega) (by omega)) (fun (c19 : 4 ≤ 7) => ?_) (fun (c19 : ¬ (4 ≤ 7)) => ?_)
          · refine ep_iln t148_66 rfl ?_
            refine ep_k1 (w := nI 4) t148_67 rfl ?_
            refine ep_ifP t148_68 (ic_ne (by omega) (by omega)) (fun (c68 : ¬ 7 = 4) => ?_) (fun (c68 : ¬ (¬ 7 = 4)) => ?_)
            · refine ep_aln t148_78 rfl ?_
              refine ep_getr (q := 36) t148_79 rfl (Nat.le_of_ble_eq_true rfl) rfl (rfl) ?_
              refine ep_k1 (w := nI 2) t148_82 rfl ?_
              refine ep_iln t148_83 rfl ?_
              refine ep_addN (a := 2) (b := 7) t148_84 ?_
              refine ep_k1 (w := nI 5) t148_85 rfl ?_
              refine ep_subN (a := 2 + 7) (b := 5) t148_86 (by decide) ?_
              refine ep_aldN t148_87 rfl (Nat.le_of_ble_eq_true rfl) (Nat.ne_of_beq_eq_false rfl) (Nat.le_of_ble_eq_true rfl) (by decide) ?_
              refine ep_val (b := nI (pr 2)) (hW.2.2.2.2 4 (by decide)) ?_
              refine ep_ri t148_88 (fun h => absurd h (by decide)) ?_
              exact ⟨_, rfl, rfl, hR0.thrown _⟩
            · exact absurd (by omega) c68
          · exact absurd (by omega) c19
        · exact absurd c12 (by decide)
      · refine Pair.of (ClP.of ⟨Nat.le_of_ble_eq_true rfl, rfl⟩ ?_)
        show EvP X 147 0 [some (.ref 0), some (.int (nI 7))] [] (47, g_rho true, σ) _
        refine ep_iln t147_0 rfl ?_
        refine ep_sw (t := 96) t147_1 (by decide +kernel) ?_
        refine ep_aln t147_96 rfl ?_
        refine ep_getr (q := 25) t147_97 rfl (Nat.le_of_ble_eq_true rfl) rfl (rfl) ?_
        refine ep_k1 (w := nI 2) t147_100 rfl ?_
        refine ep_aldN t147_101 rfl (Nat.le_of_ble_eq_true rfl) (Nat.ne_of_beq_eq_false rfl) (Nat.le_of_ble_eq_true rfl) (by omega) ?_
        refine ep_val (b := nI (pr 2)) (hW.2.2.2.1 2 (by decide)) ?_
        refine ep_ri t147_102 (fun h => absurd h (by decide)) ?_
        refine ⟨_, true, _, rfl, rfl, ClP.of ⟨Nat.le_of_ble_eq_true rfl, rfl⟩ ?_⟩
        show EvP X 148 0 [some (.ref 31), some (.int (nI 7))] [] (47, g_rho true, σ) _
        refine ep_aln t148_0 rfl ?_
        refine ep_k1 (w := nI 0) t148_1 rfl ?_
        refine ep_put t148_2 rfl (Nat.le_of_ble_eq_true rfl) rfl ?_
        refine ep_iln t148_5 rfl ?_
        refine ep_k1 (w := nI 0) t148_6 rfl ?_
        refine ep_k2 (w := nI 7) t148_7 rfl ?_
        refine ep_cs t148_9 (Nat.ne_of_beq_eq_false rfl) rfl (Nat.le_of_ble_eq_true rfl) (cl_M_inB _ (by decide) (by decide)) ?_
        refine ep_bT t148_12 (fun (c12 : (inB (nI 7) 0 7) = true) => ?_) (fun (c12 : (inB (nI 7) 0 7) = false) => ?_)
        · refine ep_iln t148_17 rfl ?_
          refine ep_k1 (w := nI 4) t148_18 rfl ?_
          refine ep_ifP t148_19 (ic_ge (by omega) (by omega)) (fun (c19 : 4 ≤ 7) => ?_) (fun (c19 : ¬ (4 ≤ 7)) => ?_)
          · refine ep_iln t148_66 rfl ?_
            refine ep_k1 (w := nI 4) t148_67 rfl ?_
            refine ep_ifP t148_68 (ic_ne (by omega) (by omega)) (fun (c68 : ¬ 7 = 4) => ?_) (fun (c68 : ¬ (¬ 7 = 4)) => ?_)
            · refine ep_aln t148_78 rfl ?_
              refine ep_getr (q := 36) t148_79 rfl (Nat.le_of_ble_eq_true rfl) rfl (rfl) ?_
              refine ep_k1 (w := nI 2) t148_82 rfl ?_
              refine ep_iln t148_83 rfl ?_
              refine ep_addN (a := 2) (b := 7) t148_84 ?_
              refine ep_k1 (w := nI 5) t148_85 rfl ?_
              refine ep_subN (a := 2 + 7) (b := 5) t148_86 (by decide) ?_
              refine ep_aldN t148_87 rfl (Nat.le_of_ble_eq_true rfl) (Nat.ne_of_beq_eq_false rfl) (Nat.le_of_ble_eq_true rfl) (by decide) ?_
              refine ep_val (b := nI (pr 2)) (hW.2.2.2.2 4 (by decide)) ?_
              refine ep_ri t148_88 (fun h => absurd h (by decide)) ?_
              exact ⟨_, rfl, rfl, hR0.thrown _⟩
            · exact absurd (by omega) c68
          · exact absurd (by omega) c19
        · exact absurd c12 (by decide)
