/-! Pairs: locks, prices, named. -/
theorem pr_locks {X : gX} {q : Bool} {σ : gT1} (hR : Rel q σ) (a : Int32) : Pair X 99 100 [.int a] q σ := by
  have hR0 := hR
  obtain ⟨T, c, l, pr, hN, hW, hT, hO, hU, hI, hS⟩ := hR
  obtain ⟨⟨hwf0, hwf1⟩, ⟨hwf2, hwf3⟩, hwf4, hwf5, hwf6⟩ := hN.1
  have hB3 : σ (np q) 3 = nI (T 3) := hN.2.1.1 3 (by decide)
  have hB0 : σ (np q) 0 = nI (T 0) := hN.2.1.1 0 (by decide)
  have hM3 : σ 33 3 = nI (T 3) := hN.2.2.1 3 (by decide)
  have hM0 : σ 33 0 = nI (T 0) := hN.2.2.1 0 (by decide)
  obtain ⟨hsn, e4, e5, e25, e36⟩ := id hW
  obtain ⟨hc, hl, hp0, hp1, hp2⟩ := hsn.lt hwf4
  obtain ⟨n, hn, hu1, hu2, hu3⟩ := id hU
  cases hin : inR a (T 3) with
  | false =>
    refine Pair.of (ClP.of ⟨Nat.le_of_ble_eq_true rfl, rfl⟩ ?_)
    show EvP X 99 0 [some (.ref 0), some (.int a)] [] (47, g_rho q, σ) _
    refine ep_aln t99_0 rfl ?_
    refine ep_iln t99_1 rfl ?_
    refine ep_cv t99_2 rfl rfl (Nat.le_of_ble_eq_true rfl) (Nat.le_of_ble_eq_true rfl) (cl_B_isSwitch _ (by omega) hB3) ?_
    refine ep_bT t99_5 (fun (c5 : (inR a (T 3)) = true) => (by exact absurd c5 (by rw [hin]; decide))) (fun (c5 : (inR a (T 3)) = false) => ?_)
    refine ep_k1 (w := (-1)) t99_8 rfl ?_
    refine ep_ri t99_9 (fun h => absurd h (by decide)) ?_
    refine ⟨_, q, _, rfl, rfl, ClP.of ⟨Nat.le_of_ble_eq_true rfl, rfl⟩ ?_⟩
    show EvP X 100 0 [some (.ref 31), some (.int a)] [] (47, g_rho q, σ) _
    refine ep_aln t100_0 rfl ?_
    refine ep_k1 (w := nI 0) t100_1 rfl ?_
    refine ep_put t100_2 rfl (Nat.le_of_ble_eq_true rfl) rfl ?_
    refine ep_aln t100_5 rfl ?_
    refine ep_iln t100_6 rfl ?_
    refine ep_cv t100_7 rfl rfl (Nat.le_of_ble_eq_true rfl) (Nat.le_of_ble_eq_true rfl) (cl_M_isSwitch _ (by omega) hM3) ?_
    refine ep_bT t100_10 (fun (c10 : (inR a (T 3)) = true) => (by exact absurd c10 (by rw [c5]; decide))) (fun (c10 : (inR a (T 3)) = false) => ?_)
    refine ep_k1 (w := (-1)) t100_13 rfl ?_
    refine ep_ri t100_14 (fun h => absurd h (by decide)) ?_
    exact ⟨_, rfl, rfl, hR0.thrown _⟩
  | true =>
    obtain ⟨k, hk, rfl⟩ := inR_of (by omega) hin
    refine Pair.of (ClP.of ⟨Nat.le_of_ble_eq_true rfl, rfl⟩ ?_)
    show EvP X 99 0 [some (.ref 0), some (.int (nI k))] [] (47, g_rho q, σ) _
    refine ep_aln t99_0 rfl ?_
    refine ep_iln t99_1 rfl ?_
    refine ep_cv t99_2 rfl rfl (Nat.le_of_ble_eq_true rfl) (Nat.le_of_ble_eq_true rfl) (cl_B_isSwitch _ (by omega) hB3) ?_
    refine ep_bT t99_5 (fun (c5 : (inR (nI k) (T 3)) = true) => ?_) (fun (c5 : (inR (nI k) (T 3)) = false) => (by exact absurd c5 (by rw [hin]; decide)))
    refine ep_aln t99_10 rfl ?_
    obtain ⟨v1, g1, hb, rfl, σ1, rfl, f1, f2, f3, f4, f5⟩ := cl_B_remember (X := X) (q := q) (σ := σ) (n := n) (c := c) (l := l) (pr := pr) hn hu1 e4 e5 e25 hc hl hp0 hp1 hp2
    refine ep_cv t99_11 rfl rfl (Nat.le_of_ble_eq_true rfl) (Nat.le_of_ble_eq_true rfl) (hb) ?_
    refine ep_aln t99_14 rfl ?_
    refine ep_dup t99_15 rfl ?_
    refine ep_get t99_16 rfl (Nat.le_of_ble_eq_true rfl) rfl ?_
    refine ep_val (b := nI l) ((f2 5 (by decide)).trans e5) ?_
    refine ep_k1 (w := nI 1) t99_19 rfl ?_
    refine ep_iln t99_20 rfl ?_
    refine ep_oneN (b := k) t99_21 (by omega) ?_
    refine ep_xorN (a := l) (b := 2 ^ k) t99_22 ?_
    refine ep_put t99_23 rfl (Nat.le_of_ble_eq_true rfl) rfl ?_
    refine ep_aln t99_26 rfl ?_
    refine ep_get t99_27 rfl (Nat.le_of_ble_eq_true rfl) rfl ?_
    refine ep_val (b := nI (l ^^^ (2 ^ k))) (rfl) ?_
    refine ep_iln t99_30 rfl ?_
    refine ep_cs t99_31 (Nat.ne_of_beq_eq_false rfl) rfl (Nat.le_of_ble_eq_true rfl) (cl_B_bit (by have := xor_lt (c := l) (k := k) (m := 8) (by omega) (by omega); omega) (by omega)) ?_
    refine ep_ri t99_34 (fun h => absurd h (by decide)) ?_
    refine ⟨_, q, _, rfl, rfl, ClP.of ⟨Nat.le_of_ble_eq_true rfl, rfl⟩ ?_⟩
    show EvP X 100 0 [some (.ref 31), some (.int (nI k))] [] (47, g_rho q, g_up σ1 0 5 (nI (l ^^^ (2 ^ k)))) _
    refine ep_aln t100_0 rfl ?_
    refine ep_k1 (w := nI 0) t100_1 rfl ?_
    refine ep_put t100_2 rfl (Nat.le_of_ble_eq_true rfl) rfl ?_
    refine ep_aln t100_5 rfl ?_
    refine ep_iln t100_6 rfl ?_
    refine ep_cv t100_7 rfl rfl (Nat.le_of_ble_eq_true rfl) (Nat.le_of_ble_eq_true rfl) (cl_M_isSwitch (n := T 3) _ (by omega) ((congrFun (f1 33 (by decide) (by decide)) 3).trans hM3)) ?_
    refine ep_bT t100_10 (fun (c10 : (inR (nI k) (T 3)) = true) => ?_) (fun (c10 : (inR (nI k) (T 3)) = false) => (by exact absurd c5 (by rw [c10]; decide)))
    refine ep_aln t100_15 rfl ?_
    obtain ⟨v2, g2, hm, rfl, σ3, rfl, k1, k2, k3, k4, k5⟩ := cl_M_notes (X := X) (q := q) (σ := g_up (g_up σ1 0 5 (nI (l ^^^ (2 ^ k)))) 31 0 (nI 0)) (n := n) hn ((congrFun (f1 31 (by decide) (by decide)) 13).trans hu2)
    refine ep_cv t100_16 rfl rfl (Nat.le_of_ble_eq_true rfl) (Nat.le_of_ble_eq_true rfl) (hm) ?_
    refine ep_aln t100_19 rfl ?_
    refine ep_getr (q := 36) t100_20 rfl (Nat.le_of_ble_eq_true rfl) rfl (rfl) ?_
    refine ep_k1 (w := nI 1) t100_23 rfl ?_
    refine ep_dup2 t100_24 rfl rfl ?_
    refine ep_aldN t100_25 rfl (Nat.le_of_ble_eq_true rfl) (Nat.ne_of_beq_eq_false rfl) (Nat.le_of_ble_eq_true rfl) (by omega) ?_
    refine ep_val (b := nI l) ((congrFun ((k1 36 (by decide) (by decide)).trans (f1 36 (by decide) (by decide))) 1).trans (e36 1 (by decide))) ?_
    refine ep_k1 (w := nI 1) t100_26 rfl ?_
    refine ep_iln t100_27 rfl ?_
    refine ep_oneN (b := k) t100_28 (by omega) ?_
    refine ep_xorN (a := l) (b := 2 ^ k) t100_29 ?_
    refine ep_astN t100_30 rfl (Nat.le_of_ble_eq_true rfl) (Nat.le_of_ble_eq_true rfl) (by omega) ?_
    refine ep_aln t100_31 rfl ?_
    refine ep_getr (q := 36) t100_32 rfl (Nat.le_of_ble_eq_true rfl) rfl (rfl) ?_
    refine ep_k1 (w := nI 1) t100_35 rfl ?_
    refine ep_aldN t100_36 rfl (Nat.le_of_ble_eq_true rfl) (Nat.ne_of_beq_eq_false rfl) (Nat.le_of_ble_eq_true rfl) (by omega) ?_
    refine ep_val (b := nI (l ^^^ (2 ^ k))) (rfl) ?_
    refine ep_iln t100_37 rfl ?_
    refine ep_shrN (a := l ^^^ (2 ^ k)) (b := k) t100_38 (by omega) (by have := xor_lt (c := l) (k := k) (m := 8) (by omega) (by omega); omega) ?_
    refine ep_k1 (w := nI 1) t100_39 rfl ?_
    refine ep_andN (a := (l ^^^ (2 ^ k)) / 2 ^ k) (b := 1) t100_40 ?_
    refine ep_val (b := bI ((l ^^^ 2 ^ k).testBit k)) (by rw [Nat.and_one_is_mod, bI_bit]) ?_
    refine ep_ri t100_41 (fun h => absurd h (by decide)) ?_
    exact ⟨_, rfl, rfl, ⟨T, c, (l ^^^ 2 ^ k), pr, hN.fr (fun p h1 h2 => by (repeat rw [g_up_ne (by omega)]); rw [k1 p (by omega) (by omega)]; (repeat rw [g_up_ne (by omega)]); exact f1 p (by omega) (by omega)) ((k1 33 (by decide) (by decide)).trans (f1 33 (by decide) (by decide))), ⟨⟨hsn.1, xor_lt hsn.2.1 hk, hsn.2.2⟩, ((congrFun (k1 0 (by decide) (by decide)) 4).trans (f2 4 (by decide))).trans e4, (congrFun (k1 0 (by decide) (by decide)) 5), fun i hi => (congrFun ((k1 25 (by decide) (by decide)).trans (f1 25 (by decide) (by decide))) i).trans (e25 i hi), fun i hi => by
        by_cases e : i = 1
        · subst e; exact g_up_eq
        · rw [g_up_j e]
          refine (congrFun ((k1 36 (by decide) (by decide)).trans (f1 36 (by decide) (by decide))) i).trans ((e36 i hi).trans ?_)
          match i, e, hi with
          | 0, _, _ => rfl
          | i + 2, _, _ => rfl⟩, hT.fr ((congrFun (k1 1 (by decide) (by decide)) 1).trans (congrFun (f1 1 (by decide) (by decide)) 1)) ((k1 2 (by decide) (by decide)).trans (f1 2 (by decide) (by decide))) ((k2 2 (by decide)).trans (congrFun (f1 31 (by decide) (by decide)) 2)) ((k1 32 (by decide) (by decide)).trans (f1 32 (by decide) (by decide))), hO.fr ((congrFun (k1 0 (by decide) (by decide)) 8).trans (f2 8 (by decide))) ((k1 26 (by decide) (by decide)).trans (f1 26 (by decide) (by decide))) ((k2 17 (by decide)).trans (congrFun (f1 31 (by decide) (by decide)) 17)) ((k1 40 (by decide) (by decide)).trans (f1 40 (by decide) (by decide))), und_push hn hu3 hsn ((congrFun (k1 0 (by decide) (by decide)) 10).trans f3) (fun j hj => (congrFun (k1 27 (by decide) (by decide)) j).trans (f4 j hj)) ((congrFun (k1 27 (by decide) (by decide)) (min n 9)).trans f5) k3 (fun j i hj hi => (k4 j i hj hi).trans (congrFun (f1 37 (by decide) (by decide)) _)) (fun i hi => ((k5 i hi).trans (congrFun (f1 36 (by decide) (by decide)) i)).trans (e36 i hi)), hI.fr ((congrFun (k1 0 (by decide) (by decide)) 12).trans (f2 12 (by decide))) ((k1 28 (by decide) (by decide)).trans (f1 28 (by decide) (by decide))) ((k1 39 (by decide) (by decide)).trans (f1 39 (by decide) (by decide))) ((k1 38 (by decide) (by decide)).trans (f1 38 (by decide) (by decide))), hS.fr ((congrFun (k1 0 (by decide) (by decide)) 14).trans (f2 14 (by decide))) ((k1 29 (by decide) (by decide)).trans (f1 29 (by decide) (by decide))) ((k2 20 (by decide)).trans (congrFun (f1 31 (by decide) (by decide)) 20)) ((k1 41 (by decide) (by decide)).trans (f1 41 (by decide) (by decide))) ((k1 42 (by decide) (by decide)).trans (f1 42 (by decide) (by decide)))⟩⟩
def p3 (x y z : Nat) : Nat → Nat := fun i => match i with
  | 0 => x
  | 1 => y
  | _ => z
theorem pr_prices {X : gX} {q : Bool} {σ : gT1} (hR : Rel q σ) (a : Int32) (b : Int32) (d : Int32) : Pair X 102 103 [.int a, .int b, .int d] q σ := by
  have hR0 := hR
  obtain ⟨T, c, l, pr, hN, hW, hT, hO, hU, hI, hS⟩ := hR
  obtain ⟨⟨hwf0, hwf1⟩, ⟨hwf2, hwf3⟩, hwf4, hwf5, hwf6⟩ := hN.1
  have hB3 : σ (np q) 3 = nI (T 3) := hN.2.1.1 3 (by decide)
  have hB0 : σ (np q) 0 = nI (T 0) := hN.2.1.1 0 (by decide)
  have hM3 : σ 33 3 = nI (T 3) := hN.2.2.1 3 (by decide)
  have hM0 : σ 33 0 = nI (T 0) := hN.2.2.1 0 (by decide)
  obtain ⟨hsn, e4, e5, e25, e36⟩ := id hW
  obtain ⟨hc, hl, hp0, hp1, hp2⟩ := hsn.lt hwf4
  obtain ⟨n, hn, hu1, hu2, hu3⟩ := id hU
  have hbad : (inB a 1 9 = false ∨ inB b 1 9 = false ∨ inB d 1 9 = false) ∨ (inB a 1 9 = true ∧ inB b 1 9 = true ∧ inB d 1 9 = true) := by
    cases inB a 1 9 <;> cases inB b 1 9 <;> cases inB d 1 9 <;> simp
  rcases hbad with hbad | ⟨ha, hb', hd⟩
  · refine Pair.of (ClP.of ⟨Nat.le_of_ble_eq_true rfl, rfl⟩ ?_)
    show EvP X 102 0 [some (.ref 0), some (.int a), some (.int b), some (.int d)] [] (47, g_rho q, σ) _
    refine ep_iln t102_0 rfl ?_
    refine ep_cs t102_1 (Nat.ne_of_beq_eq_false rfl) rfl (Nat.le_of_ble_eq_true rfl) (cl_B_isPrice _) ?_
    refine ep_bF t102_4 (fun (c4 : (inB a 1 9) = false) => ?_) (fun (c4 : (inB a 1 9) = true) => ?_)
    · refine ep_k1 (w := (-1)) t102_21 rfl ?_
      refine ep_ri t102_22 (fun h => absurd h (by decide)) ?_
      refine ⟨_, q, _, rfl, rfl, ClP.of ⟨Nat.le_of_ble_eq_true rfl, rfl⟩ ?_⟩
      show EvP X 103 0 [some (.ref 31), some (.int a), some (.int b), some (.int d)] [] (47, g_rho q, σ) _
      refine ep_aln t103_0 rfl ?_
      refine ep_k1 (w := nI 0) t103_1 rfl ?_
      refine ep_put t103_2 rfl (Nat.le_of_ble_eq_true rfl) rfl ?_
      refine ep_iln t103_5 rfl ?_
      refine ep_k1 (w := nI 1) t103_6 rfl ?_
      refine ep_k2 (w := nI 9) t103_7 rfl ?_
      refine ep_cs t103_9 (Nat.ne_of_beq_eq_false rfl) rfl (Nat.le_of_ble_eq_true rfl) (cl_M_inB _ (by decide) (by decide)) ?_
      refine ep_bF t103_12 (fun (c12 : (inB a 1 9) = false) => ?_) (fun (c12 : (inB a 1 9) = true) => ?_)
      · refine ep_k1 (w := (-1)) t103_35 rfl ?_
        refine ep_ri t103_36 (fun h => absurd h (by decide)) ?_
        exact ⟨_, rfl, rfl, hR0.thrown _⟩
      · refine ep_iln t103_15 rfl ?_
        refine ep_k1 (w := nI 1) t103_16 rfl ?_
        refine ep_k2 (w := nI 9) t103_17 rfl ?_
        refine ep_cs t103_19 (Nat.ne_of_beq_eq_false rfl) rfl (Nat.le_of_ble_eq_true rfl) (cl_M_inB _ (by decide) (by decide)) ?_
        refine ep_bF t103_22 (fun (c22 : (inB b 1 9) = false) => ?_) (fun (c22 : (inB b 1 9) = true) => ?_)
        · refine ep_k1 (w := (-1)) t103_35 rfl ?_
          refine ep_ri t103_36 (fun h => absurd h (by decide)) ?_
          exact ⟨_, rfl, rfl, hR0.thrown _⟩
        · refine ep_iln t103_25 rfl ?_
          refine ep_k1 (w := nI 1) t103_26 rfl ?_
          refine ep_k2 (w := nI 9) t103_27 rfl ?_
          refine ep_cs t103_29 (Nat.ne_of_beq_eq_false rfl) rfl (Nat.le_of_ble_eq_true rfl) (cl_M_inB _ (by decide) (by decide)) ?_
          refine ep_bT t103_32 (fun (c32 : (inB d 1 9) = true) => (by rcases hbad with h | h | h <;> simp_all)) (fun (c32 : (inB d 1 9) = false) => ?_)
          refine ep_k1 (w := (-1)) t103_35 rfl ?_
          refine ep_ri t103_36 (fun h => absurd h (by decide)) ?_
          exact ⟨_, rfl, rfl, hR0.thrown _⟩
    · refine ep_iln t102_7 rfl ?_
      refine ep_cs t102_8 (Nat.ne_of_beq_eq_false rfl) rfl (Nat.le_of_ble_eq_true rfl) (cl_B_isPrice _) ?_
      refine ep_bF t102_11 (fun (c11 : (inB b 1 9) = false) => ?_) (fun (c11 : (inB b 1 9) = true) => ?_)
      · refine ep_k1 (w := (-1)) t102_21 rfl ?_
        refine ep_ri t102_22 (fun h => absurd h (by decide)) ?_
        refine ⟨_, q, _, rfl, rfl, ClP.of ⟨Nat.le_of_ble_eq_true rfl, rfl⟩ ?_⟩
        show EvP X 103 0 [some (.ref 31), some (.int a), some (.int b), some (.int d)] [] (47, g_rho q, σ) _
        refine ep_aln t103_0 rfl ?_
        refine ep_k1 (w := nI 0) t103_1 rfl ?_
        refine ep_put t103_2 rfl (Nat.le_of_ble_eq_true rfl) rfl ?_
        refine ep_iln t103_5 rfl ?_
        refine ep_k1 (w := nI 1) t103_6 rfl ?_
        refine ep_k2 (w := nI 9) t103_7 rfl ?_
        refine ep_cs t103_9 (Nat.ne_of_beq_eq_false rfl) rfl (Nat.le_of_ble_eq_true rfl) (cl_M_inB _ (by decide) (by decide)) ?_
        refine ep_bF t103_12 (fun (c12 : (inB a 1 9) = false) => ?_) (fun (c12 : (inB a 1 9) = true) => ?_)
        · refine ep_k1 (w := (-1)) t103_35 rfl ?_
          refine ep_ri t103_36 (fun h => absurd h (by decide)) ?_
          exact ⟨_, rfl, rfl, hR0.thrown _⟩
        · refine ep_iln t103_15 rfl ?_
          refine ep_k1 (w := nI 1) t103_16 rfl ?_
          refine ep_k2 (w := nI 9) t103_17 rfl ?_
          refine ep_cs t103_19 (Nat.ne_of_beq_eq_false rfl) rfl (Nat.le_of_ble_eq_true rfl) (cl_M_inB _ (by decide) (by decide)) ?_
          refine ep_bF t103_22 (fun (c22 : (inB b 1 9) = false) => ?_) (fun (c22 : (inB b 1 9) = true) => ?_)
          · refine ep_k1 (w := (-1)) t103_35 rfl ?_
            refine ep_ri t103_36 (fun h => absurd h (by decide)) ?_
            exact ⟨_, rfl, rfl, hR0.thrown _⟩
          · refine ep_iln t103_25 rfl ?_
            refine ep_k1 (w := nI 1) t103_26 rfl ?_
            refine ep_k2 (w := nI 9) t103_27 rfl ?_
            refine ep_cs t103_29 (Nat.ne_of_beq_eq_false rfl) rfl (Nat.le_of_ble_eq_true rfl) (cl_M_inB _ (by decide) (by decide)) ?_
            refine ep_bT t103_32 (fun (c32 : (inB d 1 9) = true) => (by rcases hbad with h | h | h <;> simp_all)) (fun (c32 : (inB d 1 9) = false) => ?_)
            refine ep_k1 (w := (-1)) t103_35 rfl ?_
            refine ep_ri t103_36 (fun h => absurd h (by decide)) ?_
            exact ⟨_, rfl, rfl, hR0.thrown _⟩
      · refine ep_iln t102_14 rfl ?_
        refine ep_cs t102_15 (Nat.ne_of_beq_eq_false rfl) rfl (Nat.le_of_ble_eq_true rfl) (cl_B_isPrice _) ?_
        refine ep_bT t102_18 (fun (c18 : (inB d 1 9) = true) => (by rcases hbad with h | h | h <;> simp_all)) (fun (c18 : (inB d 1 9) = false) => ?_)
        refine ep_k1 (w := (-1)) t102_21 rfl ?_
        refine ep_ri t102_22 (fun h => absurd h (by decide)) ?_
        refine ⟨_, q, _, rfl, rfl, ClP.of ⟨Nat.le_of_ble_eq_true rfl, rfl⟩ ?_⟩
        show EvP X 103 0 [some (.ref 31), some (.int a), some (.int b), some (.int d)] [] (47, g_rho q, σ) _
        refine ep_aln t103_0 rfl ?_
        refine ep_k1 (w := nI 0) t103_1 rfl ?_
        refine ep_put t103_2 rfl (Nat.le_of_ble_eq_true rfl) rfl ?_
        refine ep_iln t103_5 rfl ?_
        refine ep_k1 (w := nI 1) t103_6 rfl ?_
        refine ep_k2 (w := nI 9) t103_7 rfl ?_
        refine ep_cs t103_9 (Nat.ne_of_beq_eq_false rfl) rfl (Nat.le_of_ble_eq_true rfl) (cl_M_inB _ (by decide) (by decide)) ?_
        refine ep_bF t103_12 (fun (c12 : (inB a 1 9) = false) => ?_) (fun (c12 : (inB a 1 9) = true) => ?_)
        · refine ep_k1 (w := (-1)) t103_35 rfl ?_
          refine ep_ri t103_36 (fun h => absurd h (by decide)) ?_
          exact ⟨_, rfl, rfl, hR0.thrown _⟩
        · refine ep_iln t103_15 rfl ?_
          refine ep_k1 (w := nI 1) t103_16 rfl ?_
          refine ep_k2 (w := nI 9) t103_17 rfl ?_
          refine ep_cs t103_19 (Nat.ne_of_beq_eq_false rfl) rfl (Nat.le_of_ble_eq_true rfl) (cl_M_inB _ (by decide) (by decide)) ?_
          refine ep_bF t103_22 (fun (c22 : (inB b 1 9) = false) => ?_) (fun (c22 : (inB b 1 9) = true) => ?_)
          · refine ep_k1 (w := (-1)) t103_35 rfl ?_
            refine ep_ri t103_36 (fun h => absurd h (by decide)) ?_
            exact ⟨_, rfl, rfl, hR0.thrown _⟩
          · refine ep_iln t103_25 rfl ?_
            refine ep_k1 (w := nI 1) t103_26 rfl ?_
            refine ep_k2 (w := nI 9) t103_27 rfl ?_
            refine ep_cs t103_29 (Nat.ne_of_beq_eq_false rfl) rfl (Nat.le_of_ble_eq_true rfl) (cl_M_inB _ (by decide) (by decide)) ?_
            refine ep_bT t103_32 (fun (c32 : (inB d 1 9) = true) => (by rcases hbad with h | h | h <;> simp_all)) (fun (c32 : (inB d 1 9) = false) => ?_)
            refine ep_k1 (w := (-1)) t103_35 rfl ?_
            refine ep_ri t103_36 (fun h => absurd h (by decide)) ?_
            exact ⟨_, rfl, rfl, hR0.thrown _⟩
  · obtain ⟨xa, hxa, ea⟩ := inB_of ha
    obtain ⟨xb, hxb, eb⟩ := inB_of hb'
    obtain ⟨xd, hxd, ed⟩ := inB_of hd
    refine Pair.of (ClP.of ⟨Nat.le_of_ble_eq_true rfl, rfl⟩ ?_)
    show EvP X 102 0 [some (.ref 0), some (.int a), some (.int b), some (.int d)] [] (47, g_rho q, σ) _
    refine ep_iln t102_0 rfl ?_
    refine ep_cs t102_1 (Nat.ne_of_beq_eq_false rfl) rfl (Nat.le_of_ble_eq_true rfl) (cl_B_isPrice _) ?_
    refine ep_bF t102_4 (fun (c4 : (inB a 1 9) = false) => (by exact absurd ha (by rw [c4]; decide))) (fun (c4 : (inB a 1 9) = true) => ?_)
    refine ep_iln t102_7 rfl ?_
    refine ep_cs t102_8 (Nat.ne_of_beq_eq_false rfl) rfl (Nat.le_of_ble_eq_true rfl) (cl_B_isPrice _) ?_
    refine ep_bF t102_11 (fun (c11 : (inB b 1 9) = false) => (by exact absurd hb' (by rw [c11]; decide))) (fun (c11 : (inB b 1 9) = true) => ?_)
    refine ep_iln t102_14 rfl ?_
    refine ep_cs t102_15 (Nat.ne_of_beq_eq_false rfl) rfl (Nat.le_of_ble_eq_true rfl) (cl_B_isPrice _) ?_
    refine ep_bT t102_18 (fun (c18 : (inB d 1 9) = true) => ?_) (fun (c18 : (inB d 1 9) = false) => (by exact absurd hd (by rw [c18]; decide)))
    refine ep_aln t102_23 rfl ?_
    obtain ⟨v1, g1, hb, rfl, σ1, rfl, f1, f2, f3, f4, f5⟩ := cl_B_remember (X := X) (q := q) (σ := σ) (n := n) (c := c) (l := l) (pr := pr) hn hu1 e4 e5 e25 hc hl hp0 hp1 hp2
    refine ep_cv t102_24 rfl rfl (Nat.le_of_ble_eq_true rfl) (Nat.le_of_ble_eq_true rfl) (hb) ?_
    refine ep_aln t102_27 rfl ?_
    refine ep_iln t102_28 rfl ?_
    refine ep_iln t102_29 rfl ?_
    refine ep_iln t102_30 rfl ?_
    refine ep_cv t102_31 rfl rfl (Nat.le_of_ble_eq_true rfl) (Nat.le_of_ble_eq_true rfl) (cl_B_setPrices _ _ _ (by decide) rfl) ?_
    refine ep_iln t102_34 rfl ?_
    refine ep_iln t102_35 rfl ?_
    refine ep_add t102_36 ?_
    refine ep_iln t102_37 rfl ?_
    refine ep_add t102_38 ?_
    refine ep_ri t102_39 (fun h => absurd h (by decide)) ?_
    refine ⟨_, q, _, rfl, rfl, ClP.of ⟨Nat.le_of_ble_eq_true rfl, rfl⟩ ?_⟩
    show EvP X 103 0 [some (.ref 31), some (.int a), some (.int b), some (.int d)] [] (47, g_rho q, g_up (g_up (g_up σ1 25 0 a) 25 1 b) 25 2 d) _
    refine ep_aln t103_0 rfl ?_
    refine ep_k1 (w := nI 0) t103_1 rfl ?_
    refine ep_put t103_2 rfl (Nat.le_of_ble_eq_true rfl) rfl ?_
    refine ep_iln t103_5 rfl ?_
    refine ep_k1 (w := nI 1) t103_6 rfl ?_
    refine ep_k2 (w := nI 9) t103_7 rfl ?_
    refine ep_cs t103_9 (Nat.ne_of_beq_eq_false rfl) rfl (Nat.le_of_ble_eq_true rfl) (cl_M_inB _ (by decide) (by decide)) ?_
    refine ep_bF t103_12 (fun (c12 : (inB a 1 9) = false) => (by exact absurd ha (by rw [c12]; decide))) (fun (c12 : (inB a 1 9) = true) => ?_)
    refine ep_iln t103_15 rfl ?_
    refine ep_k1 (w := nI 1) t103_16 rfl ?_
    refine ep_k2 (w := nI 9) t103_17 rfl ?_
    refine ep_cs t103_19 (Nat.ne_of_beq_eq_false rfl) rfl (Nat.le_of_ble_eq_true rfl) (cl_M_inB _ (by decide) (by decide)) ?_
    refine ep_bF t103_22 (fun (c22 : (inB b 1 9) = false) => (by exact absurd hb' (by rw [c22]; decide))) (fun (c22 : (inB b 1 9) = true) => ?_)
    refine ep_iln t103_25 rfl ?_
    refine ep_k1 (w := nI 1) t103_26 rfl ?_
    refine ep_k2 (w := nI 9) t103_27 rfl ?_
    refine ep_cs t103_29 (Nat.ne_of_beq_eq_false rfl) rfl (Nat.le_of_ble_eq_true rfl) (cl_M_inB _ (by decide) (by decide)) ?_
    refine ep_bT t103_32 (fun (c32 : (inB d 1 9) = true) => ?_) (fun (c32 : (inB d 1 9) = false) => (by exact absurd hd (by rw [c32]; decide)))
    refine ep_aln t103_37 rfl ?_
    obtain ⟨v2, g2, hm, rfl, σ3, rfl, k1, k2, k3, k4, k5⟩ := cl_M_notes (X := X) (q := q) (σ := g_up (g_up (g_up (g_up σ1 25 0 a) 25 1 b) 25 2 d) 31 0 (nI 0)) (n := n) hn ((congrFun (f1 31 (by decide) (by decide)) 13).trans hu2)
    refine ep_cv t103_38 rfl rfl (Nat.le_of_ble_eq_true rfl) (Nat.le_of_ble_eq_true rfl) (hm) ?_
    refine ep_aln t103_41 rfl ?_
    refine ep_getr (q := 36) t103_42 rfl (Nat.le_of_ble_eq_true rfl) rfl (rfl) ?_
    refine ep_k1 (w := nI 2) t103_45 rfl ?_
    refine ep_iln t103_46 rfl ?_
    refine ep_astN t103_47 rfl (Nat.le_of_ble_eq_true rfl) (Nat.le_of_ble_eq_true rfl) (by omega) ?_
    refine ep_aln t103_48 rfl ?_
    refine ep_getr (q := 36) t103_49 rfl (Nat.le_of_ble_eq_true rfl) rfl (rfl) ?_
    refine ep_k1 (w := nI 3) t103_52 rfl ?_
    refine ep_iln t103_53 rfl ?_
    refine ep_astN t103_54 rfl (Nat.le_of_ble_eq_true rfl) (Nat.le_of_ble_eq_true rfl) (by omega) ?_
    refine ep_aln t103_55 rfl ?_
    refine ep_getr (q := 36) t103_56 rfl (Nat.le_of_ble_eq_true rfl) rfl (rfl) ?_
    refine ep_k1 (w := nI 4) t103_59 rfl ?_
    refine ep_iln t103_60 rfl ?_
    refine ep_astN t103_61 rfl (Nat.le_of_ble_eq_true rfl) (Nat.le_of_ble_eq_true rfl) (by omega) ?_
    refine ep_iln t103_62 rfl ?_
    refine ep_iln t103_63 rfl ?_
    refine ep_add t103_64 ?_
    refine ep_iln t103_65 rfl ?_
    refine ep_add t103_66 ?_
    refine ep_ri t103_67 (fun h => absurd h (by decide)) ?_
    exact ⟨_, rfl, rfl, ⟨T, c, l, p3 xa xb xd, hN.fr (fun p h1 h2 => by (repeat rw [g_up_ne (by omega)]); rw [k1 p (by omega) (by omega)]; (repeat rw [g_up_ne (by omega)]); exact f1 p (by omega) (by omega)) ((k1 33 (by decide) (by decide)).trans (f1 33 (by decide) (by decide))), ⟨⟨hsn.1, hsn.2.1, hsn.2.2.1, fun i hi => by
          match i, hi with
          | 0, _ => exact hxa
          | 1, _ => exact hxb
          | 2, _ => exact hxd⟩, ((congrFun (k1 0 (by decide) (by decide)) 4).trans (f2 4 (by decide))).trans e4, ((congrFun (k1 0 (by decide) (by decide)) 5).trans (f2 5 (by decide))).trans e5, fun i hi => by
        match i, hi with
        | 0, _ => exact (congrFun (k1 25 (by decide) (by decide)) 0).trans ea
        | 1, _ => exact (congrFun (k1 25 (by decide) (by decide)) 1).trans eb
        | 2, _ => exact (congrFun (k1 25 (by decide) (by decide)) 2).trans ed, fun i hi => by
        match i, hi with
        | 0, _ => exact (congrFun ((k1 36 (by decide) (by decide)).trans (f1 36 (by decide) (by decide))) 0).trans (e36 0 (by decide))
        | 1, _ => exact (congrFun ((k1 36 (by decide) (by decide)).trans (f1 36 (by decide) (by decide))) 1).trans (e36 1 (by decide))
        | 2, _ => exact ea
        | 3, _ => exact eb
        | 4, _ => exact ed⟩, hT.fr ((congrFun (k1 1 (by decide) (by decide)) 1).trans (congrFun (f1 1 (by decide) (by decide)) 1)) ((k1 2 (by decide) (by decide)).trans (f1 2 (by decide) (by decide))) ((k2 2 (by decide)).trans (congrFun (f1 31 (by decide) (by decide)) 2)) ((k1 32 (by decide) (by decide)).trans (f1 32 (by decide) (by decide))), hO.fr ((congrFun (k1 0 (by decide) (by decide)) 8).trans (f2 8 (by decide))) ((k1 26 (by decide) (by decide)).trans (f1 26 (by decide) (by decide))) ((k2 17 (by decide)).trans (congrFun (f1 31 (by decide) (by decide)) 17)) ((k1 40 (by decide) (by decide)).trans (f1 40 (by decide) (by decide))), und_push hn hu3 hsn ((congrFun (k1 0 (by decide) (by decide)) 10).trans f3) (fun j hj => (congrFun (k1 27 (by decide) (by decide)) j).trans (f4 j hj)) ((congrFun (k1 27 (by decide) (by decide)) (min n 9)).trans f5) k3 (fun j i hj hi => (k4 j i hj hi).trans (congrFun (f1 37 (by decide) (by decide)) _)) (fun i hi => ((k5 i hi).trans (congrFun (f1 36 (by decide) (by decide)) i)).trans (e36 i hi)), hI.fr ((congrFun (k1 0 (by decide) (by decide)) 12).trans (f2 12 (by decide))) ((k1 28 (by decide) (by decide)).trans (f1 28 (by decide) (by decide))) ((k1 39 (by decide) (by decide)).trans (f1 39 (by decide) (by decide))) ((k1 38 (by decide) (by decide)).trans (f1 38 (by decide) (by decide))), hS.fr ((congrFun (k1 0 (by decide) (by decide)) 14).trans (f2 14 (by decide))) ((k1 29 (by decide) (by decide)).trans (f1 29 (by decide) (by decide))) ((k2 20 (by decide)).trans (congrFun (f1 31 (by decide) (by decide)) 20)) ((k1 41 (by decide) (by decide)).trans (f1 41 (by decide) (by decide))) ((k1 42 (by decide) (by decide)).trans (f1 42 (by decide) (by decide)))⟩⟩
