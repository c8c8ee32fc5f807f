/-! Pair node. -/
theorem pr_node {X : gX} {q : Bool} {σ : gT1} (hR : Rel q σ) (a : Int32) (b : Int32) : Pair X 76 78 [.int a, .int b] q σ := by
  have hR0 := hR
  obtain ⟨T, c, l, pr, hN, hW, hT, hO, hU, hI, hS⟩ := hR
  obtain ⟨⟨hwf0, hwf1⟩, ⟨hwf2, hwf3⟩, hwf4, hwf5, hwf6⟩ := hN.1
  have hB3 : σ (np q) 3 = nI (T 3) := hN.2.1.1 3 (by decide)
  have hB0 : σ (np q) 0 = nI (T 0) := hN.2.1.1 0 (by decide)
  have hM3 : σ 33 3 = nI (T 3) := hN.2.2.1 3 (by decide)
  have hM0 : σ 33 0 = nI (T 0) := hN.2.2.1 0 (by decide)
  obtain ⟨hsn, e4, e5, e25, e36⟩ := id hW
  obtain ⟨hc, hl, hp0, hp1, hp2⟩ := hsn.lt hwf4
  have hw0 := hN.1.w0
  have hx2 := pow_le_256 hwf4
  have hx3 : (2 : Nat) ^ T 0 ≤ 256 := pow_le_256 (by omega)
  have hlv := live_lt hwf1 c
  have hea := earth_lt hwf1 c
  cases hin : inR a (T 0) with
  | false =>
    refine Pair.of (ClP.of ⟨Nat.le_of_ble_eq_true rfl, rfl⟩ ?_)
    show EvP X 76 0 [some (.ref 0), some (.int a), some (.int b)] [] (47, g_rho q, σ) _
    refine ep_aln t76_0 rfl ?_
    refine ep_iln t76_1 rfl ?_
    refine ep_cv t76_2 rfl rfl (Nat.le_of_ble_eq_true rfl) (Nat.le_of_ble_eq_true rfl) (cl_B_isNode _ (by omega) hB0) ?_
    refine ep_bT t76_5 (fun (c5 : (inR a (T 0)) = true) => (by exact absurd c5 (by rw [hin]; decide))) (fun (c5 : (inR a (T 0)) = false) => ?_)
    refine ep_k1 (w := (-1)) t76_8 rfl ?_
    refine ep_ri t76_9 (fun h => absurd h (by decide)) ?_
    refine ⟨_, q, _, rfl, rfl, ClP.of ⟨Nat.le_of_ble_eq_true rfl, rfl⟩ ?_⟩
    show EvP X 78 0 [some (.ref 31), some (.int a), some (.int b), none, none] [] (47, g_rho q, σ) _
    refine ep_aln t78_0 rfl ?_
    refine ep_k1 (w := nI 0) t78_1 rfl ?_
    refine ep_put t78_2 rfl (Nat.le_of_ble_eq_true rfl) rfl ?_
    refine ep_aln t78_5 rfl ?_
    refine ep_iln t78_6 rfl ?_
    refine ep_cv t78_7 rfl rfl (Nat.le_of_ble_eq_true rfl) (Nat.le_of_ble_eq_true rfl) (cl_M_isNode _ (by omega) hM0) ?_
    refine ep_bF t78_10 (fun (c10 : (inR a (T 0)) = false) => ?_) (fun (c10 : (inR a (T 0)) = true) => (by exact absurd c10 (by rw [hin]; decide)))
    refine ep_k1 (w := (-1)) t78_22 rfl ?_
    refine ep_ri t78_23 (fun h => absurd h (by decide)) ?_
    exact ⟨_, rfl, rfl, hR0.thrown _⟩
  | true =>
    obtain ⟨u, hu, rfl⟩ := inR_of (by omega) hin
    cases hib : inB b 0 4 with
    | false =>
      refine Pair.of (ClP.of ⟨Nat.le_of_ble_eq_true rfl, rfl⟩ ?_)
      show EvP X 76 0 [some (.ref 0), some (.int (nI u)), some (.int b)] [] (47, g_rho q, σ) _
      refine ep_aln t76_0 rfl ?_
      refine ep_iln t76_1 rfl ?_
      refine ep_cv t76_2 rfl rfl (Nat.le_of_ble_eq_true rfl) (Nat.le_of_ble_eq_true rfl) (cl_B_isNode _ (by omega) hB0) ?_
      refine ep_bT t76_5 (fun (c5 : (inR (nI u) (T 0)) = true) => ?_) (fun (c5 : (inR (nI u) (T 0)) = false) => (by exact absurd c5 (by rw [hin]; decide)))
      refine ep_iln t76_10 rfl ?_
      refine ep_sw (t := 115) t76_11 (tgt_out (inB_F (x := 0) (y := 4) hib)) ?_
      refine ep_k1 (w := (-1)) t76_115 rfl ?_
      refine ep_ri t76_116 (fun h => absurd h (by decide)) ?_
      refine ⟨_, q, _, rfl, rfl, ClP.of ⟨Nat.le_of_ble_eq_true rfl, rfl⟩ ?_⟩
      show EvP X 78 0 [some (.ref 31), some (.int (nI u)), some (.int b), none, none] [] (47, g_rho q, σ) _
      refine ep_aln t78_0 rfl ?_
      refine ep_k1 (w := nI 0) t78_1 rfl ?_
      refine ep_put t78_2 rfl (Nat.le_of_ble_eq_true rfl) rfl ?_
      refine ep_aln t78_5 rfl ?_
      refine ep_iln t78_6 rfl ?_
      refine ep_cv t78_7 rfl rfl (Nat.le_of_ble_eq_true rfl) (Nat.le_of_ble_eq_true rfl) (cl_M_isNode _ (by omega) hM0) ?_
      refine ep_bF t78_10 (fun (c10 : (inR (nI u) (T 0)) = false) => (by exact absurd c10 (by rw [hin]; decide))) (fun (c10 : (inR (nI u) (T 0)) = true) => ?_)
      refine ep_iln t78_13 rfl ?_
      refine ep_k1 (w := nI 0) t78_14 rfl ?_
      refine ep_k1 (w := nI 4) t78_15 rfl ?_
      refine ep_cs t78_16 (Nat.ne_of_beq_eq_false rfl) rfl (Nat.le_of_ble_eq_true rfl) (cl_M_inB _ (by decide) (by decide)) ?_
      refine ep_bT t78_19 (fun (c19 : (inB b 0 4) = true) => (by exact absurd c19 (by rw [hib]; decide))) (fun (c19 : (inB b 0 4) = false) => ?_)
      refine ep_k1 (w := (-1)) t78_22 rfl ?_
      refine ep_ri t78_23 (fun h => absurd h (by decide)) ?_
      exact ⟨_, rfl, rfl, hR0.thrown _⟩
    | true =>
      obtain ⟨t, ⟨-, ht⟩, rfl⟩ := inB_of hib
      clear hib
      obtain rfl | rfl | rfl | rfl | rfl := (by omega : t = 0 ∨ t = 1 ∨ t = 2 ∨ t = 3 ∨ t = 4)
      · cases q
        · refine Pair.of (ClP.of ⟨Nat.le_of_ble_eq_true rfl, rfl⟩ ?_)
          show EvP X 76 0 [some (.ref 0), some (.int (nI u)), some (.int (nI 0))] [] (47, g_rho false, σ) _
          refine ep_aln t76_0 rfl ?_
          refine ep_iln t76_1 rfl ?_
          refine ep_cv t76_2 rfl rfl (Nat.le_of_ble_eq_true rfl) (Nat.le_of_ble_eq_true rfl) (cl_B_isNode _ (by omega) hB0) ?_
          refine ep_bT t76_5 (fun (c5 : (inR (nI u) (T 0)) = true) => ?_) (fun (c5 : (inR (nI u) (T 0)) = false) => (by exact absurd c5 (by rw [hin]; decide)))
          refine ep_iln t76_10 rfl ?_
          refine ep_sw (t := 44) t76_11 (by decide +kernel) ?_
          refine ep_aln t76_44 rfl ?_
          refine ep_getr (q := 7) t76_45 rfl (Nat.le_of_ble_eq_true rfl) rfl (rfl) ?_
          refine ep_getr (q := 12) t76_48 rfl (Nat.le_of_ble_eq_true rfl) rfl (rfl) ?_
          refine ep_aln t76_51 rfl ?_
          refine ep_get t76_52 rfl (Nat.le_of_ble_eq_true rfl) rfl ?_
          refine ep_val (b := nI c) (e4) ?_
          refine ep_aldN t76_55 rfl (Nat.le_of_ble_eq_true rfl) (Nat.ne_of_beq_eq_false rfl) (Nat.le_of_ble_eq_true rfl) (by omega) ?_
          refine ep_val (b := nI (liveM T c)) ((hN.2.1.2.2 c hsn.1).1) ?_
          refine ep_iln t76_56 rfl ?_
          refine ep_cs t76_57 (Nat.ne_of_beq_eq_false rfl) rfl (Nat.le_of_ble_eq_true rfl) (cl_B_bit (by omega) (by omega)) ?_
          refine ep_ri t76_60 (fun h => absurd h (by decide)) ?_
          refine ⟨_, false, _, rfl, rfl, ClP.of ⟨Nat.le_of_ble_eq_true rfl, rfl⟩ ?_⟩
          show EvP X 78 0 [some (.ref 31), some (.int (nI u)), some (.int (nI 0)), none, none] [] (47, g_rho false, σ) _
          refine ep_aln t78_0 rfl ?_
          refine ep_k1 (w := nI 0) t78_1 rfl ?_
          refine ep_put t78_2 rfl (Nat.le_of_ble_eq_true rfl) rfl ?_
          refine ep_aln t78_5 rfl ?_
          refine ep_iln t78_6 rfl ?_
          refine ep_cv t78_7 rfl rfl (Nat.le_of_ble_eq_true rfl) (Nat.le_of_ble_eq_true rfl) (cl_M_isNode _ (by omega) hM0) ?_
          refine ep_bF t78_10 (fun (c10 : (inR (nI u) (T 0)) = false) => (by exact absurd c10 (by rw [hin]; decide))) (fun (c10 : (inR (nI u) (T 0)) = true) => ?_)
          refine ep_iln t78_13 rfl ?_
          refine ep_k1 (w := nI 0) t78_14 rfl ?_
          refine ep_k1 (w := nI 4) t78_15 rfl ?_
          refine ep_cs t78_16 (Nat.ne_of_beq_eq_false rfl) rfl (Nat.le_of_ble_eq_true rfl) (cl_M_inB _ (by decide) (by decide)) ?_
          refine ep_bT t78_19 (fun (c19 : (inB (nI 0) 0 4) = true) => ?_) (fun (c19 : (inB (nI 0) 0 4) = false) => (by exact absurd c19 (by decide)))
          refine ep_iln t78_24 rfl ?_
          refine ep_k1 (w := nI 2) t78_25 rfl ?_
          refine ep_ifP t78_26 (ic_le (by omega) (by omega)) (fun (c26 : 0 ≤ 2) => ?_) (fun (c26 : ¬ (0 ≤ 2)) => (by exact absurd (by omega) c26))
          refine ep_aln t78_54 rfl ?_
          refine ep_aln t78_55 rfl ?_
          refine ep_getr (q := 33) t78_56 rfl (Nat.le_of_ble_eq_true rfl) rfl (rfl) ?_
          refine ep_aln t78_59 rfl ?_
          refine ep_getr (q := 36) t78_60 rfl (Nat.le_of_ble_eq_true rfl) rfl (rfl) ?_
          refine ep_k1 (w := nI 0) t78_63 rfl ?_
          refine ep_aldN t78_64 rfl (Nat.le_of_ble_eq_true rfl) (Nat.ne_of_beq_eq_false rfl) (Nat.le_of_ble_eq_true rfl) (by omega) ?_
          refine ep_val (b := nI c) (e36 0 (by decide)) ?_
          obtain ⟨v8, g8, hm8, σa, la, rfl, rfl, a1, a2, a3⟩ := cl_M_liveBy_33 (X := X) (q := false) (σ := g_up σ 31 0 (nI 0)) (T := T) (c := c) hN.2.2 hw0 (by omega) (by omega)
          refine ep_cv t78_65 rfl rfl (Nat.le_of_ble_eq_true rfl) (Nat.le_of_ble_eq_true rfl) (hm8) ?_
          refine ep_isn (L' := [some (.ref 31), some (.int (nI u)), some (.int (nI 0)), some (.int (nI (liveM T c))), none]) t78_68 rfl (Nat.le_of_ble_eq_true rfl) ?_
          refine ep_aln t78_69 rfl ?_
          refine ep_aln t78_70 rfl ?_
          refine ep_getr (q := 33) t78_71 rfl (Nat.le_of_ble_eq_true rfl) rfl (rfl) ?_
          refine ep_aln t78_74 rfl ?_
          refine ep_getr (q := 36) t78_75 rfl (Nat.le_of_ble_eq_true rfl) rfl (rfl) ?_
          refine ep_k1 (w := nI 0) t78_78 rfl ?_
          refine ep_aldN t78_79 rfl (Nat.le_of_ble_eq_true rfl) (Nat.ne_of_beq_eq_false rfl) (Nat.le_of_ble_eq_true rfl) (by omega) ?_
          refine ep_val (b := nI c) ((congrFun (a1 36 (by decide)) 0).trans (e36 0 (by decide))) ?_
          obtain ⟨v9, g9, hm9, σb, lb, rfl, rfl, b1, b2, b3⟩ := cl_M_earthedBy_33 (X := X) (q := false) (σ := σa) (T := T) (c := c) (by rw [a1 33 (by decide)]; exact hN.2.2) hw0 (by omega)
          refine ep_cv t78_80 rfl rfl (Nat.le_of_ble_eq_true rfl) (Nat.le_of_ble_eq_true rfl) (hm9) ?_
          refine ep_is (L' := [some (.ref 31), some (.int (nI u)), some (.int (nI 0)), some (.int (nI (liveM T c))), some (.int (nI (earthM T c)))]) t78_83 rfl (Nat.le_of_ble_eq_true rfl) ?_
          refine ep_iln t78_85 rfl ?_
          refine ep_if0P t78_86 (ic0_ne (by omega)) (fun (c86 : ¬ 0 = 0) => (by exact absurd c86 (by omega))) (fun (c86 : ¬ (¬ 0 = 0)) => ?_)
          refine ep_iln t78_89 rfl ?_
          refine ep_iln t78_90 rfl ?_
          refine ep_shrN (a := liveM T c) (b := u) t78_91 (by omega) (by omega) ?_
          refine ep_k1 (w := nI 1) t78_92 rfl ?_
          refine ep_andN (a := (liveM T c) / 2 ^ u) (b := 1) t78_93 ?_
          refine ep_val (b := bI ((liveM T c).testBit u)) (by rw [Nat.and_one_is_mod, bI_bit]) ?_
          refine ep_gt t78_94 ?_
          refine ep_ri t78_117 (fun h => absurd h (by decide)) ?_
          exact ⟨_, rfl, rfl, ((hR0.thrown _).scr1 a1).scr1 b1⟩
        · refine Pair.of (ClP.of ⟨Nat.le_of_ble_eq_true rfl, rfl⟩ ?_)
          show EvP X 76 0 [some (.ref 0), some (.int (nI u)), some (.int (nI 0))] [] (47, g_rho true, σ) _
          refine ep_aln t76_0 rfl ?_
          refine ep_iln t76_1 rfl ?_
          refine ep_cv t76_2 rfl rfl (Nat.le_of_ble_eq_true rfl) (Nat.le_of_ble_eq_true rfl) (cl_B_isNode _ (by omega) hB0) ?_
          refine ep_bT t76_5 (fun (c5 : (inR (nI u) (T 0)) = true) => ?_) (fun (c5 : (inR (nI u) (T 0)) = false) => (by exact absurd c5 (by rw [hin]; decide)))
          refine ep_iln t76_10 rfl ?_
          refine ep_sw (t := 44) t76_11 (by decide +kernel) ?_
          refine ep_aln t76_44 rfl ?_
          refine ep_getr (q := 16) t76_45 rfl (Nat.le_of_ble_eq_true rfl) rfl (rfl) ?_
          refine ep_getr (q := 21) t76_48 rfl (Nat.le_of_ble_eq_true rfl) rfl (rfl) ?_
          refine ep_aln t76_51 rfl ?_
          refine ep_get t76_52 rfl (Nat.le_of_ble_eq_true rfl) rfl ?_
          refine ep_val (b := nI c) (e4) ?_
          refine ep_aldN t76_55 rfl (Nat.le_of_ble_eq_true rfl) (Nat.ne_of_beq_eq_false rfl) (Nat.le_of_ble_eq_true rfl) (by omega) ?_
          refine ep_val (b := nI (liveM T c)) ((hN.2.1.2.2 c hsn.1).1) ?_
          refine ep_iln t76_56 rfl ?_
          refine ep_cs t76_57 (Nat.ne_of_beq_eq_false rfl) rfl (Nat.le_of_ble_eq_true rfl) (cl_B_bit (by omega) (by omega)) ?_
          refine ep_ri t76_60 (fun h => absurd h (by decide)) ?_
          refine ⟨_, true, _, rfl, rfl, ClP.of ⟨Nat.le_of_ble_eq_true rfl, rfl⟩ ?_⟩
          show EvP X 78 0 [some (.ref 31), some (.int (nI u)), some (.int (nI 0)), none, none] [] (47, g_rho true, σ) _
          refine ep_aln t78_0 rfl ?_
          refine ep_k1 (w := nI 0) t78_1 rfl ?_
          refine ep_put t78_2 rfl (Nat.le_of_ble_eq_true rfl) rfl ?_
          refine ep_aln t78_5 rfl ?_
          refine ep_iln t78_6 rfl ?_
          refine ep_cv t78_7 rfl rfl (Nat.le_of_ble_eq_true rfl) (Nat.le_of_ble_eq_true rfl) (cl_M_isNode _ (by omega) hM0) ?_
          refine ep_bF t78_10 (fun (c10 : (inR (nI u) (T 0)) = false) => (by exact absurd c10 (by rw [hin]; decide))) (fun (c10 : (inR (nI u) (T 0)) = true) => ?_)
          refine ep_iln t78_13 rfl ?_
          refine ep_k1 (w := nI 0) t78_14 rfl ?_
          refine ep_k1 (w := nI 4) t78_15 rfl ?_
          refine ep_cs t78_16 (Nat.ne_of_beq_eq_false rfl) rfl (Nat.le_of_ble_eq_true rfl) (cl_M_inB _ (by decide) (by decide)) ?_
          refine ep_bT t78_19 (fun (c19 : (inB (nI 0) 0 4) = true) => ?_) (fun (c19 : (inB (nI 0) 0 4) = false) => (by exact absurd c19 (by decide)))
          refine ep_iln t78_24 rfl ?_
          refine ep_k1 (w := nI 2) t78_25 rfl ?_
          refine ep_ifP t78_26 (ic_le (by omega) (by omega)) (fun (c26 : 0 ≤ 2) => ?_) (fun (c26 : ¬ (0 ≤ 2)) => (by exact absurd (by omega) c26))
          refine ep_aln t78_54 rfl ?_
          refine ep_aln t78_55 rfl ?_
          refine ep_getr (q := 33) t78_56 rfl (Nat.le_of_ble_eq_true rfl) rfl (rfl) ?_
          refine ep_aln t78_59 rfl ?_
          refine ep_getr (q := 36) t78_60 rfl (Nat.le_of_ble_eq_true rfl) rfl (rfl) ?_
          refine ep_k1 (w := nI 0) t78_63 rfl ?_
          refine ep_aldN t78_64 rfl (Nat.le_of_ble_eq_true rfl) (Nat.ne_of_beq_eq_false rfl) (Nat.le_of_ble_eq_true rfl) (by omega) ?_
          refine ep_val (b := nI c) (e36 0 (by decide)) ?_
          obtain ⟨v8, g8, hm8, σa, la, rfl, rfl, a1, a2, a3⟩ := cl_M_liveBy_33 (X := X) (q := true) (σ := g_up σ 31 0 (nI 0)) (T := T) (c := c) hN.2.2 hw0 (by omega) (by omega)
          refine ep_cv t78_65 rfl rfl (Nat.le_of_ble_eq_true rfl) (Nat.le_of_ble_eq_true rfl) (hm8) ?_
          refine ep_isn (L' := [some (.ref 31), some (.int (nI u)), some (.int (nI 0)), some (.int (nI (liveM T c))), none]) t78_68 rfl (Nat.le_of_ble_eq_true rfl) ?_
          refine ep_aln t78_69 rfl ?_
          refine ep_aln t78_70 rfl ?_
          refine ep_getr (q := 33) t78_71 rfl (Nat.le_of_ble_eq_true rfl) rfl (rfl) ?_
          refine ep_aln t78_74 rfl ?_
          refine ep_getr (q := 36) t78_75 rfl (Nat.le_of_ble_eq_true rfl) rfl (rfl) ?_
          refine ep_k1 (w := nI 0) t78_78 rfl ?_
          refine ep_aldN t78_79 rfl (Nat.le_of_ble_eq_true rfl) (Nat.ne_of_beq_eq_false rfl) (Nat.le_of_ble_eq_true rfl) (by omega) ?_
          refine ep_val (b := nI c) ((congrFun (a1 36 (by decide)) 0).trans (e36 0 (by decide))) ?_
          obtain ⟨v9, g9, hm9, σb, lb, rfl, rfl, b1, b2, b3⟩ := cl_M_earthedBy_33 (X := X) (q := true) (σ := σa) (T := T) (c := c) (by rw [a1 33 (by decide)]; exact hN.2.2) hw0 (by omega)
          refine ep_cv t78_80 rfl rfl (Nat.le_of_ble_eq_true rfl) (Nat.le_of_ble_eq_true rfl) (hm9) ?_
          refine ep_is (L' := [some (.ref 31), some (.int (nI u)), some (.int (nI 0)), some (.int (nI (liveM T c))), some (.int (nI (earthM T c)))]) t78_83 rfl (Nat.le_of_ble_eq_true rfl) ?_
          refine ep_iln t78_85 rfl ?_
          refine ep_if0P t78_86 (ic0_ne (by omega)) (fun (c86 : ¬ 0 = 0) => (by exact absurd c86 (by omega))) (fun (c86 : ¬ (¬ 0 = 0)) => ?_)
          refine ep_iln t78_89 rfl ?_
          refine ep_iln t78_90 rfl ?_
          refine ep_shrN (a := liveM T c) (b := u) t78_91 (by omega) (by omega) ?_
          refine ep_k1 (w := nI 1) t78_92 rfl ?_
          refine ep_andN (a := (liveM T c) / 2 ^ u) (b := 1) t78_93 ?_
          refine ep_val (b := bI ((liveM T c).testBit u)) (by rw [Nat.and_one_is_mod, bI_bit]) ?_
          refine ep_gt t78_94 ?_
          refine ep_ri t78_117 (fun h => absurd h (by decide)) ?_
          exact ⟨_, rfl, rfl, ((hR0.thrown _).scr1 a1).scr1 b1⟩
      · cases q
        · refine Pair.of (ClP.of ⟨Nat.le_of_ble_eq_true rfl, rfl⟩ ?_)
          show EvP X 76 0 [some (.ref 0), some (.int (nI u)), some (.int (nI 1))] [] (47, g_rho false, σ) _
          refine ep_aln t76_0 rfl ?_
          refine ep_iln t76_1 rfl ?_
          refine ep_cv t76_2 rfl rfl (Nat.le_of_ble_eq_true rfl) (Nat.le_of_ble_eq_true rfl) (cl_B_isNode _ (by omega) hB0) ?_
          refine ep_bT t76_5 (fun (c5 : (inR (nI u) (T 0)) = true) => ?_) (fun (c5 : (inR (nI u) (T 0)) = false) => (by exact absurd c5 (by rw [hin]; decide)))
          refine ep_iln t76_10 rfl ?_
          refine ep_sw (t := 61) t76_11 (by decide +kernel) ?_
          refine ep_aln t76_61 rfl ?_
          refine ep_getr (q := 7) t76_62 rfl (Nat.le_of_ble_eq_true rfl) rfl (rfl) ?_
          refine ep_getr (q := 13) t76_65 rfl (Nat.le_of_ble_eq_true rfl) rfl (rfl) ?_
          refine ep_aln t76_68 rfl ?_
          refine ep_get t76_69 rfl (Nat.le_of_ble_eq_true rfl) rfl ?_
          refine ep_val (b := nI c) (e4) ?_
          refine ep_aldN t76_72 rfl (Nat.le_of_ble_eq_true rfl) (Nat.ne_of_beq_eq_false rfl) (Nat.le_of_ble_eq_true rfl) (by omega) ?_
          refine ep_val (b := nI (earthM T c)) ((hN.2.1.2.2 c hsn.1).2.1) ?_
          refine ep_iln t76_73 rfl ?_
          refine ep_cs t76_74 (Nat.ne_of_beq_eq_false rfl) rfl (Nat.le_of_ble_eq_true rfl) (cl_B_bit (by omega) (by omega)) ?_
          refine ep_ri t76_77 (fun h => absurd h (by decide)) ?_
          refine ⟨_, false, _, rfl, rfl, ClP.of ⟨Nat.le_of_ble_eq_true rfl, rfl⟩ ?_⟩
          show EvP X 78 0 [some (.ref 31), some (.int (nI u)), some (.int (nI 1)), none, none] [] (47, g_rho false, σ) _
          refine ep_aln t78_0 rfl ?_
          refine ep_k1 (w := nI 0) t78_1 rfl ?_
          refine ep_put t78_2 rfl (Nat.le_of_ble_eq_true rfl) rfl ?_
          refine ep_aln t78_5 rfl ?_
          refine ep_iln t78_6 rfl ?_
          refine ep_cv t78_7 rfl rfl (Nat.le_of_ble_eq_true rfl) (Nat.le_of_ble_eq_true rfl) (cl_M_isNode _ (by omega) hM0) ?_
          refine ep_bF t78_10 (fun (c10 : (inR (nI u) (T 0)) = false) => (by exact absurd c10 (by rw [hin]; decide))) (fun (c10 : (inR (nI u) (T 0)) = true) => ?_)
          refine ep_iln t78_13 rfl ?_
          refine ep_k1 (w := nI 0) t78_14 rfl ?_
          refine ep_k1 (w := nI 4) t78_15 rfl ?_
          refine ep_cs t78_16 (Nat.ne_of_beq_eq_false rfl) rfl (Nat.le_of_ble_eq_true rfl) (cl_M_inB _ (by decide) (by decide)) ?_
          refine ep_bT t78_19 (fun (c19 : (inB (nI 1) 0 4) = true) => ?_) (fun (c19 : (inB (nI 1) 0 4) = false) => (by exact absurd c19 (by decide)))
          refine ep_iln t78_24 rfl ?_
          refine ep_k1 (w := nI 2) t78_25 rfl ?_
          refine ep_ifP t78_26 (ic_le (by omega) (by omega)) (fun (c26 : 1 ≤ 2) => ?_) (fun (c26 : ¬ (1 ≤ 2)) => (by exact absurd (by omega) c26))
          refine ep_aln t78_54 rfl ?_
          refine ep_aln t78_55 rfl ?_
          refine ep_getr (q := 33) t78_56 rfl (Nat.le_of_ble_eq_true rfl) rfl (rfl) ?_
          refine ep_aln t78_59 rfl ?_
          refine ep_getr (q := 36) t78_60 rfl (Nat.le_of_ble_eq_true rfl) rfl (rfl) ?_
          refine ep_k1 (w := nI 0) t78_63 rfl ?_
          refine ep_aldN t78_64 rfl (Nat.le_of_ble_eq_true rfl) (Nat.ne_of_beq_eq_false rfl) (Nat.le_of_ble_eq_true rfl) (by omega) ?_
          refine ep_val (b := nI c) (e36 0 (by decide)) ?_
          obtain ⟨v8, g8, hm8, σa, la, rfl, rfl, a1, a2, a3⟩ := cl_M_liveBy_33 (X := X) (q := false) (σ := g_up σ 31 0 (nI 0)) (T := T) (c := c) hN.2.2 hw0 (by omega) (by omega)
          refine ep_cv t78_65 rfl rfl (Nat.le_of_ble_eq_true rfl) (Nat.le_of_ble_eq_true rfl) (hm8) ?_
          refine ep_isn (L' := [some (.ref 31), some (.int (nI u)), some (.int (nI 1)), some (.int (nI (liveM T c))), none]) t78_68 rfl (Nat.le_of_ble_eq_true rfl) ?_
          refine ep_aln t78_69 rfl ?_
          refine ep_aln t78_70 rfl ?_
          refine ep_getr (q := 33) t78_71 rfl (Nat.le_of_ble_eq_true rfl) rfl (rfl) ?_
          refine ep_aln t78_74 rfl ?_
          refine ep_getr (q := 36) t78_75 rfl (Nat.le_of_ble_eq_true rfl) rfl (rfl) ?_
          refine ep_k1 (w := nI 0) t78_78 rfl ?_
          refine ep_aldN t78_79 rfl (Nat.le_of_ble_eq_true rfl) (Nat.ne_of_beq_eq_false rfl) (Nat.le_of_ble_eq_true rfl) (by omega) ?_
          refine ep_val (b := nI c) ((congrFun (a1 36 (by decide)) 0).trans (e36 0 (by decide))) ?_
          obtain ⟨v9, g9, hm9, σb, lb, rfl, rfl, b1, b2, b3⟩ := cl_M_earthedBy_33 (X := X) (q := false) (σ := σa) (T := T) (c := c) (by rw [a1 33 (by decide)]; exact hN.2.2) hw0 (by omega)
          refine ep_cv t78_80 rfl rfl (Nat.le_of_ble_eq_true rfl) (Nat.le_of_ble_eq_true rfl) (hm9) ?_
          refine ep_is (L' := [some (.ref 31), some (.int (nI u)), some (.int (nI 1)), some (.int (nI (liveM T c))), some (.int (nI (earthM T c)))]) t78_83 rfl (Nat.le_of_ble_eq_true rfl) ?_
          refine ep_iln t78_85 rfl ?_
          refine ep_if0P t78_86 (ic0_ne (by omega)) (fun (c86 : ¬ 1 = 0) => ?_) (fun (c86 : ¬ (¬ 1 = 0)) => (by exact absurd (by omega) c86))
          refine ep_iln t78_97 rfl ?_
          refine ep_k1 (w := nI 1) t78_98 rfl ?_
          refine ep_ifP t78_99 (ic_ne (by omega) (by omega)) (fun (c99 : ¬ 1 = 1) => (by exact absurd c99 (by omega))) (fun (c99 : ¬ (¬ 1 = 1)) => ?_)
          refine ep_il t78_102 rfl ?_
          refine ep_iln t78_104 rfl ?_
          refine ep_shrN (a := earthM T c) (b := u) t78_105 (by omega) (by omega) ?_
          refine ep_k1 (w := nI 1) t78_106 rfl ?_
          refine ep_andN (a := (earthM T c) / 2 ^ u) (b := 1) t78_107 ?_
          refine ep_val (b := bI ((earthM T c).testBit u)) (by rw [Nat.and_one_is_mod, bI_bit]) ?_
          refine ep_gt t78_108 ?_
          refine ep_ri t78_117 (fun h => absurd h (by decide)) ?_
          exact ⟨_, rfl, rfl, ((hR0.thrown _).scr1 a1).scr1 b1⟩
        · refine Pair.of (ClP.of ⟨Nat.le_of_ble_eq_true rfl, rfl⟩ ?_)
          show EvP X 76 0 [some (.ref 0), some (.int (nI u)), some (.int (nI 1))] [] (47, g_rho true, σ) _
          refine ep_aln t76_0 rfl ?_
          refine ep_iln t76_1 rfl ?_
          refine ep_cv t76_2 rfl rfl (Nat.le_of_ble_eq_true rfl) (Nat.le_of_ble_eq_true rfl) (cl_B_isNode _ (by omega) hB0) ?_
          refine ep_bT t76_5 (fun (c5 : (inR (nI u) (T 0)) = true) => ?_) (fun (c5 : (inR (nI u) (T 0)) = false) => (by exact absurd c5 (by rw [hin]; decide)))
          refine ep_iln t76_10 rfl ?_
          refine ep_sw (t := 61) t76_11 (by decide +kernel) ?_
          refine ep_aln t76_61 rfl ?_
          refine ep_getr (q := 16) t76_62 rfl (Nat.le_of_ble_eq_true rfl) rfl (rfl) ?_
          refine ep_getr (q := 22) t76_65 rfl (Nat.le_of_ble_eq_true rfl) rfl (rfl) ?_
          refine ep_aln t76_68 rfl ?_
          refine ep_get t76_69 rfl (Nat.le_of_ble_eq_true rfl) rfl ?_
          refine ep_val (b := nI c) (e4) ?_
          refine ep_aldN t76_72 rfl (Nat.le_of_ble_eq_true rfl) (Nat.ne_of_beq_eq_false rfl) (Nat.le_of_ble_eq_true rfl) (by omega) ?_
          refine ep_val (b := nI (earthM T c)) ((hN.2.1.2.2 c hsn.1).2.1) ?_
          refine ep_iln t76_73 rfl ?_
          refine ep_cs t76_74 (Nat.ne_of_beq_eq_false rfl) rfl (Nat.le_of_ble_eq_true rfl) (cl_B_bit (by omega) (by omega)) ?_
          refine ep_ri t76_77 (fun h => absurd h (by decide)) ?_
          refine ⟨_, true, _, rfl, rfl, ClP.of ⟨Nat.le_of_ble_eq_true rfl, rfl⟩ ?_⟩
          show EvP X 78 0 [some (.ref 31), some (.int (nI u)), some (.int (nI 1)), none, none] [] (47, g_rho true, σ) _
          refine ep_aln t78_0 rfl ?_
          refine ep_k1 (w := nI 0) t78_1 rfl ?_
          refine ep_put t78_2 rfl (Nat.le_of_ble_eq_true rfl) rfl ?_
          refine ep_aln t78_5 rfl ?_
          refine ep_iln t78_6 rfl ?_
          refine ep_cv t78_7 rfl rfl (Nat.le_of_ble_eq_true rfl) (Nat.le_of_ble_eq_true rfl) (cl_M_isNode _ (by omega) hM0) ?_
          refine ep_bF t78_10 (fun (c10 : (inR (nI u) (T 0)) = false) => (by exact absurd c10 (by rw [hin]; decide))) (fun (c10 : (inR (nI u) (T 0)) = true) => ?_)
          refine ep_iln t78_13 rfl ?_
          refine ep_k1 (w := nI 0) t78_14 rfl ?_
          refine ep_k1 (w := nI 4) t78_15 rfl ?_
          refine ep_cs t78_16 (Nat.ne_of_beq_eq_false rfl) rfl (Nat.le_of_ble_eq_true rfl) (cl_M_inB _ (by decide) (by decide)) ?_
          refine ep_bT t78_19 (fun (c19 : (inB (nI 1) 0 4) = true) => ?_) (fun (c19 : (inB (nI 1) 0 4) = false) => (by exact absurd c19 (by decide)))
          refine ep_iln t78_24 rfl ?_
          refine ep_k1 (w := nI 2) t78_25 rfl ?_
          refine ep_ifP t78_26 (ic_le (by omega) (by omega)) (fun (c26 : 1 ≤ 2) => ?_) (fun (c26 : ¬ (1 ≤ 2)) => (by exact absurd (by omega) c26))
          refine ep_aln t78_54 rfl ?_
          refine ep_aln t78_55 rfl ?_
          refine ep_getr (q := 33) t78_56 rfl (Nat.le_of_ble_eq_true rfl) rfl (rfl) ?_
          refine ep_aln t78_59 rfl ?_
          refine ep_getr (q := 36) t78_60 rfl (Nat.le_of_ble_eq_true rfl) rfl (rfl) ?_
          refine ep_k1 (w := nI 0) t78_63 rfl ?_
          refine ep_aldN t78_64 rfl (Nat.le_of_ble_eq_true rfl) (Nat.ne_of_beq_eq_false rfl) (Nat.le_of_ble_eq_true rfl) (by omega) ?_
          refine ep_val (b := nI c) (e36 0 (by decide)) ?_
          obtain ⟨v8, g8, hm8, σa, la, rfl, rfl, a1, a2, a3⟩ := cl_M_liveBy_33 (X := X) (q := true) (σ := g_up σ 31 0 (nI 0)) (T := T) (c := c) hN.2.2 hw0 (by omega) (by omega)
          refine ep_cv t78_65 rfl rfl (Nat.le_of_ble_eq_true rfl) (Nat.le_of_ble_eq_true rfl) (hm8) ?_
          refine ep_isn (L' := [some (.ref 31), some (.int (nI u)), some (.int (nI 1)), some (.int (nI (liveM T c))), none]) t78_68 rfl (Nat.le_of_ble_eq_true rfl) ?_
          refine ep_aln t78_69 rfl ?_
          refine ep_aln t78_70 rfl ?_
          refine ep_getr (q := 33) t78_71 rfl (Nat.le_of_ble_eq_true rfl) rfl (rfl) ?_
          refine ep_aln t78_74 rfl ?_
          refine ep_getr (q := 36) t78_75 rfl (Nat.le_of_ble_eq_true rfl) rfl (rfl) ?_
          refine ep_k1 (w := nI 0) t78_78 rfl ?_
          refine ep_aldN t78_79 rfl (Nat.le_of_ble_eq_true rfl) (Nat.ne_of_beq_eq_false rfl) (Nat.le_of_ble_eq_true rfl) (by omega) ?_
          refine ep_val (b := nI c) ((congrFun (a1 36 (by decide)) 0).trans (e36 0 (by decide))) ?_
          obtain ⟨v9, g9, hm9, σb, lb, rfl, rfl, b1, b2, b3⟩ := cl_M_earthedBy_33 (X := X) (q := true) (σ := σa) (T := T) (c := c) (by rw [a1 33 (by decide)]; exact hN.2.2) hw0 (by omega)
          refine ep_cv t78_80 rfl rfl (Nat.le_of_ble_eq_true rfl) (Nat.le_of_ble_eq_true rfl) (hm9) ?_
          refine ep_is (L' := [some (.ref 31), some (.int (nI u)), some (.int (nI 1)), some (.int (nI (liveM T c))), some (.int (nI (earthM T c)))]) t78_83 rfl (Nat.le_of_ble_eq_true rfl) ?_
          refine ep_iln t78_85 rfl ?_
          refine ep_if0P t78_86 (ic0_ne (by omega)) (fun (c86 : ¬ 1 = 0) => ?_) (fun (c86 : ¬ (¬ 1 = 0)) => (by exact absurd (by omega) c86))
          refine ep_iln t78_97 rfl ?_
          refine ep_k1 (w := nI 1) t78_98 rfl ?_
          refine ep_ifP t78_99 (ic_ne (by omega) (by omega)) (fun (c99 : ¬ 1 = 1) => (by exact absurd c99 (by omega))) (fun (c99 : ¬ (¬ 1 = 1)) => ?_)
          refine ep_il t78_102 rfl ?_
          refine ep_iln t78_104 rfl ?_
          refine ep_shrN (a := earthM T c) (b := u) t78_105 (by omega) (by omega) ?_
          refine ep_k1 (w := nI 1) t78_106 rfl ?_
          refine ep_andN (a := (earthM T c) / 2 ^ u) (b := 1) t78_107 ?_
          refine ep_val (b := bI ((earthM T c).testBit u)) (by rw [Nat.and_one_is_mod, bI_bit]) ?_
          refine ep_gt t78_108 ?_
          refine ep_ri t78_117 (fun h => absurd h (by decide)) ?_
          exact ⟨_, rfl, rfl, ((hR0.thrown _).scr1 a1).scr1 b1⟩
      · cases q
        · refine Pair.of (ClP.of ⟨Nat.le_of_ble_eq_true rfl, rfl⟩ ?_)
          show EvP X 76 0 [some (.ref 0), some (.int (nI u)), some (.int (nI 2))] [] (47, g_rho false, σ) _
          refine ep_aln t76_0 rfl ?_
          refine ep_iln t76_1 rfl ?_
          refine ep_cv t76_2 rfl rfl (Nat.le_of_ble_eq_true rfl) (Nat.le_of_ble_eq_true rfl) (cl_B_isNode _ (by omega) hB0) ?_
          refine ep_bT t76_5 (fun (c5 : (inR (nI u) (T 0)) = true) => ?_) (fun (c5 : (inR (nI u) (T 0)) = false) => (by exact absurd c5 (by rw [hin]; decide)))
          refine ep_iln t76_10 rfl ?_
          refine ep_sw (t := 78) t76_11 (by decide +kernel) ?_
          refine ep_aln t76_78 rfl ?_
          refine ep_getr (q := 7) t76_79 rfl (Nat.le_of_ble_eq_true rfl) rfl (rfl) ?_
          refine ep_aln t76_82 rfl ?_
          refine ep_get t76_83 rfl (Nat.le_of_ble_eq_true rfl) rfl ?_
          refine ep_val (b := nI c) (e4) ?_
          refine ep_iln t76_86 rfl ?_
          obtain ⟨v7, g7, hb7, x, σ1, rfl, rfl, j1, x1, x2⟩ := cl_Net_lowest_7 (X := X) (q := false) (σ := σ) (T := T) (c := c) (u := u) ⟨hN.2.1.1, hN.2.1.2.1⟩ hw0 (by omega) hu
          refine ep_cv t76_87 rfl rfl (Nat.le_of_ble_eq_true rfl) (Nat.le_of_ble_eq_true rfl) (hb7) ?_
          refine ep_ri t76_90 (fun h => absurd h (by decide)) ?_
          refine ⟨_, false, _, rfl, rfl, ClP.of ⟨Nat.le_of_ble_eq_true rfl, rfl⟩ ?_⟩
          show EvP X 78 0 [some (.ref 31), some (.int (nI u)), some (.int (nI 2)), none, none] [] (47, g_rho false, σ1) _
          refine ep_aln t78_0 rfl ?_
          refine ep_k1 (w := nI 0) t78_1 rfl ?_
          refine ep_put t78_2 rfl (Nat.le_of_ble_eq_true rfl) rfl ?_
          refine ep_aln t78_5 rfl ?_
          refine ep_iln t78_6 rfl ?_
          refine ep_cv t78_7 rfl rfl (Nat.le_of_ble_eq_true rfl) (Nat.le_of_ble_eq_true rfl) (cl_M_isNode (n := T 0) _ (by omega) ((congrFun (j1 33 (by decide)) 0).trans hM0)) ?_
          refine ep_bF t78_10 (fun (c10 : (inR (nI u) (T 0)) = false) => (by exact absurd c10 (by rw [hin]; decide))) (fun (c10 : (inR (nI u) (T 0)) = true) => ?_)
          refine ep_iln t78_13 rfl ?_
          refine ep_k1 (w := nI 0) t78_14 rfl ?_
          refine ep_k1 (w := nI 4) t78_15 rfl ?_
          refine ep_cs t78_16 (Nat.ne_of_beq_eq_false rfl) rfl (Nat.le_of_ble_eq_true rfl) (cl_M_inB _ (by decide) (by decide)) ?_
          refine ep_bT t78_19 (fun (c19 : (inB (nI 2) 0 4) = true) => ?_) (fun (c19 : (inB (nI 2) 0 4) = false) => (by exact absurd c19 (by decide)))
          refine ep_iln t78_24 rfl ?_
          refine ep_k1 (w := nI 2) t78_25 rfl ?_
          refine ep_ifP t78_26 (ic_le (by omega) (by omega)) (fun (c26 : 2 ≤ 2) => ?_) (fun (c26 : ¬ (2 ≤ 2)) => (by exact absurd (by omega) c26))
          refine ep_aln t78_54 rfl ?_
          refine ep_aln t78_55 rfl ?_
          refine ep_getr (q := 33) t78_56 rfl (Nat.le_of_ble_eq_true rfl) rfl (rfl) ?_
          refine ep_aln t78_59 rfl ?_
          refine ep_getr (q := 36) t78_60 rfl (Nat.le_of_ble_eq_true rfl) rfl (rfl) ?_
          refine ep_k1 (w := nI 0) t78_63 rfl ?_
          refine ep_aldN t78_64 rfl (Nat.le_of_ble_eq_true rfl) (Nat.ne_of_beq_eq_false rfl) (Nat.le_of_ble_eq_true rfl) (by omega) ?_
          refine ep_val (b := nI c) ((congrFun (j1 36 (by decide)) 0).trans (e36 0 (by decide))) ?_
          obtain ⟨v8, g8, hm8, σa, la, rfl, rfl, a1, a2, a3⟩ := cl_M_liveBy_33 (X := X) (q := false) (σ := g_up σ1 31 0 (nI 0)) (T := T) (c := c) (by show ToldM (σ1 33) T; rw [j1 33 (by decide)]; exact hN.2.2) hw0 (by omega) (by omega)
          refine ep_cv t78_65 rfl rfl (Nat.le_of_ble_eq_true rfl) (Nat.le_of_ble_eq_true rfl) (hm8) ?_
          refine ep_isn (L' := [some (.ref 31), some (.int (nI u)), some (.int (nI 2)), some (.int (nI (liveM T c))), none]) t78_68 rfl (Nat.le_of_ble_eq_true rfl) ?_
          refine ep_aln t78_69 rfl ?_
          refine ep_aln t78_70 rfl ?_
          refine ep_getr (q := 33) t78_71 rfl (Nat.le_of_ble_eq_true rfl) rfl (rfl) ?_
          refine ep_aln t78_74 rfl ?_
          refine ep_getr (q := 36) t78_75 rfl (Nat.le_of_ble_eq_true rfl) rfl (rfl) ?_
          refine ep_k1 (w := nI 0) t78_78 rfl ?_
          refine ep_aldN t78_79 rfl (Nat.le_of_ble_eq_true rfl) (Nat.ne_of_beq_eq_false rfl) (Nat.le_of_ble_eq_true rfl) (by omega) ?_
          refine ep_val (b := nI c) ((congrFun (a1 36 (by decide)) 0).trans ((congrFun (j1 36 (by decide)) 0).trans (e36 0 (by decide)))) ?_
          obtain ⟨v9, g9, hm9, σb, lb, rfl, rfl, b1, b2, b3⟩ := cl_M_earthedBy_33 (X := X) (q := false) (σ := σa) (T := T) (c := c) (by rw [a1 33 (by decide)]; exact (by show ToldM (σ1 33) T; rw [j1 33 (by decide)]; exact hN.2.2)) hw0 (by omega)
          refine ep_cv t78_80 rfl rfl (Nat.le_of_ble_eq_true rfl) (Nat.le_of_ble_eq_true rfl) (hm9) ?_
          refine ep_is (L' := [some (.ref 31), some (.int (nI u)), some (.int (nI 2)), some (.int (nI (liveM T c))), some (.int (nI (earthM T c)))]) t78_83 rfl (Nat.le_of_ble_eq_true rfl) ?_
          refine ep_iln t78_85 rfl ?_
          refine ep_if0P t78_86 (ic0_ne (by omega)) (fun (c86 : ¬ 2 = 0) => ?_) (fun (c86 : ¬ (¬ 2 = 0)) => (by exact absurd (by omega) c86))
          refine ep_iln t78_97 rfl ?_
          refine ep_k1 (w := nI 1) t78_98 rfl ?_
          refine ep_ifP t78_99 (ic_ne (by omega) (by omega)) (fun (c99 : ¬ 2 = 1) => ?_) (fun (c99 : ¬ (¬ 2 = 1)) => (by exact absurd (by omega) c99))
          refine ep_aln t78_111 rfl ?_
          refine ep_getr (q := 43) t78_112 rfl (Nat.le_of_ble_eq_true rfl) rfl (rfl) ?_
          refine ep_iln t78_115 rfl ?_
          refine ep_aldN t78_116 rfl (Nat.le_of_ble_eq_true rfl) (Nat.ne_of_beq_eq_false rfl) (Nat.le_of_ble_eq_true rfl) (by omega) ?_
          refine ep_val (b := nI (lb u)) (b2 u hu) ?_
          refine ep_ri t78_117 (fun h => absurd h (by decide)) ?_
          have e : lb u = x := by
            have h1 := (b3 u hu).1
            have h2 := (b3 u hu).2
            rcases Nat.lt_trichotomy (lb u) x with h | h | h
            · exact absurd h1.2 (x2 _ h)
            · exact h
            · have hx0 : x < T 0 := by omega
              have := h2 x hx0 x1
              omega
          rw [e]
          exact ⟨_, rfl, rfl, (((hR0.part j1).thrown _).scr1 a1).scr1 b1⟩
        · refine Pair.of (ClP.of ⟨Nat.le_of_ble_eq_true rfl, rfl⟩ ?_)
          show EvP X 76 0 [some (.ref 0), some (.int (nI u)), some (.int (nI 2))] [] (47, g_rho true, σ) _
          refine ep_aln t76_0 rfl ?_
          refine ep_iln t76_1 rfl ?_
          refine ep_cv t76_2 rfl rfl (Nat.le_of_ble_eq_true rfl) (Nat.le_of_ble_eq_true rfl) (cl_B_isNode _ (by omega) hB0) ?_
          refine ep_bT t76_5 (fun (c5 : (inR (nI u) (T 0)) = true) => ?_) (fun (c5 : (inR (nI u) (T 0)) = false) => (by exact absurd c5 (by rw [hin]; decide)))
          refine ep_iln t76_10 rfl ?_
          refine ep_sw (t := 78) t76_11 (by decide +kernel) ?_
          refine ep_aln t76_78 rfl ?_
          refine ep_getr (q := 16) t76_79 rfl (Nat.le_of_ble_eq_true rfl) rfl (rfl) ?_
          refine ep_aln t76_82 rfl ?_
          refine ep_get t76_83 rfl (Nat.le_of_ble_eq_true rfl) rfl ?_
          refine ep_val (b := nI c) (e4) ?_
          refine ep_iln t76_86 rfl ?_
          obtain ⟨v7, g7, hb7, x, σ1, rfl, rfl, j1, x1, x2⟩ := cl_Net_lowest_16 (X := X) (q := true) (σ := σ) (T := T) (c := c) (u := u) ⟨hN.2.1.1, hN.2.1.2.1⟩ hw0 (by omega) hu
          refine ep_cv t76_87 rfl rfl (Nat.le_of_ble_eq_true rfl) (Nat.le_of_ble_eq_true rfl) (hb7) ?_
          refine ep_ri t76_90 (fun h => absurd h (by decide)) ?_
          refine ⟨_, true, _, rfl, rfl, ClP.of ⟨Nat.le_of_ble_eq_true rfl, rfl⟩ ?_⟩
          show EvP X 78 0 [some (.ref 31), some (.int (nI u)), some (.int (nI 2)), none, none] [] (47, g_rho true, σ1) _
          refine ep_aln t78_0 rfl ?_
          refine ep_k1 (w := nI 0) t78_1 rfl ?_
          refine ep_put t78_2 rfl (Nat.le_of_ble_eq_true rfl) rfl ?_
          refine ep_aln t78_5 rfl ?_
          refine ep_iln t78_6 rfl ?_
          refine ep_cv t78_7 rfl rfl (Nat.le_of_ble_eq_true rfl) (Nat.le_of_ble_eq_true rfl) (cl_M_isNode (n := T 0) _ (by omega) ((congrFun (j1 33 (by decide)) 0).trans hM0)) ?_
          refine ep_bF t78_10 (fun (c10 : (inR (nI u) (T 0)) = false) => (by exact absurd c10 (by rw [hin]; decide))) (fun (c10 : (inR (nI u) (T 0)) = true) => ?_)
          refine ep_iln t78_13 rfl ?_
          refine ep_k1 (w := nI 0) t78_14 rfl ?_
          refine ep_k1 (w := nI 4) t78_15 rfl ?_
          refine ep_cs t78_16 (Nat.ne_of_beq_eq_false rfl) rfl (Nat.le_of_ble_eq_true rfl) (cl_M_inB _ (by decide) (by decide)) ?_
          refine ep_bT t78_19 (fun (c19 : (inB (nI 2) 0 4) = true) => ?_) (fun (c19 : (inB (nI 2) 0 4) = false) => (by exact absurd c19 (by decide)))
          refine ep_iln t78_24 rfl ?_
          refine ep_k1 (w := nI 2) t78_25 rfl ?_
          refine ep_ifP t78_26 (ic_le (by omega) (by omega)) (fun (c26 : 2 ≤ 2) => ?_) (fun (c26 : ¬ (2 ≤ 2)) => (by exact absurd (by omega) c26))
          refine ep_aln t78_54 rfl ?_
          refine ep_aln t78_55 rfl ?_
          refine ep_getr (q := 33) t78_56 rfl (Nat.le_of_ble_eq_true rfl) rfl (rfl) ?_
          refine ep_aln t78_59 rfl ?_
          refine ep_getr (q := 36) t78_60 rfl (Nat.le_of_ble_eq_true rfl) rfl (rfl) ?_
          refine ep_k1 (w := nI 0) t78_63 rfl ?_
          refine ep_aldN t78_64 rfl (Nat.le_of_ble_eq_true rfl) (Nat.ne_of_beq_eq_false rfl) (Nat.le_of_ble_eq_true rfl) (by omega) ?_
          refine ep_val (b := nI c) ((congrFun (j1 36 (by decide)) 0).trans (e36 0 (by decide))) ?_
          obtain ⟨v8, g8, hm8, σa, la, rfl, rfl, a1, a2, a3⟩ := cl_M_liveBy_33 (X := X) (q := true) (σ := g_up σ1 31 0 (nI 0)) (T := T) (c := c) (by show ToldM (σ1 33) T; rw [j1 33 (by decide)]; exact hN.2.2) hw0 (by omega) (by omega)
          refine ep_cv t78_65 rfl rfl (Nat.le_of_ble_eq_true rfl) (Nat.le_of_ble_eq_true rfl) (hm8) ?_
          refine ep_isn (L' := [some (.ref 31), some (.int (nI u)), some (.int (nI 2)), some (.int (nI (liveM T c))), none]) t78_68 rfl (Nat.le_of_ble_eq_true rfl) ?_
          refine ep_aln t78_69 rfl ?_
          refine ep_aln t78_70 rfl ?_
          refine ep_getr (q := 33) t78_71 rfl (Nat.le_of_ble_eq_true rfl) rfl (rfl) ?_
          refine ep_aln t78_74 rfl ?_
          refine ep_getr (q := 36) t78_75 rfl (Nat.le_of_ble_eq_true rfl) rfl (rfl) ?_
          refine ep_k1 (w := nI 0) t78_78 rfl ?_
          refine ep_aldN t78_79 rfl (Nat.le_of_ble_eq_true rfl) (Nat.ne_of_beq_eq_false rfl) (Nat.le_of_ble_eq_true rfl) (by omega) ?_
          refine ep_val (b := nI c) ((congrFun (a1 36 (by decide)) 0).trans ((congrFun (j1 36 (by decide)) 0).trans (e36 0 (by decide)))) ?_
          obtain ⟨v9, g9, hm9, σb, lb, rfl, rfl, b1, b2, b3⟩ := cl_M_earthedBy_33 (X := X) (q := true) (σ := σa) (T := T) (c := c) (by rw [a1 33 (by decide)]; exact (by show ToldM (σ1 33) T; rw [j1 33 (by decide)]; exact hN.2.2)) hw0 (by omega)
          refine ep_cv t78_80 rfl rfl (Nat.le_of_ble_eq_true rfl) (Nat.le_of_ble_eq_true rfl) (hm9) ?_
          refine ep_is (L' := [some (.ref 31), some (.int (nI u)), some (.int (nI 2)), some (.int (nI (liveM T c))), some (.int (nI (earthM T c)))]) t78_83 rfl (Nat.le_of_ble_eq_true rfl) ?_
          refine ep_iln t78_85 rfl ?_
          refine ep_if0P t78_86 (ic0_ne (by omega)) (fun (c86 : ¬ 2 = 0) => ?_) (fun (c86 : ¬ (¬ 2 = 0)) => (by exact absurd (by omega) c86))
          refine ep_iln t78_97 rfl ?_
          refine ep_k1 (w := nI 1) t78_98 rfl ?_
          refine ep_ifP t78_99 (ic_ne (by omega) (by omega)) (fun (c99 : ¬ 2 = 1) => ?_) (fun (c99 : ¬ (¬ 2 = 1)) => (by exact absurd (by omega) c99))
          refine ep_aln t78_111 rfl ?_
          refine ep_getr (q := 43) t78_112 rfl (Nat.le_of_ble_eq_true rfl) rfl (rfl) ?_
          refine ep_iln t78_115 rfl ?_
          refine ep_aldN t78_116 rfl (Nat.le_of_ble_eq_true rfl) (Nat.ne_of_beq_eq_false rfl) (Nat.le_of_ble_eq_true rfl) (by omega) ?_
          refine ep_val (b := nI (lb u)) (b2 u hu) ?_
          refine ep_ri t78_117 (fun h => absurd h (by decide)) ?_
          have e : lb u = x := by
            have h1 := (b3 u hu).1
            have h2 := (b3 u hu).2
            rcases Nat.lt_trichotomy (lb u) x with h | h | h
            · exact absurd h1.2 (x2 _ h)
            · exact h
            · have hx0 : x < T 0 := by omega
              have := h2 x hx0 x1
              omega
          rw [e]
          exact ⟨_, rfl, rfl, (((hR0.part j1).thrown _).scr1 a1).scr1 b1⟩
      · cases q
        · refine Pair.of (ClP.of ⟨Nat.le_of_ble_eq_true rfl, rfl⟩ ?_)
          show EvP X 76 0 [some (.ref 0), some (.int (nI u)), some (.int (nI 3))] [] (47, g_rho false, σ) _
          refine ep_aln t76_0 rfl ?_
          refine ep_iln t76_1 rfl ?_
          refine ep_cv t76_2 rfl rfl (Nat.le_of_ble_eq_true rfl) (Nat.le_of_ble_eq_true rfl) (cl_B_isNode _ (by omega) hB0) ?_
          refine ep_bT t76_5 (fun (c5 : (inR (nI u) (T 0)) = true) => ?_) (fun (c5 : (inR (nI u) (T 0)) = false) => (by exact absurd c5 (by rw [hin]; decide)))
          refine ep_iln t76_10 rfl ?_
          refine ep_sw (t := 91) t76_11 (by decide +kernel) ?_
          refine ep_aln t76_91 rfl ?_
          refine ep_getr (q := 7) t76_92 rfl (Nat.le_of_ble_eq_true rfl) rfl (rfl) ?_
          refine ep_get t76_95 rfl (Nat.le_of_ble_eq_true rfl) rfl ?_
          refine ep_val (b := nI (T 1)) (hN.2.1.1 1 (by decide)) ?_
          refine ep_iln t76_98 rfl ?_
          refine ep_cs t76_99 (Nat.ne_of_beq_eq_false rfl) rfl (Nat.le_of_ble_eq_true rfl) (cl_B_bit (by omega) (by omega)) ?_
          refine ep_ri t76_102 (fun h => absurd h (by decide)) ?_
          refine ⟨_, false, _, rfl, rfl, ClP.of ⟨Nat.le_of_ble_eq_true rfl, rfl⟩ ?_⟩
          show EvP X 78 0 [some (.ref 31), some (.int (nI u)), some (.int (nI 3)), none, none] [] (47, g_rho false, σ) _
          refine ep_aln t78_0 rfl ?_
          refine ep_k1 (w := nI 0) t78_1 rfl ?_
          refine ep_put t78_2 rfl (Nat.le_of_ble_eq_true rfl) rfl ?_
          refine ep_aln t78_5 rfl ?_
          refine ep_iln t78_6 rfl ?_
          refine ep_cv t78_7 rfl rfl (Nat.le_of_ble_eq_true rfl) (Nat.le_of_ble_eq_true rfl) (cl_M_isNode _ (by omega) hM0) ?_
          refine ep_bF t78_10 (fun (c10 : (inR (nI u) (T 0)) = false) => (by exact absurd c10 (by rw [hin]; decide))) (fun (c10 : (inR (nI u) (T 0)) = true) => ?_)
          refine ep_iln t78_13 rfl ?_
          refine ep_k1 (w := nI 0) t78_14 rfl ?_
          refine ep_k1 (w := nI 4) t78_15 rfl ?_
          refine ep_cs t78_16 (Nat.ne_of_beq_eq_false rfl) rfl (Nat.le_of_ble_eq_true rfl) (cl_M_inB _ (by decide) (by decide)) ?_
          refine ep_bT t78_19 (fun (c19 : (inB (nI 3) 0 4) = true) => ?_) (fun (c19 : (inB (nI 3) 0 4) = false) => (by exact absurd c19 (by decide)))
          refine ep_iln t78_24 rfl ?_
          refine ep_k1 (w := nI 2) t78_25 rfl ?_
          refine ep_ifP t78_26 (ic_le (by omega) (by omega)) (fun (c26 : 3 ≤ 2) => (by exact absurd c26 (by omega))) (fun (c26 : ¬ (3 ≤ 2)) => ?_)
          refine ep_iln t78_29 rfl ?_
          refine ep_k1 (w := nI 3) t78_30 rfl ?_
          refine ep_ifP t78_31 (ic_ne (by omega) (by omega)) (fun (c31 : ¬ 3 = 3) => (by exact absurd c31 (by omega))) (fun (c31 : ¬ (¬ 3 = 3)) => ?_)
          refine ep_aln t78_34 rfl ?_
          refine ep_getr (q := 33) t78_35 rfl (Nat.le_of_ble_eq_true rfl) rfl (rfl) ?_
          refine ep_k1 (w := nI 1) t78_38 rfl ?_
          refine ep_aldN t78_39 rfl (Nat.le_of_ble_eq_true rfl) (Nat.ne_of_beq_eq_false rfl) (Nat.le_of_ble_eq_true rfl) (by omega) ?_
          refine ep_val (b := nI (T 1)) (hN.2.2.1 1 (by decide)) ?_
          refine ep_gt t78_40 ?_
          refine ep_iln t78_49 rfl ?_
          refine ep_shrN (a := T 1) (b := u) t78_50 (by omega) (by omega) ?_
          refine ep_k1 (w := nI 1) t78_51 rfl ?_
          refine ep_andN (a := (T 1) / 2 ^ u) (b := 1) t78_52 ?_
          refine ep_val (b := bI ((T 1).testBit u)) (by rw [Nat.and_one_is_mod, bI_bit]) ?_
          refine ep_ri t78_53 (fun h => absurd h (by decide)) ?_
          exact ⟨_, rfl, rfl, hR0.thrown _⟩
        · refine Pair.of (ClP.of ⟨Nat.le_of_ble_eq_true rfl, rfl⟩ ?_)
          show EvP X 76 0 [some (.ref 0), some (.int (nI u)), some (.int (nI 3))] [] (47, g_rho true, σ) _
          refine ep_aln t76_0 rfl ?_
          refine ep_iln t76_1 rfl ?_
          refine ep_cv t76_2 rfl rfl (Nat.le_of_ble_eq_true rfl) (Nat.le_of_ble_eq_true rfl) (cl_B_isNode _ (by omega) hB0) ?_
          refine ep_bT t76_5 (fun (c5 : (inR (nI u) (T 0)) = true) => ?_) (fun (c5 : (inR (nI u) (T 0)) = false) => (by exact absurd c5 (by rw [hin]; decide)))
          refine ep_iln t76_10 rfl ?_
          refine ep_sw (t := 91) t76_11 (by decide +kernel) ?_
          refine ep_aln t76_91 rfl ?_
          refine ep_getr (q := 16) t76_92 rfl (Nat.le_of_ble_eq_true rfl) rfl (rfl) ?_
          refine ep_get t76_95 rfl (Nat.le_of_ble_eq_true rfl) rfl ?_
          refine ep_val (b := nI (T 1)) (hN.2.1.1 1 (by decide)) ?_
          refine ep_iln t76_98 rfl ?_
          refine ep_cs t76_99 (Nat.ne_of_beq_eq_false rfl) rfl (Nat.le_of_ble_eq_true rfl) (cl_B_bit (by omega) (by omega)) ?_
          refine ep_ri t76_102 (fun h => absurd h (by decide)) ?_
          refine ⟨_, true, _, rfl, rfl, ClP.of ⟨Nat.le_of_ble_eq_true rfl, rfl⟩ ?_⟩
          show EvP X 78 0 [some (.ref 31), some (.int (nI u)), some (.int (nI 3)), none, none] [] (47, g_rho true, σ) _
          refine ep_aln t78_0 rfl ?_
          refine ep_k1 (w := nI 0) t78_1 rfl ?_
          refine ep_put t78_2 rfl (Nat.le_of_ble_eq_true rfl) rfl ?_
          refine ep_aln t78_5 rfl ?_
          refine ep_iln t78_6 rfl ?_
          refine ep_cv t78_7 rfl rfl (Nat.le_of_ble_eq_true rfl) (Nat.le_of_ble_eq_true rfl) (cl_M_isNode _ (by omega) hM0) ?_
          refine ep_bF t78_10 (fun (c10 : (inR (nI u) (T 0)) = false) => (by exact absurd c10 (by rw [hin]; decide))) (fun (c10 : (inR (nI u) (T 0)) = true) => ?_)
          refine ep_iln t78_13 rfl ?_
          refine ep_k1 (w := nI 0) t78_14 rfl ?_
          refine ep_k1 (w := nI 4) t78_15 rfl ?_
          refine ep_cs t78_16 (Nat.ne_of_beq_eq_false rfl) rfl (Nat.le_of_ble_eq_true rfl) (cl_M_inB _ (by decide) (by decide)) ?_
          refine ep_bT t78_19 (fun (c19 : (inB (nI 3) 0 4) = true) => ?_) (fun (c19 : (inB (nI 3) 0 4) = false) => (by exact absurd c19 (by decide)))
          refine ep_iln t78_24 rfl ?_
          refine ep_k1 (w := nI 2) t78_25 rfl ?_
          refine ep_ifP t78_26 (ic_le (by omega) (by omega)) (fun (c26 : 3 ≤ 2) => (by exact absurd c26 (by omega))) (fun (c26 : ¬ (3 ≤ 2)) => ?_)
          refine ep_iln t78_29 rfl ?_
          refine ep_k1 (w := nI 3) t78_30 rfl ?_
          refine ep_ifP t78_31 (ic_ne (by omega) (by omega)) (fun (c31 : ¬ 3 = 3) => (by exact absurd c31 (by omega))) (fun (c31 : ¬ (¬ 3 = 3)) => ?_)
          refine ep_aln t78_34 rfl ?_
          refine ep_getr (q := 33) t78_35 rfl (Nat.le_of_ble_eq_true rfl) rfl (rfl) ?_
          refine ep_k1 (w := nI 1) t78_38 rfl ?_
          refine ep_aldN t78_39 rfl (Nat.le_of_ble_eq_true rfl) (Nat.ne_of_beq_eq_false rfl) (Nat.le_of_ble_eq_true rfl) (by omega) ?_
          refine ep_val (b := nI (T 1)) (hN.2.2.1 1 (by decide)) ?_
          refine ep_gt t78_40 ?_
          refine ep_iln t78_49 rfl ?_
          refine ep_shrN (a := T 1) (b := u) t78_50 (by omega) (by omega) ?_
          refine ep_k1 (w := nI 1) t78_51 rfl ?_
          refine ep_andN (a := (T 1) / 2 ^ u) (b := 1) t78_52 ?_
          refine ep_val (b := bI ((T 1).testBit u)) (by rw [Nat.and_one_is_mod, bI_bit]) ?_
          refine ep_ri t78_53 (fun h => absurd h (by decide)) ?_
          exact ⟨_, rfl, rfl, hR0.thrown _⟩
      · cases q
        · refine Pair.of (ClP.of ⟨Nat.le_of_ble_eq_true rfl, rfl⟩ ?_)
          show EvP X 76 0 [some (.ref 0), some (.int (nI u)), some (.int (nI 4))] [] (47, g_rho false, σ) _
          refine ep_aln t76_0 rfl ?_
          refine ep_iln t76_1 rfl ?_
          refine ep_cv t76_2 rfl rfl (Nat.le_of_ble_eq_true rfl) (Nat.le_of_ble_eq_true rfl) (cl_B_isNode _ (by omega) hB0) ?_
          refine ep_bT t76_5 (fun (c5 : (inR (nI u) (T 0)) = true) => ?_) (fun (c5 : (inR (nI u) (T 0)) = false) => (by exact absurd c5 (by rw [hin]; decide)))
          refine ep_iln t76_10 rfl ?_
          refine ep_sw (t := 103) t76_11 (by decide +kernel) ?_
          refine ep_aln t76_103 rfl ?_
          refine ep_getr (q := 7) t76_104 rfl (Nat.le_of_ble_eq_true rfl) rfl (rfl) ?_
          refine ep_get t76_107 rfl (Nat.le_of_ble_eq_true rfl) rfl ?_
          refine ep_val (b := nI (T 2)) (hN.2.1.1 2 (by decide)) ?_
          refine ep_iln t76_110 rfl ?_
          refine ep_cs t76_111 (Nat.ne_of_beq_eq_false rfl) rfl (Nat.le_of_ble_eq_true rfl) (cl_B_bit (by omega) (by omega)) ?_
          refine ep_ri t76_114 (fun h => absurd h (by decide)) ?_
          refine ⟨_, false, _, rfl, rfl, ClP.of ⟨Nat.le_of_ble_eq_true rfl, rfl⟩ ?_⟩
          show EvP X 78 0 [some (.ref 31), some (.int (nI u)), some (.int (nI 4)), none, none] [] (47, g_rho false, σ) _
          refine ep_aln t78_0 rfl ?_
          refine ep_k1 (w := nI 0) t78_1 rfl ?_
          refine ep_put t78_2 rfl (Nat.le_of_ble_eq_true rfl) rfl ?_
          refine ep_aln t78_5 rfl ?_
          refine ep_iln t78_6 rfl ?_
          refine ep_cv t78_7 rfl rfl (Nat.le_of_ble_eq_true rfl) (Nat.le_of_ble_eq_true rfl) (cl_M_isNode _ (by omega) hM0) ?_
          refine ep_bF t78_10 (fun (c10 : (inR (nI u) (T 0)) = false) => (by exact absurd c10 (by rw [hin]; decide))) (fun (c10 : (inR (nI u) (T 0)) = true) => ?_)
          refine ep_iln t78_13 rfl ?_
          refine ep_k1 (w := nI 0) t78_14 rfl ?_
          refine ep_k1 (w := nI 4) t78_15 rfl ?_
          refine ep_cs t78_16 (Nat.ne_of_beq_eq_false rfl) rfl (Nat.le_of_ble_eq_true rfl) (cl_M_inB _ (by decide) (by decide)) ?_
          refine ep_bT t78_19 (fun (c19 : (inB (nI 4) 0 4) = true) => ?_) (fun (c19 : (inB (nI 4) 0 4) = false) => (by exact absurd c19 (by decide)))
          refine ep_iln t78_24 rfl ?_
          refine ep_k1 (w := nI 2) t78_25 rfl ?_
          refine ep_ifP t78_26 (ic_le (by omega) (by omega)) (fun (c26 : 4 ≤ 2) => (by exact absurd c26 (by omega))) (fun (c26 : ¬ (4 ≤ 2)) => ?_)
          refine ep_iln t78_29 rfl ?_
          refine ep_k1 (w := nI 3) t78_30 rfl ?_
          refine ep_ifP t78_31 (ic_ne (by omega) (by omega)) (fun (c31 : ¬ 4 = 3) => ?_) (fun (c31 : ¬ (¬ 4 = 3)) => (by exact absurd (by omega) c31))
          refine ep_aln t78_43 rfl ?_
          refine ep_getr (q := 33) t78_44 rfl (Nat.le_of_ble_eq_true rfl) rfl (rfl) ?_
          refine ep_k1 (w := nI 2) t78_47 rfl ?_
          refine ep_aldN t78_48 rfl (Nat.le_of_ble_eq_true rfl) (Nat.ne_of_beq_eq_false rfl) (Nat.le_of_ble_eq_true rfl) (by omega) ?_
          refine ep_val (b := nI (T 2)) (hN.2.2.1 2 (by decide)) ?_
          refine ep_iln t78_49 rfl ?_
          refine ep_shrN (a := T 2) (b := u) t78_50 (by omega) (by omega) ?_
          refine ep_k1 (w := nI 1) t78_51 rfl ?_
          refine ep_andN (a := (T 2) / 2 ^ u) (b := 1) t78_52 ?_
          refine ep_val (b := bI ((T 2).testBit u)) (by rw [Nat.and_one_is_mod, bI_bit]) ?_
          refine ep_ri t78_53 (fun h => absurd h (by decide)) ?_
          exact ⟨_, rfl, rfl, hR0.thrown _⟩
        · refine Pair.of (ClP.of ⟨Nat.le_of_ble_eq_true rfl, rfl⟩ ?_)
          show EvP X 76 0 [some (.ref 0), some (.int (nI u)), some (.int (nI 4))] [] (47, g_rho true, σ) _
          refine ep_aln t76_0 rfl ?_
          refine ep_iln t76_1 rfl ?_
          refine ep_cv t76_2 rfl rfl (Nat.le_of_ble_eq_true rfl) (Nat.le_of_ble_eq_true rfl) (cl_B_isNode _ (by omega) hB0) ?_
          refine ep_bT t76_5 (fun (c5 : (inR (nI u) (T 0)) = true) => ?_) (fun (c5 : (inR (nI u) (T 0)) = false) => (by exact absurd c5 (by rw [hin]; decide)))
          refine ep_iln t76_10 rfl ?_
          refine ep_sw (t := 103) t76_11 (by decide +kernel) ?_
          refine ep_aln t76_103 rfl ?_
          refine ep_getr (q := 16) t76_104 rfl (Nat.le_of_ble_eq_true rfl) rfl (rfl) ?_
          refine ep_get t76_107 rfl (Nat.le_of_ble_eq_true rfl) rfl ?_
          refine ep_val (b := nI (T 2)) (hN.2.1.1 2 (by decide)) ?_
          refine ep_iln t76_110 rfl ?_
          refine ep_cs t76_111 (Nat.ne_of_beq_eq_false rfl) rfl (Nat.le_of_ble_eq_true rfl) (cl_B_bit (by omega) (by omega)) ?_
          refine ep_ri t76_114 (fun h => absurd h (by decide)) ?_
          refine ⟨_, true, _, rfl, rfl, ClP.of ⟨Nat.le_of_ble_eq_true rfl, rfl⟩ ?_⟩
          show EvP X 78 0 [some (.ref 31), some (.int (nI u)), some (.int (nI 4)), none, none] [] (47, g_rho true, σ) _
          refine ep_aln t78_0 rfl ?_
          refine ep_k1 (w := nI 0) t78_1 rfl ?_
          refine ep_put t78_2 rfl (Nat.le_of_ble_eq_true rfl) rfl ?_
          refine ep_aln t78_5 rfl ?_
          refine ep_iln t78_6 rfl ?_
          refine ep_cv t78_7 rfl rfl (Nat.le_of_ble_eq_true rfl) (Nat.le_of_ble_eq_true rfl) (cl_M_isNode _ (by omega) hM0) ?_
          refine ep_bF t78_10 (fun (c10 : (inR (nI u) (T 0)) = false) => (by exact absurd c10 (by rw [hin]; decide))) (fun (c10 : (inR (nI u) (T 0)) = true) => ?_)
          refine ep_iln t78_13 rfl ?_
          refine ep_k1 (w := nI 0) t78_14 rfl ?_
          refine ep_k1 (w := nI 4) t78_15 rfl ?_
          refine ep_cs t78_16 (Nat.ne_of_beq_eq_false rfl) rfl (Nat.le_of_ble_eq_true rfl) (cl_M_inB _ (by decide) (by decide)) ?_
          refine ep_bT t78_19 (fun (c19 : (inB (nI 4) 0 4) = true) => ?_) (fun (c19 : (inB (nI 4) 0 4) = false) => (by exact absurd c19 (by decide)))
          refine ep_iln t78_24 rfl ?_
          refine ep_k1 (w := nI 2) t78_25 rfl ?_
          refine ep_ifP t78_26 (ic_le (by omega) (by omega)) (fun (c26 : 4 ≤ 2) => (by exact absurd c26 (by omega))) (fun (c26 : ¬ (4 ≤ 2)) => ?_)
          refine ep_iln t78_29 rfl ?_
          refine ep_k1 (w := nI 3) t78_30 rfl ?_
          refine ep_ifP t78_31 (ic_ne (by omega) (by omega)) (fun (c31 : ¬ 4 = 3) => ?_) (fun (c31 : ¬ (¬ 4 = 3)) => (by exact absurd (by omega) c31))
          refine ep_aln t78_43 rfl ?_
          refine ep_getr (q := 33) t78_44 rfl (Nat.le_of_ble_eq_true rfl) rfl (rfl) ?_
          refine ep_k1 (w := nI 2) t78_47 rfl ?_
          refine ep_aldN t78_48 rfl (Nat.le_of_ble_eq_true rfl) (Nat.ne_of_beq_eq_false rfl) (Nat.le_of_ble_eq_true rfl) (by omega) ?_
          refine ep_val (b := nI (T 2)) (hN.2.2.1 2 (by decide)) ?_
          refine ep_iln t78_49 rfl ?_
          refine ep_shrN (a := T 2) (b := u) t78_50 (by omega) (by omega) ?_
          refine ep_k1 (w := nI 1) t78_51 rfl ?_
          refine ep_andN (a := (T 2) / 2 ^ u) (b := 1) t78_52 ?_
          refine ep_val (b := bI ((T 2).testBit u)) (by rw [Nat.and_one_is_mod, bI_bit]) ?_
          refine ep_ri t78_53 (fun h => absurd h (by decide)) ?_
          exact ⟨_, rfl, rfl, hR0.thrown _⟩
