/-! Pair now. -/
theorem pr_now {X : gX} {q : Bool} {σ : gT1} (hR : Rel q σ) (a : Int32) : Pair X 86 93 [.int a] q σ := by
  have hR0 := hR
  obtain ⟨T, c, l, pr, hN, hW, hT, hO, hU, hI, hS⟩ := hR
  obtain ⟨⟨hwf0, hwf1⟩, ⟨hwf2, hwf3⟩, hwf4, hwf5, hwf6⟩ := hN.1
  have hB3 : σ (np q) 3 = nI (T 3) := hN.2.1.1 3 (by decide)
  have hB0 : σ (np q) 0 = nI (T 0) := hN.2.1.1 0 (by decide)
  have hM3 : σ 33 3 = nI (T 3) := hN.2.2.1 3 (by decide)
  have hM0 : σ 33 0 = nI (T 0) := hN.2.2.1 0 (by decide)
  obtain ⟨hsn, e4, e5, e25, e36⟩ := id hW
  obtain ⟨hc, hl, hp0, hp1, hp2⟩ := hsn.lt hwf4
  have hw0 := hN.1.w0
  have hx2 := pow_le_256 hwf4
  have hx3 : (2 : Nat) ^ T 0 ≤ 256 := pow_le_256 (by omega)
  have h31 : T 1 < 2147483648 := by omega
  have h32 : T 2 < 2147483648 := by omega
  have hl31 : l < 2147483648 := by omega
  have hpp := Nat.two_pow_pos (T 3)
  have hp : np q = 7 ∨ np q = 16 := by cases q <;> decide
  have hpr := hsn.2.2.2
  have ep2 : ∀ i, i < 3 → σ 36 (2 + i) = nI (pr i) := fun i hi => (e36 (2 + i) (by omega)).trans (by rw [Nat.add_comm 2 i]; rfl)
  obtain ⟨nu, hnu, hu1, hu2, hu3⟩ := id hU
  have hlv := live_lt hwf1 c
  have hea := earth_lt hwf1 c
  cases hib : inB a 0 8 with
  | false =>
    refine Pair.one (v := -1) hR0 ?_ (fun σ1 h1 => ?_)
    · cases q
      · refine ClP.of ⟨Nat.le_of_ble_eq_true rfl, rfl⟩ ?_
        show EvP X 86 0 [some (.ref 0), some (.int a)] [] (47, g_rho false, σ) _
        refine ep_iln t86_0 rfl ?_
        refine ep_sw (t := 136) t86_1 (tgt_out (inB_F (x := 0) (y := 8) hib)) ?_
        refine ep_k1 (w := (-1)) t86_136 rfl ?_
        refine ep_ri t86_137 (fun h => absurd h (by decide)) ?_
        exact ⟨σ, rfl, rfl, fun _ _ _ => rfl⟩
      · refine ClP.of ⟨Nat.le_of_ble_eq_true rfl, rfl⟩ ?_
        show EvP X 86 0 [some (.ref 0), some (.int a)] [] (47, g_rho true, σ) _
        refine ep_iln t86_0 rfl ?_
        refine ep_sw (t := 136) t86_1 (tgt_out (inB_F (x := 0) (y := 8) hib)) ?_
        refine ep_k1 (w := (-1)) t86_136 rfl ?_
        refine ep_ri t86_137 (fun h => absurd h (by decide)) ?_
        exact ⟨σ, rfl, rfl, fun _ _ _ => rfl⟩
    · have r : ∀ p, (p < 7 ∨ 30 < p) → σ1 p = σ p := fun p hp2 => h1 p (by omega) (by omega)
      refine ClP.of ⟨Nat.le_of_ble_eq_true rfl, rfl⟩ ?_
      show EvP X 93 0 [some (.ref 31), some (.int a), none] [] (47, g_rho q, σ1) _
      refine ep_aln t93_0 rfl ?_
      refine ep_k1 (w := nI 0) t93_1 rfl ?_
      refine ep_put t93_2 rfl (Nat.le_of_ble_eq_true rfl) rfl ?_
      refine ep_iln t93_5 rfl ?_
      refine ep_k1 (w := nI 0) t93_6 rfl ?_
      refine ep_k2 (w := nI 8) t93_7 rfl ?_
      refine ep_cs t93_9 (Nat.ne_of_beq_eq_false rfl) rfl (Nat.le_of_ble_eq_true rfl) (cl_M_inB _ (by decide) (by decide)) ?_
      refine ep_bT t93_12 (fun (c12 : (inB a 0 8) = true) => (by exact absurd c12 (by rw [hib]; decide))) (fun (c12 : (inB a 0 8) = false) => ?_)
      refine ep_k1 (w := (-1)) t93_15 rfl ?_
      refine ep_ri t93_16 (fun h => absurd h (by decide)) ?_
      exact ⟨g_up σ1 31 0 (nI 0), rfl, rfl, fun p a _ _ _ _ => g_up_ne a, fun k hk => g_up_j hk⟩
  | true =>
    obtain ⟨t, ⟨-, ht⟩, rfl⟩ := inB_of hib
    clear hib
    obtain rfl | rfl | rfl | rfl | rfl | rfl | rfl | rfl | rfl := (by omega : t = 0 ∨ t = 1 ∨ t = 2 ∨ t = 3 ∨ t = 4 ∨ t = 5 ∨ t = 6 ∨ t = 7 ∨ t = 8)
    · refine Pair.one (v := nI c) hR0 ?_ (fun σ1 h1 => ?_)
      · cases q
        · refine ClP.of ⟨Nat.le_of_ble_eq_true rfl, rfl⟩ ?_
          show EvP X 86 0 [some (.ref 0), some (.int (nI 0))] [] (47, g_rho false, σ) _
          refine ep_iln t86_0 rfl ?_
          refine ep_sw (t := 52) t86_1 (by decide +kernel) ?_
          refine ep_aln t86_52 rfl ?_
          refine ep_get t86_53 rfl (Nat.le_of_ble_eq_true rfl) rfl ?_
          refine ep_val (b := nI c) (e4) ?_
          refine ep_ri t86_56 (fun h => absurd h (by decide)) ?_
          exact ⟨σ, rfl, rfl, fun _ _ _ => rfl⟩
        · refine ClP.of ⟨Nat.le_of_ble_eq_true rfl, rfl⟩ ?_
          show EvP X 86 0 [some (.ref 0), some (.int (nI 0))] [] (47, g_rho true, σ) _
          refine ep_iln t86_0 rfl ?_
          refine ep_sw (t := 52) t86_1 (by decide +kernel) ?_
          refine ep_aln t86_52 rfl ?_
          refine ep_get t86_53 rfl (Nat.le_of_ble_eq_true rfl) rfl ?_
          refine ep_val (b := nI c) (e4) ?_
          refine ep_ri t86_56 (fun h => absurd h (by decide)) ?_
          exact ⟨σ, rfl, rfl, fun _ _ _ => rfl⟩
      · have r : ∀ p, (p < 7 ∨ 30 < p) → σ1 p = σ p := fun p hp2 => h1 p (by omega) (by omega)
        refine ClP.of ⟨Nat.le_of_ble_eq_true rfl, rfl⟩ ?_
        show EvP X 93 0 [some (.ref 31), some (.int (nI 0)), none] [] (47, g_rho q, σ1) _
        refine ep_aln t93_0 rfl ?_
        refine ep_k1 (w := nI 0) t93_1 rfl ?_
        refine ep_put t93_2 rfl (Nat.le_of_ble_eq_true rfl) rfl ?_
        refine ep_iln t93_5 rfl ?_
        refine ep_k1 (w := nI 0) t93_6 rfl ?_
        refine ep_k2 (w := nI 8) t93_7 rfl ?_
        refine ep_cs t93_9 (Nat.ne_of_beq_eq_false rfl) rfl (Nat.le_of_ble_eq_true rfl) (cl_M_inB _ (by decide) (by decide)) ?_
        refine ep_bT t93_12 (fun (c12 : (inB (nI 0) 0 8) = true) => ?_) (fun (c12 : (inB (nI 0) 0 8) = false) => (by exact absurd c12 (by decide)))
        refine ep_iln t93_17 rfl ?_
        refine ep_k1 (w := nI 4) t93_18 rfl ?_
        refine ep_ifP t93_19 (ic_ge (by omega) (by omega)) (fun (c19 : 4 ≤ 0) => (by omega)) (fun (c19 : ¬ (4 ≤ 0)) => ?_)
        refine ep_aln t93_22 rfl ?_
        refine ep_aln t93_23 rfl ?_
        refine ep_getr (q := 33) t93_24 rfl (Nat.le_of_ble_eq_true rfl) rfl (rfl) ?_
        refine ep_aln t93_27 rfl ?_
        refine ep_getr (q := 36) t93_28 rfl (Nat.le_of_ble_eq_true rfl) rfl (rfl) ?_
        refine ep_k1 (w := nI 0) t93_31 rfl ?_
        refine ep_aldN t93_32 rfl (Nat.le_of_ble_eq_true rfl) (Nat.ne_of_beq_eq_false rfl) (Nat.le_of_ble_eq_true rfl) (by omega) ?_
        refine ep_val (b := nI c) ((congrFun (r 36 (by decide)) 0).trans (e36 0 (by decide))) ?_
        obtain ⟨v8, g8, hm8, σa, la, rfl, rfl, a1, -, -⟩ := cl_M_liveBy_33 (X := X) (q := q) (σ := g_up σ1 31 0 (nI 0)) (T := T) (c := c) (by show ToldM (σ1 33) T; rw [r 33 (by decide)]; exact hN.2.2) hw0 (by omega) (by omega)
        refine ep_cv t93_33 rfl rfl (Nat.le_of_ble_eq_true rfl) (Nat.le_of_ble_eq_true rfl) (hm8) ?_
        refine ep_isn (L' := [some (.ref 31), some (.int (nI 0)), some (.int (nI (liveM T c)))]) t93_36 rfl (Nat.le_of_ble_eq_true rfl) ?_
        refine ep_iln t93_37 rfl ?_
        refine ep_if0P t93_38 (ic0_ne (by omega)) (fun (c38 : ¬ 0 = 0) => (by omega)) (fun (c38 : ¬ (¬ 0 = 0)) => ?_)
        refine ep_aln t93_41 rfl ?_
        refine ep_getr (q := 36) t93_42 rfl (Nat.le_of_ble_eq_true rfl) rfl (rfl) ?_
        refine ep_k1 (w := nI 0) t93_45 rfl ?_
        refine ep_aldN t93_46 rfl (Nat.le_of_ble_eq_true rfl) (Nat.ne_of_beq_eq_false rfl) (Nat.le_of_ble_eq_true rfl) (by omega) ?_
        refine ep_val (b := nI c) ((congrFun (a1 36 (by decide)) 0).trans ((congrFun (r 36 (by decide)) 0).trans (e36 0 (by decide)))) ?_
        refine ep_gt t93_47 ?_
        refine ep_ri t93_89 (fun h => absurd h (by decide)) ?_
        exact ⟨σa, rfl, rfl, fun p a b _ _ _ => (a1 p b).trans (g_up_ne a), fun k hk => (congrFun (a1 31 (by decide)) k).trans (g_up_j hk)⟩
    · refine Pair.one (v := nI (liveM T c)) hR0 ?_ (fun σ1 h1 => ?_)
      · cases q
        · refine ClP.of ⟨Nat.le_of_ble_eq_true rfl, rfl⟩ ?_
          show EvP X 86 0 [some (.ref 0), some (.int (nI 1))] [] (47, g_rho false, σ) _
          refine ep_iln t86_0 rfl ?_
          refine ep_sw (t := 57) t86_1 (by decide +kernel) ?_
          refine ep_aln t86_57 rfl ?_
          refine ep_getr (q := 7) t86_58 rfl (Nat.le_of_ble_eq_true rfl) rfl (rfl) ?_
          refine ep_getr (q := 12) t86_61 rfl (Nat.le_of_ble_eq_true rfl) rfl (rfl) ?_
          refine ep_aln t86_64 rfl ?_
          refine ep_get t86_65 rfl (Nat.le_of_ble_eq_true rfl) rfl ?_
          refine ep_val (b := nI c) (e4) ?_
          refine ep_aldN t86_68 rfl (Nat.le_of_ble_eq_true rfl) (Nat.ne_of_beq_eq_false rfl) (Nat.le_of_ble_eq_true rfl) (by omega) ?_
          refine ep_val (b := nI (liveM T c)) ((hN.2.1.2.2 c hsn.1).1) ?_
          refine ep_ri t86_69 (fun h => absurd h (by decide)) ?_
          exact ⟨σ, rfl, rfl, fun _ _ _ => rfl⟩
        · refine ClP.of ⟨Nat.le_of_ble_eq_true rfl, rfl⟩ ?_
          show EvP X 86 0 [some (.ref 0), some (.int (nI 1))] [] (47, g_rho true, σ) _
          refine ep_iln t86_0 rfl ?_
          refine ep_sw (t := 57) t86_1 (by decide +kernel) ?_
          refine ep_aln t86_57 rfl ?_
          refine ep_getr (q := 16) t86_58 rfl (Nat.le_of_ble_eq_true rfl) rfl (rfl) ?_
          refine ep_getr (q := 21) t86_61 rfl (Nat.le_of_ble_eq_true rfl) rfl (rfl) ?_
          refine ep_aln t86_64 rfl ?_
          refine ep_get t86_65 rfl (Nat.le_of_ble_eq_true rfl) rfl ?_
          refine ep_val (b := nI c) (e4) ?_
          refine ep_aldN t86_68 rfl (Nat.le_of_ble_eq_true rfl) (Nat.ne_of_beq_eq_false rfl) (Nat.le_of_ble_eq_true rfl) (by omega) ?_
          refine ep_val (b := nI (liveM T c)) ((hN.2.1.2.2 c hsn.1).1) ?_
          refine ep_ri t86_69 (fun h => absurd h (by decide)) ?_
          exact ⟨σ, rfl, rfl, fun _ _ _ => rfl⟩
      · have r : ∀ p, (p < 7 ∨ 30 < p) → σ1 p = σ p := fun p hp2 => h1 p (by omega) (by omega)
        refine ClP.of ⟨Nat.le_of_ble_eq_true rfl, rfl⟩ ?_
        show EvP X 93 0 [some (.ref 31), some (.int (nI 1)), none] [] (47, g_rho q, σ1) _
        refine ep_aln t93_0 rfl ?_
        refine ep_k1 (w := nI 0) t93_1 rfl ?_
        refine ep_put t93_2 rfl (Nat.le_of_ble_eq_true rfl) rfl ?_
        refine ep_iln t93_5 rfl ?_
        refine ep_k1 (w := nI 0) t93_6 rfl ?_
        refine ep_k2 (w := nI 8) t93_7 rfl ?_
        refine ep_cs t93_9 (Nat.ne_of_beq_eq_false rfl) rfl (Nat.le_of_ble_eq_true rfl) (cl_M_inB _ (by decide) (by decide)) ?_
        refine ep_bT t93_12 (fun (c12 : (inB (nI 1) 0 8) = true) => ?_) (fun (c12 : (inB (nI 1) 0 8) = false) => (by exact absurd c12 (by decide)))
        refine ep_iln t93_17 rfl ?_
        refine ep_k1 (w := nI 4) t93_18 rfl ?_
        refine ep_ifP t93_19 (ic_ge (by omega) (by omega)) (fun (c19 : 4 ≤ 1) => (by omega)) (fun (c19 : ¬ (4 ≤ 1)) => ?_)
        refine ep_aln t93_22 rfl ?_
        refine ep_aln t93_23 rfl ?_
        refine ep_getr (q := 33) t93_24 rfl (Nat.le_of_ble_eq_true rfl) rfl (rfl) ?_
        refine ep_aln t93_27 rfl ?_
        refine ep_getr (q := 36) t93_28 rfl (Nat.le_of_ble_eq_true rfl) rfl (rfl) ?_
        refine ep_k1 (w := nI 0) t93_31 rfl ?_
        refine ep_aldN t93_32 rfl (Nat.le_of_ble_eq_true rfl) (Nat.ne_of_beq_eq_false rfl) (Nat.le_of_ble_eq_true rfl) (by omega) ?_
        refine ep_val (b := nI c) ((congrFun (r 36 (by decide)) 0).trans (e36 0 (by decide))) ?_
        obtain ⟨v8, g8, hm8, σa, la, rfl, rfl, a1, -, -⟩ := cl_M_liveBy_33 (X := X) (q := q) (σ := g_up σ1 31 0 (nI 0)) (T := T) (c := c) (by show ToldM (σ1 33) T; rw [r 33 (by decide)]; exact hN.2.2) hw0 (by omega) (by omega)
        refine ep_cv t93_33 rfl rfl (Nat.le_of_ble_eq_true rfl) (Nat.le_of_ble_eq_true rfl) (hm8) ?_
        refine ep_isn (L' := [some (.ref 31), some (.int (nI 1)), some (.int (nI (liveM T c)))]) t93_36 rfl (Nat.le_of_ble_eq_true rfl) ?_
        refine ep_iln t93_37 rfl ?_
        refine ep_if0P t93_38 (ic0_ne (by omega)) (fun (c38 : ¬ 1 = 0) => ?_) (fun (c38 : ¬ (¬ 1 = 0)) => (by omega))
        refine ep_iln t93_50 rfl ?_
        refine ep_k1 (w := nI 1) t93_51 rfl ?_
        refine ep_ifP t93_52 (ic_ne (by omega) (by omega)) (fun (c52 : ¬ 1 = 1) => (by omega)) (fun (c52 : ¬ (¬ 1 = 1)) => ?_)
        refine ep_iln t93_55 rfl ?_
        refine ep_gt t93_56 ?_
        refine ep_ri t93_89 (fun h => absurd h (by decide)) ?_
        exact ⟨σa, rfl, rfl, fun p a b _ _ _ => (a1 p b).trans (g_up_ne a), fun k hk => (congrFun (a1 31 (by decide)) k).trans (g_up_j hk)⟩
    · refine Pair.one (v := nI (earthM T c)) hR0 ?_ (fun σ1 h1 => ?_)
      · cases q
        · refine ClP.of ⟨Nat.le_of_ble_eq_true rfl, rfl⟩ ?_
          show EvP X 86 0 [some (.ref 0), some (.int (nI 2))] [] (47, g_rho false, σ) _
          refine ep_iln t86_0 rfl ?_
          refine ep_sw (t := 70) t86_1 (by decide +kernel) ?_
          refine ep_aln t86_70 rfl ?_
          refine ep_getr (q := 7) t86_71 rfl (Nat.le_of_ble_eq_true rfl) rfl (rfl) ?_
          refine ep_getr (q := 13) t86_74 rfl (Nat.le_of_ble_eq_true rfl) rfl (rfl) ?_
          refine ep_aln t86_77 rfl ?_
          refine ep_get t86_78 rfl (Nat.le_of_ble_eq_true rfl) rfl ?_
          refine ep_val (b := nI c) (e4) ?_
          refine ep_aldN t86_81 rfl (Nat.le_of_ble_eq_true rfl) (Nat.ne_of_beq_eq_false rfl) (Nat.le_of_ble_eq_true rfl) (by omega) ?_
          refine ep_val (b := nI (earthM T c)) ((hN.2.1.2.2 c hsn.1).2.1) ?_
          refine ep_ri t86_82 (fun h => absurd h (by decide)) ?_
          exact ⟨σ, rfl, rfl, fun _ _ _ => rfl⟩
        · refine ClP.of ⟨Nat.le_of_ble_eq_true rfl, rfl⟩ ?_
          show EvP X 86 0 [some (.ref 0), some (.int (nI 2))] [] (47, g_rho true, σ) _
          refine ep_iln t86_0 rfl ?_
          refine ep_sw (t := 70) t86_1 (by decide +kernel) ?_
          refine ep_aln t86_70 rfl ?_
          refine ep_getr (q := 16) t86_71 rfl (Nat.le_of_ble_eq_true rfl) rfl (rfl) ?_
          refine ep_getr (q := 22) t86_74 rfl (Nat.le_of_ble_eq_true rfl) rfl (rfl) ?_
          refine ep_aln t86_77 rfl ?_
          refine ep_get t86_78 rfl (Nat.le_of_ble_eq_true rfl) rfl ?_
          refine ep_val (b := nI c) (e4) ?_
          refine ep_aldN t86_81 rfl (Nat.le_of_ble_eq_true rfl) (Nat.ne_of_beq_eq_false rfl) (Nat.le_of_ble_eq_true rfl) (by omega) ?_
          refine ep_val (b := nI (earthM T c)) ((hN.2.1.2.2 c hsn.1).2.1) ?_
          refine ep_ri t86_82 (fun h => absurd h (by decide)) ?_
          exact ⟨σ, rfl, rfl, fun _ _ _ => rfl⟩
      · have r : ∀ p, (p < 7 ∨ 30 < p) → σ1 p = σ p := fun p hp2 => h1 p (by omega) (by omega)
        refine ClP.of ⟨Nat.le_of_ble_eq_true rfl, rfl⟩ ?_
        show EvP X 93 0 [some (.ref 31), some (.int (nI 2)), none] [] (47, g_rho q, σ1) _
        refine ep_aln t93_0 rfl ?_
        refine ep_k1 (w := nI 0) t93_1 rfl ?_
        refine ep_put t93_2 rfl (Nat.le_of_ble_eq_true rfl) rfl ?_
        refine ep_iln t93_5 rfl ?_
        refine ep_k1 (w := nI 0) t93_6 rfl ?_
        refine ep_k2 (w := nI 8) t93_7 rfl ?_
        refine ep_cs t93_9 (Nat.ne_of_beq_eq_false rfl) rfl (Nat.le_of_ble_eq_true rfl) (cl_M_inB _ (by decide) (by decide)) ?_
        refine ep_bT t93_12 (fun (c12 : (inB (nI 2) 0 8) = true) => ?_) (fun (c12 : (inB (nI 2) 0 8) = false) => (by exact absurd c12 (by decide)))
        refine ep_iln t93_17 rfl ?_
        refine ep_k1 (w := nI 4) t93_18 rfl ?_
        refine ep_ifP t93_19 (ic_ge (by omega) (by omega)) (fun (c19 : 4 ≤ 2) => (by omega)) (fun (c19 : ¬ (4 ≤ 2)) => ?_)
        refine ep_aln t93_22 rfl ?_
        refine ep_aln t93_23 rfl ?_
        refine ep_getr (q := 33) t93_24 rfl (Nat.le_of_ble_eq_true rfl) rfl (rfl) ?_
        refine ep_aln t93_27 rfl ?_
        refine ep_getr (q := 36) t93_28 rfl (Nat.le_of_ble_eq_true rfl) rfl (rfl) ?_
        refine ep_k1 (w := nI 0) t93_31 rfl ?_
        refine ep_aldN t93_32 rfl (Nat.le_of_ble_eq_true rfl) (Nat.ne_of_beq_eq_false rfl) (Nat.le_of_ble_eq_true rfl) (by omega) ?_
        refine ep_val (b := nI c) ((congrFun (r 36 (by decide)) 0).trans (e36 0 (by decide))) ?_
        obtain ⟨v8, g8, hm8, σa, la, rfl, rfl, a1, -, -⟩ := cl_M_liveBy_33 (X := X) (q := q) (σ := g_up σ1 31 0 (nI 0)) (T := T) (c := c) (by show ToldM (σ1 33) T; rw [r 33 (by decide)]; exact hN.2.2) hw0 (by omega) (by omega)
        refine ep_cv t93_33 rfl rfl (Nat.le_of_ble_eq_true rfl) (Nat.le_of_ble_eq_true rfl) (hm8) ?_
        refine ep_isn (L' := [some (.ref 31), some (.int (nI 2)), some (.int (nI (liveM T c)))]) t93_36 rfl (Nat.le_of_ble_eq_true rfl) ?_
        refine ep_iln t93_37 rfl ?_
        refine ep_if0P t93_38 (ic0_ne (by omega)) (fun (c38 : ¬ 2 = 0) => ?_) (fun (c38 : ¬ (¬ 2 = 0)) => (by omega))
        refine ep_iln t93_50 rfl ?_
        refine ep_k1 (w := nI 1) t93_51 rfl ?_
        refine ep_ifP t93_52 (ic_ne (by omega) (by omega)) (fun (c52 : ¬ 2 = 1) => ?_) (fun (c52 : ¬ (¬ 2 = 1)) => (by omega))
        refine ep_iln t93_59 rfl ?_
        refine ep_k1 (w := nI 2) t93_60 rfl ?_
        refine ep_ifP t93_61 (ic_ne (by omega) (by omega)) (fun (c61 : ¬ 2 = 2) => (by omega)) (fun (c61 : ¬ (¬ 2 = 2)) => ?_)
        refine ep_aln t93_64 rfl ?_
        refine ep_aln t93_65 rfl ?_
        refine ep_getr (q := 33) t93_66 rfl (Nat.le_of_ble_eq_true rfl) rfl (rfl) ?_
        refine ep_aln t93_69 rfl ?_
        refine ep_getr (q := 36) t93_70 rfl (Nat.le_of_ble_eq_true rfl) rfl (rfl) ?_
        refine ep_k1 (w := nI 0) t93_73 rfl ?_
        refine ep_aldN t93_74 rfl (Nat.le_of_ble_eq_true rfl) (Nat.ne_of_beq_eq_false rfl) (Nat.le_of_ble_eq_true rfl) (by omega) ?_
        refine ep_val (b := nI c) ((congrFun (a1 36 (by decide)) 0).trans ((congrFun (r 36 (by decide)) 0).trans (e36 0 (by decide)))) ?_
        obtain ⟨v9, g9, hm9, σb, lb, rfl, rfl, b1, -, -⟩ := cl_M_earthedBy_33 (X := X) (q := q) (σ := σa) (T := T) (c := c) (by rw [a1 33 (by decide)]; exact (by show ToldM (σ1 33) T; rw [r 33 (by decide)]; exact hN.2.2)) hw0 (by omega)
        refine ep_cv t93_75 rfl rfl (Nat.le_of_ble_eq_true rfl) (Nat.le_of_ble_eq_true rfl) (hm9) ?_
        refine ep_gt t93_78 ?_
        refine ep_ri t93_89 (fun h => absurd h (by decide)) ?_
        exact ⟨σb, rfl, rfl, fun p a b _ _ _ => (b1 p b).trans ((a1 p b).trans (g_up_ne a)), fun k hk => (congrFun (b1 31 (by decide)) k).trans ((congrFun (a1 31 (by decide)) k).trans (g_up_j hk))⟩
    · refine Pair.one (v := nI (liveM T c &&& T 2)) hR0 ?_ (fun σ1 h1 => ?_)
      · cases q
        · refine ClP.of ⟨Nat.le_of_ble_eq_true rfl, rfl⟩ ?_
          show EvP X 86 0 [some (.ref 0), some (.int (nI 3))] [] (47, g_rho false, σ) _
          refine ep_iln t86_0 rfl ?_
          refine ep_sw (t := 83) t86_1 (by decide +kernel) ?_
          refine ep_aln t86_83 rfl ?_
          refine ep_getr (q := 7) t86_84 rfl (Nat.le_of_ble_eq_true rfl) rfl (rfl) ?_
          refine ep_getr (q := 12) t86_87 rfl (Nat.le_of_ble_eq_true rfl) rfl (rfl) ?_
          refine ep_aln t86_90 rfl ?_
          refine ep_get t86_91 rfl (Nat.le_of_ble_eq_true rfl) rfl ?_
          refine ep_val (b := nI c) (e4) ?_
          refine ep_aldN t86_94 rfl (Nat.le_of_ble_eq_true rfl) (Nat.ne_of_beq_eq_false rfl) (Nat.le_of_ble_eq_true rfl) (by omega) ?_
          refine ep_val (b := nI (liveM T c)) ((hN.2.1.2.2 c hsn.1).1) ?_
          refine ep_aln t86_95 rfl ?_
          refine ep_getr (q := 7) t86_96 rfl (Nat.le_of_ble_eq_true rfl) rfl (rfl) ?_
          refine ep_get t86_99 rfl (Nat.le_of_ble_eq_true rfl) rfl ?_
          refine ep_val (b := nI (T 2)) (hN.2.1.1 2 (by decide)) ?_
          refine ep_andN (a := liveM T c) (b := T 2) t86_102 ?_
          refine ep_ri t86_103 (fun h => absurd h (by decide)) ?_
          exact ⟨σ, rfl, rfl, fun _ _ _ => rfl⟩
        · refine ClP.of ⟨Nat.le_of_ble_eq_true rfl, rfl⟩ ?_
          show EvP X 86 0 [some (.ref 0), some (.int (nI 3))] [] (47, g_rho true, σ) _
          refine ep_iln t86_0 rfl ?_
          refine ep_sw (t := 83) t86_1 (by decide +kernel) ?_
          refine ep_aln t86_83 rfl ?_
          refine ep_getr (q := 16) t86_84 rfl (Nat.le_of_ble_eq_true rfl) rfl (rfl) ?_
          refine ep_getr (q := 21) t86_87 rfl (Nat.le_of_ble_eq_true rfl) rfl (rfl) ?_
          refine ep_aln t86_90 rfl ?_
          refine ep_get t86_91 rfl (Nat.le_of_ble_eq_true rfl) rfl ?_
          refine ep_val (b := nI c) (e4) ?_
          refine ep_aldN t86_94 rfl (Nat.le_of_ble_eq_true rfl) (Nat.ne_of_beq_eq_false rfl) (Nat.le_of_ble_eq_true rfl) (by omega) ?_
          refine ep_val (b := nI (liveM T c)) ((hN.2.1.2.2 c hsn.1).1) ?_
          refine ep_aln t86_95 rfl ?_
          refine ep_getr (q := 16) t86_96 rfl (Nat.le_of_ble_eq_true rfl) rfl (rfl) ?_
          refine ep_get t86_99 rfl (Nat.le_of_ble_eq_true rfl) rfl ?_
          refine ep_val (b := nI (T 2)) (hN.2.1.1 2 (by decide)) ?_
          refine ep_andN (a := liveM T c) (b := T 2) t86_102 ?_
          refine ep_ri t86_103 (fun h => absurd h (by decide)) ?_
          exact ⟨σ, rfl, rfl, fun _ _ _ => rfl⟩
      · have r : ∀ p, (p < 7 ∨ 30 < p) → σ1 p = σ p := fun p hp2 => h1 p (by omega) (by omega)
        refine ClP.of ⟨Nat.le_of_ble_eq_true rfl, rfl⟩ ?_
        show EvP X 93 0 [some (.ref 31), some (.int (nI 3)), none] [] (47, g_rho q, σ1) _
        refine ep_aln t93_0 rfl ?_
        refine ep_k1 (w := nI 0) t93_1 rfl ?_
        refine ep_put t93_2 rfl (Nat.le_of_ble_eq_true rfl) rfl ?_
        refine ep_iln t93_5 rfl ?_
        refine ep_k1 (w := nI 0) t93_6 rfl ?_
        refine ep_k2 (w := nI 8) t93_7 rfl ?_
        refine ep_cs t93_9 (Nat.ne_of_beq_eq_false rfl) rfl (Nat.le_of_ble_eq_true rfl) (cl_M_inB _ (by decide) (by decide)) ?_
        refine ep_bT t93_12 (fun (c12 : (inB (nI 3) 0 8) = true) => ?_) (fun (c12 : (inB (nI 3) 0 8) = false) => (by exact absurd c12 (by decide)))
        refine ep_iln t93_17 rfl ?_
        refine ep_k1 (w := nI 4) t93_18 rfl ?_
        refine ep_ifP t93_19 (ic_ge (by omega) (by omega)) (fun (c19 : 4 ≤ 3) => (by omega)) (fun (c19 : ¬ (4 ≤ 3)) => ?_)
        refine ep_aln t93_22 rfl ?_
        refine ep_aln t93_23 rfl ?_
        refine ep_getr (q := 33) t93_24 rfl (Nat.le_of_ble_eq_true rfl) rfl (rfl) ?_
        refine ep_aln t93_27 rfl ?_
        refine ep_getr (q := 36) t93_28 rfl (Nat.le_of_ble_eq_true rfl) rfl (rfl) ?_
        refine ep_k1 (w := nI 0) t93_31 rfl ?_
        refine ep_aldN t93_32 rfl (Nat.le_of_ble_eq_true rfl) (Nat.ne_of_beq_eq_false rfl) (Nat.le_of_ble_eq_true rfl) (by omega) ?_
        refine ep_val (b := nI c) ((congrFun (r 36 (by decide)) 0).trans (e36 0 (by decide))) ?_
        obtain ⟨v8, g8, hm8, σa, la, rfl, rfl, a1, -, -⟩ := cl_M_liveBy_33 (X := X) (q := q) (σ := g_up σ1 31 0 (nI 0)) (T := T) (c := c) (by show ToldM (σ1 33) T; rw [r 33 (by decide)]; exact hN.2.2) hw0 (by omega) (by omega)
        refine ep_cv t93_33 rfl rfl (Nat.le_of_ble_eq_true rfl) (Nat.le_of_ble_eq_true rfl) (hm8) ?_
        refine ep_isn (L' := [some (.ref 31), some (.int (nI 3)), some (.int (nI (liveM T c)))]) t93_36 rfl (Nat.le_of_ble_eq_true rfl) ?_
        refine ep_iln t93_37 rfl ?_
        refine ep_if0P t93_38 (ic0_ne (by omega)) (fun (c38 : ¬ 3 = 0) => ?_) (fun (c38 : ¬ (¬ 3 = 0)) => (by omega))
        refine ep_iln t93_50 rfl ?_
        refine ep_k1 (w := nI 1) t93_51 rfl ?_
        refine ep_ifP t93_52 (ic_ne (by omega) (by omega)) (fun (c52 : ¬ 3 = 1) => ?_) (fun (c52 : ¬ (¬ 3 = 1)) => (by omega))
        refine ep_iln t93_59 rfl ?_
        refine ep_k1 (w := nI 2) t93_60 rfl ?_
        refine ep_ifP t93_61 (ic_ne (by omega) (by omega)) (fun (c61 : ¬ 3 = 2) => ?_) (fun (c61 : ¬ (¬ 3 = 2)) => (by omega))
        refine ep_iln t93_81 rfl ?_
        refine ep_aln t93_82 rfl ?_
        refine ep_getr (q := 33) t93_83 rfl (Nat.le_of_ble_eq_true rfl) rfl (rfl) ?_
        refine ep_k1 (w := nI 2) t93_86 rfl ?_
        refine ep_aldN t93_87 rfl (Nat.le_of_ble_eq_true rfl) (Nat.ne_of_beq_eq_false rfl) (Nat.le_of_ble_eq_true rfl) (by omega) ?_
        refine ep_val (b := nI (T 2)) ((congrFun (a1 33 (by decide)) 2).trans ((congrFun (r 33 (by decide)) 2).trans (hN.2.2.1 2 (by decide)))) ?_
        refine ep_andN (a := liveM T c) (b := T 2) t93_88 ?_
        refine ep_ri t93_89 (fun h => absurd h (by decide)) ?_
        exact ⟨σa, rfl, rfl, fun p a b _ _ _ => (a1 p b).trans (g_up_ne a), fun k hk => (congrFun (a1 31 (by decide)) k).trans (g_up_j hk)⟩
    · refine Pair.one (v := nI (mk (T 3) (fun k => why T l c k = 0))) hR0 ?_ (fun σ1 h1 => ?_)
      · cases q
        · refine ClP.of ⟨Nat.le_of_ble_eq_true rfl, rfl⟩ ?_
          show EvP X 86 0 [some (.ref 0), some (.int (nI 4))] [] (47, g_rho false, σ) _
          refine ep_iln t86_0 rfl ?_
          refine ep_sw (t := 104) t86_1 (by decide +kernel) ?_
          refine ep_aln t86_104 rfl ?_
          refine ep_cv t86_105 rfl rfl (Nat.le_of_ble_eq_true rfl) (Nat.le_of_ble_eq_true rfl) (cl_B_lawful_7 (T := T) (c := c) (l := l) hN.2.1 hwf1 hwf4 hsn.1 hsn.2.1 e4 e5) ?_
          refine ep_ri t86_108 (fun h => absurd h (by decide)) ?_
          exact ⟨σ, rfl, rfl, fun _ _ _ => rfl⟩
        · refine ClP.of ⟨Nat.le_of_ble_eq_true rfl, rfl⟩ ?_
          show EvP X 86 0 [some (.ref 0), some (.int (nI 4))] [] (47, g_rho true, σ) _
          refine ep_iln t86_0 rfl ?_
          refine ep_sw (t := 104) t86_1 (by decide +kernel) ?_
          refine ep_aln t86_104 rfl ?_
          refine ep_cv t86_105 rfl rfl (Nat.le_of_ble_eq_true rfl) (Nat.le_of_ble_eq_true rfl) (cl_B_lawful_16 (T := T) (c := c) (l := l) hN.2.1 hwf1 hwf4 hsn.1 hsn.2.1 e4 e5) ?_
          refine ep_ri t86_108 (fun h => absurd h (by decide)) ?_
          exact ⟨σ, rfl, rfl, fun _ _ _ => rfl⟩
      · have r : ∀ p, (p < 7 ∨ 30 < p) → σ1 p = σ p := fun p hp2 => h1 p (by omega) (by omega)
        refine ClP.of ⟨Nat.le_of_ble_eq_true rfl, rfl⟩ ?_
        show EvP X 93 0 [some (.ref 31), some (.int (nI 4)), none] [] (47, g_rho q, σ1) _
        refine ep_aln t93_0 rfl ?_
        refine ep_k1 (w := nI 0) t93_1 rfl ?_
        refine ep_put t93_2 rfl (Nat.le_of_ble_eq_true rfl) rfl ?_
        refine ep_iln t93_5 rfl ?_
        refine ep_k1 (w := nI 0) t93_6 rfl ?_
        refine ep_k2 (w := nI 8) t93_7 rfl ?_
        refine ep_cs t93_9 (Nat.ne_of_beq_eq_false rfl) rfl (Nat.le_of_ble_eq_true rfl) (cl_M_inB _ (by decide) (by decide)) ?_
        refine ep_bT t93_12 (fun (c12 : (inB (nI 4) 0 8) = true) => ?_) (fun (c12 : (inB (nI 4) 0 8) = false) => (by exact absurd c12 (by decide)))
        refine ep_iln t93_17 rfl ?_
        refine ep_k1 (w := nI 4) t93_18 rfl ?_
        refine ep_ifP t93_19 (ic_ge (by omega) (by omega)) (fun (c19 : 4 ≤ 4) => ?_) (fun (c19 : ¬ (4 ≤ 4)) => (by omega))
        refine ep_iln t93_90 rfl ?_
        refine ep_k1 (w := nI 4) t93_91 rfl ?_
        refine ep_ifP t93_92 (ic_ne (by omega) (by omega)) (fun (c92 : ¬ 4 = 4) => (by omega)) (fun (c92 : ¬ (¬ 4 = 4)) => ?_)
        refine ep_aln t93_95 rfl ?_
        obtain ⟨v8, g8, hm8, σa, rfl, rfl, a1⟩ := cl_M_allLawful (X := X) (q := q) (σ := g_up σ1 31 0 (nI 0)) (T := T) (c := c) (l := l) (by show ToldM (σ1 33) T; rw [r 33 (by decide)]; exact hN.2.2) hw0 h31 h32 ((congrFun (r 36 (by decide)) 1).trans (e36 1 (by decide))) hl31 hsn.1 ((congrFun (r 36 (by decide)) 0).trans (e36 0 (by decide)))
        refine ep_cv t93_96 rfl rfl (Nat.le_of_ble_eq_true rfl) (Nat.le_of_ble_eq_true rfl) (hm8) ?_
        refine ep_gt t93_99 ?_
        refine ep_ri t93_142 (fun h => absurd h (by decide)) ?_
        exact ⟨σa, rfl, rfl, fun p a b _ _ _ => (a1 p b).trans (g_up_ne a), fun k hk => (congrFun (a1 31 (by decide)) k).trans (g_up_j hk)⟩
    · refine Pair.one (v := nI (rtC T c (T 0))) hR0 ?_ (fun σ1 h1 => ?_)
      · cases q
        · refine ClP.of ⟨Nat.le_of_ble_eq_true rfl, rfl⟩ ?_
          show EvP X 86 0 [some (.ref 0), some (.int (nI 5))] [] (47, g_rho false, σ) _
          refine ep_iln t86_0 rfl ?_
          refine ep_sw (t := 109) t86_1 (by decide +kernel) ?_
          refine ep_aln t86_109 rfl ?_
          refine ep_getr (q := 7) t86_110 rfl (Nat.le_of_ble_eq_true rfl) rfl (rfl) ?_
          refine ep_aln t86_113 rfl ?_
          refine ep_get t86_114 rfl (Nat.le_of_ble_eq_true rfl) rfl ?_
          refine ep_val (b := nI c) (e4) ?_
          obtain ⟨v7, g7, hb7, σ3, rfl, rfl, b1⟩ := cl_Net_parts_7 (X := X) (q := false) (σ := σ) (T := T) (c := c) ⟨hN.2.1.1, hN.2.1.2.1⟩ hw0 (by omega)
          refine ep_cv t86_117 rfl rfl (Nat.le_of_ble_eq_true rfl) (Nat.le_of_ble_eq_true rfl) (hb7) ?_
          refine ep_ri t86_120 (fun h => absurd h (by decide)) ?_
          exact ⟨σ3, rfl, rfl, fun p h8 _ => b1 p h8⟩
        · refine ClP.of ⟨Nat.le_of_ble_eq_true rfl, rfl⟩ ?_
          show EvP X 86 0 [some (.ref 0), some (.int (nI 5))] [] (47, g_rho true, σ) _
          refine ep_iln t86_0 rfl ?_
          refine ep_sw (t := 109) t86_1 (by decide +kernel) ?_
          refine ep_aln t86_109 rfl ?_
          refine ep_getr (q := 16) t86_110 rfl (Nat.le_of_ble_eq_true rfl) rfl (rfl) ?_
          refine ep_aln t86_113 rfl ?_
          refine ep_get t86_114 rfl (Nat.le_of_ble_eq_true rfl) rfl ?_
          refine ep_val (b := nI c) (e4) ?_
          obtain ⟨v7, g7, hb7, σ3, rfl, rfl, b1⟩ := cl_Net_parts_16 (X := X) (q := true) (σ := σ) (T := T) (c := c) ⟨hN.2.1.1, hN.2.1.2.1⟩ hw0 (by omega)
          refine ep_cv t86_117 rfl rfl (Nat.le_of_ble_eq_true rfl) (Nat.le_of_ble_eq_true rfl) (hb7) ?_
          refine ep_ri t86_120 (fun h => absurd h (by decide)) ?_
          exact ⟨σ3, rfl, rfl, fun p h8 _ => b1 p h8⟩
      · have r : ∀ p, (p < 7 ∨ 30 < p) → σ1 p = σ p := fun p hp2 => h1 p (by omega) (by omega)
        refine ClP.of ⟨Nat.le_of_ble_eq_true rfl, rfl⟩ ?_
        show EvP X 93 0 [some (.ref 31), some (.int (nI 5)), none] [] (47, g_rho q, σ1) _
        refine ep_aln t93_0 rfl ?_
        refine ep_k1 (w := nI 0) t93_1 rfl ?_
        refine ep_put t93_2 rfl (Nat.le_of_ble_eq_true rfl) rfl ?_
        refine ep_iln t93_5 rfl ?_
        refine ep_k1 (w := nI 0) t93_6 rfl ?_
        refine ep_k2 (w := nI 8) t93_7 rfl ?_
        refine ep_cs t93_9 (Nat.ne_of_beq_eq_false rfl) rfl (Nat.le_of_ble_eq_true rfl) (cl_M_inB _ (by decide) (by decide)) ?_
        refine ep_bT t93_12 (fun (c12 : (inB (nI 5) 0 8) = true) => ?_) (fun (c12 : (inB (nI 5) 0 8) = false) => (by exact absurd c12 (by decide)))
        refine ep_iln t93_17 rfl ?_
        refine ep_k1 (w := nI 4) t93_18 rfl ?_
        refine ep_ifP t93_19 (ic_ge (by omega) (by omega)) (fun (c19 : 4 ≤ 5) => ?_) (fun (c19 : ¬ (4 ≤ 5)) => (by omega))
        refine ep_iln t93_90 rfl ?_
        refine ep_k1 (w := nI 4) t93_91 rfl ?_
        refine ep_ifP t93_92 (ic_ne (by omega) (by omega)) (fun (c92 : ¬ 5 = 4) => ?_) (fun (c92 : ¬ (¬ 5 = 4)) => (by omega))
        refine ep_iln t93_102 rfl ?_
        refine ep_k1 (w := nI 5) t93_103 rfl ?_
        refine ep_ifP t93_104 (ic_ne (by omega) (by omega)) (fun (c104 : ¬ 5 = 5) => (by omega)) (fun (c104 : ¬ (¬ 5 = 5)) => ?_)
        refine ep_aln t93_107 rfl ?_
        obtain ⟨v8, g8, hm8, σa, rfl, rfl, a1⟩ := cl_M_parts (X := X) (q := q) (σ := g_up σ1 31 0 (nI 0)) (T := T) (c := c) (by show ToldM (σ1 33) T; rw [r 33 (by decide)]; exact hN.2.2) hw0 (by omega) ((congrFun (r 36 (by decide)) 0).trans (e36 0 (by decide)))
        refine ep_cv t93_108 rfl rfl (Nat.le_of_ble_eq_true rfl) (Nat.le_of_ble_eq_true rfl) (hm8) ?_
        refine ep_gt t93_111 ?_
        refine ep_ri t93_142 (fun h => absurd h (by decide)) ?_
        exact ⟨σa, rfl, rfl, fun p a b _ _ _ => (a1 p b).trans (g_up_ne a), fun k hk => (congrFun (a1 31 (by decide)) k).trans (g_up_j hk)⟩
    · refine Pair.one (v := nI (cnt (2 ^ T 3) (fun s => ¬ dS (lw T l) (pcs T pr) (fun s => s = c) (sound T) s = none))) hR0 ?_ (fun σ1 h1 => ?_)
      · cases q
        · refine ClP.of ⟨Nat.le_of_ble_eq_true rfl, rfl⟩ ?_
          show EvP X 86 0 [some (.ref 0), some (.int (nI 6))] [] (47, g_rho false, σ) _
          refine ep_iln t86_0 rfl ?_
          refine ep_sw (t := 121) t86_1 (by decide +kernel) ?_
          refine ep_aln t86_121 rfl ?_
          obtain ⟨v7, g7, hb7, σ3, rfl, rfl, b1⟩ := cl_B_states_7 (X := X) (σ := σ) (T := T) (pr := pr) (c := c) (l := l) hN.2.1 hw0 hpr hsn.1 hsn.2.1 e4 e5 e25
          refine ep_cv t86_122 rfl rfl (Nat.le_of_ble_eq_true rfl) (Nat.le_of_ble_eq_true rfl) (hb7) ?_
          refine ep_ri t86_125 (fun h => absurd h (by decide)) ?_
          exact ⟨σ3, rfl, rfl, fun p _ h9 => b1 p h9⟩
        · refine ClP.of ⟨Nat.le_of_ble_eq_true rfl, rfl⟩ ?_
          show EvP X 86 0 [some (.ref 0), some (.int (nI 6))] [] (47, g_rho true, σ) _
          refine ep_iln t86_0 rfl ?_
          refine ep_sw (t := 121) t86_1 (by decide +kernel) ?_
          refine ep_aln t86_121 rfl ?_
          obtain ⟨v7, g7, hb7, σ3, rfl, rfl, b1⟩ := cl_B_states_16 (X := X) (σ := σ) (T := T) (pr := pr) (c := c) (l := l) hN.2.1 hw0 hpr hsn.1 hsn.2.1 e4 e5 e25
          refine ep_cv t86_122 rfl rfl (Nat.le_of_ble_eq_true rfl) (Nat.le_of_ble_eq_true rfl) (hb7) ?_
          refine ep_ri t86_125 (fun h => absurd h (by decide)) ?_
          exact ⟨σ3, rfl, rfl, fun p _ h9 => b1 p h9⟩
      · have r : ∀ p, (p < 7 ∨ 30 < p) → σ1 p = σ p := fun p hp2 => h1 p (by omega) (by omega)
        refine ClP.of ⟨Nat.le_of_ble_eq_true rfl, rfl⟩ ?_
        show EvP X 93 0 [some (.ref 31), some (.int (nI 6)), none] [] (47, g_rho q, σ1) _
        refine ep_aln t93_0 rfl ?_
        refine ep_k1 (w := nI 0) t93_1 rfl ?_
        refine ep_put t93_2 rfl (Nat.le_of_ble_eq_true rfl) rfl ?_
        refine ep_iln t93_5 rfl ?_
        refine ep_k1 (w := nI 0) t93_6 rfl ?_
        refine ep_k2 (w := nI 8) t93_7 rfl ?_
        refine ep_cs t93_9 (Nat.ne_of_beq_eq_false rfl) rfl (Nat.le_of_ble_eq_true rfl) (cl_M_inB _ (by decide) (by decide)) ?_
        refine ep_bT t93_12 (fun (c12 : (inB (nI 6) 0 8) = true) => ?_) (fun (c12 : (inB (nI 6) 0 8) = false) => (by exact absurd c12 (by decide)))
        refine ep_iln t93_17 rfl ?_
        refine ep_k1 (w := nI 4) t93_18 rfl ?_
        refine ep_ifP t93_19 (ic_ge (by omega) (by omega)) (fun (c19 : 4 ≤ 6) => ?_) (fun (c19 : ¬ (4 ≤ 6)) => (by omega))
        refine ep_iln t93_90 rfl ?_
        refine ep_k1 (w := nI 4) t93_91 rfl ?_
        refine ep_ifP t93_92 (ic_ne (by omega) (by omega)) (fun (c92 : ¬ 6 = 4) => ?_) (fun (c92 : ¬ (¬ 6 = 4)) => (by omega))
        refine ep_iln t93_102 rfl ?_
        refine ep_k1 (w := nI 5) t93_103 rfl ?_
        refine ep_ifP t93_104 (ic_ne (by omega) (by omega)) (fun (c104 : ¬ 6 = 5) => ?_) (fun (c104 : ¬ (¬ 6 = 5)) => (by omega))
        refine ep_iln t93_114 rfl ?_
        refine ep_k2 (w := nI 8) t93_115 rfl ?_
        refine ep_ifP t93_117 (ic_ne (by omega) (by omega)) (fun (c117 : ¬ 6 = 8) => ?_) (fun (c117 : ¬ (¬ 6 = 8)) => (by omega))
        refine ep_aln t93_127 rfl ?_
        refine ep_iln t93_128 rfl ?_
        refine ep_k2 (w := nI 7) t93_129 rfl ?_
        refine ep_ifP t93_131 (ic_ne (by omega) (by omega)) (fun (c131 : ¬ 6 = 7) => ?_) (fun (c131 : ¬ (¬ 6 = 7)) => (by omega))
        refine ep_k1 (w := nI 0) t93_138 rfl ?_
        obtain ⟨v8, g8, hm8, σa, rfl, rfl, f1⟩ := cl_M_reached (X := X) (q := q) (σ := g_up σ1 31 0 (nI 0)) (T := T) (pr := pr) (c := c) (l := l) (fb := false) (by show ToldM (σ1 33) T; rw [r 33 (by decide)]; exact hN.2.2) hw0 h31 h32 ((congrFun (r 36 (by decide)) 1).trans (e36 1 (by decide))) hl31 (fun i hi => (congrFun (r 36 (by decide)) _).trans (ep2 i hi)) hpr hsn.1 hsn.2.2.1 ((congrFun (r 36 (by decide)) 0).trans (e36 0 (by decide)))
        refine ep_cv t93_139 rfl rfl (Nat.le_of_ble_eq_true rfl) (Nat.le_of_ble_eq_true rfl) (hm8) ?_
        refine ep_ri t93_142 (fun h => absurd h (by decide)) ?_
        exact ⟨σa, rfl, rfl, fun p a b c _ e => (f1 p b c e).trans (g_up_ne a), fun k hk => (congrFun (f1 31 (by decide) (by decide) (by decide)) k).trans (g_up_j hk)⟩
    · refine Pair.one (v := nI (mxO (dS (lw T l) (pcs T pr) (fun s => s = c) (sound T)) (2 ^ T 3))) hR0 ?_ (fun σ1 h1 => ?_)
      · cases q
        · refine ClP.of ⟨Nat.le_of_ble_eq_true rfl, rfl⟩ ?_
          show EvP X 86 0 [some (.ref 0), some (.int (nI 7))] [] (47, g_rho false, σ) _
          refine ep_iln t86_0 rfl ?_
          refine ep_sw (t := 126) t86_1 (by decide +kernel) ?_
          refine ep_aln t86_126 rfl ?_
          obtain ⟨v7, g7, hb7, σ3, rfl, rfl, b1⟩ := cl_B_far_7 (X := X) (σ := σ) (T := T) (pr := pr) (c := c) (l := l) hN.2.1 hw0 hpr hsn.1 hsn.2.1 e4 e5 e25
          refine ep_cv t86_127 rfl rfl (Nat.le_of_ble_eq_true rfl) (Nat.le_of_ble_eq_true rfl) (hb7) ?_
          refine ep_ri t86_130 (fun h => absurd h (by decide)) ?_
          exact ⟨σ3, rfl, rfl, fun p _ h9 => b1 p h9⟩
        · refine ClP.of ⟨Nat.le_of_ble_eq_true rfl, rfl⟩ ?_
          show EvP X 86 0 [some (.ref 0), some (.int (nI 7))] [] (47, g_rho true, σ) _
          refine ep_iln t86_0 rfl ?_
          refine ep_sw (t := 126) t86_1 (by decide +kernel) ?_
          refine ep_aln t86_126 rfl ?_
          obtain ⟨v7, g7, hb7, σ3, rfl, rfl, b1⟩ := cl_B_far_16 (X := X) (σ := σ) (T := T) (pr := pr) (c := c) (l := l) hN.2.1 hw0 hpr hsn.1 hsn.2.1 e4 e5 e25
          refine ep_cv t86_127 rfl rfl (Nat.le_of_ble_eq_true rfl) (Nat.le_of_ble_eq_true rfl) (hb7) ?_
          refine ep_ri t86_130 (fun h => absurd h (by decide)) ?_
          exact ⟨σ3, rfl, rfl, fun p _ h9 => b1 p h9⟩
      · have r : ∀ p, (p < 7 ∨ 30 < p) → σ1 p = σ p := fun p hp2 => h1 p (by omega) (by omega)
        refine ClP.of ⟨Nat.le_of_ble_eq_true rfl, rfl⟩ ?_
        show EvP X 93 0 [some (.ref 31), some (.int (nI 7)), none] [] (47, g_rho q, σ1) _
        refine ep_aln t93_0 rfl ?_
        refine ep_k1 (w := nI 0) t93_1 rfl ?_
        refine ep_put t93_2 rfl (Nat.le_of_ble_eq_true rfl) rfl ?_
        refine ep_iln t93_5 rfl ?_
        refine ep_k1 (w := nI 0) t93_6 rfl ?_
        refine ep_k2 (w := nI 8) t93_7 rfl ?_
        refine ep_cs t93_9 (Nat.ne_of_beq_eq_false rfl) rfl (Nat.le_of_ble_eq_true rfl) (cl_M_inB _ (by decide) (by decide)) ?_
        refine ep_bT t93_12 (fun (c12 : (inB (nI 7) 0 8) = true) => ?_) (fun (c12 : (inB (nI 7) 0 8) = false) => (by exact absurd c12 (by decide)))
        refine ep_iln t93_17 rfl ?_
        refine ep_k1 (w := nI 4) t93_18 rfl ?_
        refine ep_ifP t93_19 (ic_ge (by omega) (by omega)) (fun (c19 : 4 ≤ 7) => ?_) (fun (c19 : ¬ (4 ≤ 7)) => (by omega))
        refine ep_iln t93_90 rfl ?_
        refine ep_k1 (w := nI 4) t93_91 rfl ?_
        refine ep_ifP t93_92 (ic_ne (by omega) (by omega)) (fun (c92 : ¬ 7 = 4) => ?_) (fun (c92 : ¬ (¬ 7 = 4)) => (by omega))
        refine ep_iln t93_102 rfl ?_
        refine ep_k1 (w := nI 5) t93_103 rfl ?_
        refine ep_ifP t93_104 (ic_ne (by omega) (by omega)) (fun (c104 : ¬ 7 = 5) => ?_) (fun (c104 : ¬ (¬ 7 = 5)) => (by omega))
        refine ep_iln t93_114 rfl ?_
        refine ep_k2 (w := nI 8) t93_115 rfl ?_
        refine ep_ifP t93_117 (ic_ne (by omega) (by omega)) (fun (c117 : ¬ 7 = 8) => ?_) (fun (c117 : ¬ (¬ 7 = 8)) => (by omega))
        refine ep_aln t93_127 rfl ?_
        refine ep_iln t93_128 rfl ?_
        refine ep_k2 (w := nI 7) t93_129 rfl ?_
        refine ep_ifP t93_131 (ic_ne (by omega) (by omega)) (fun (c131 : ¬ 7 = 7) => (by omega)) (fun (c131 : ¬ (¬ 7 = 7)) => ?_)
        refine ep_k1 (w := nI 1) t93_134 rfl ?_
        refine ep_gt t93_135 ?_
        obtain ⟨v8, g8, hm8, σa, rfl, rfl, f1⟩ := cl_M_reached (X := X) (q := q) (σ := g_up σ1 31 0 (nI 0)) (T := T) (pr := pr) (c := c) (l := l) (fb := true) (by show ToldM (σ1 33) T; rw [r 33 (by decide)]; exact hN.2.2) hw0 h31 h32 ((congrFun (r 36 (by decide)) 1).trans (e36 1 (by decide))) hl31 (fun i hi => (congrFun (r 36 (by decide)) _).trans (ep2 i hi)) hpr hsn.1 hsn.2.2.1 ((congrFun (r 36 (by decide)) 0).trans (e36 0 (by decide)))
        refine ep_cv t93_139 rfl rfl (Nat.le_of_ble_eq_true rfl) (Nat.le_of_ble_eq_true rfl) (hm8) ?_
        refine ep_ri t93_142 (fun h => absurd h (by decide)) ?_
        exact ⟨σa, rfl, rfl, fun p a b c _ e => (f1 p b c e).trans (g_up_ne a), fun k hk => (congrFun (f1 31 (by decide) (by decide) (by decide)) k).trans (g_up_j hk)⟩
    · refine Pair.one (v := nI nu) hR0 ?_ (fun σ1 h1 => ?_)
      · cases q
        · refine ClP.of ⟨Nat.le_of_ble_eq_true rfl, rfl⟩ ?_
          show EvP X 86 0 [some (.ref 0), some (.int (nI 8))] [] (47, g_rho false, σ) _
          refine ep_iln t86_0 rfl ?_
          refine ep_sw (t := 131) t86_1 (by decide +kernel) ?_
          refine ep_aln t86_131 rfl ?_
          refine ep_get t86_132 rfl (Nat.le_of_ble_eq_true rfl) rfl ?_
          refine ep_val (b := nI nu) (hu1) ?_
          refine ep_ri t86_135 (fun h => absurd h (by decide)) ?_
          exact ⟨σ, rfl, rfl, fun _ _ _ => rfl⟩
        · refine ClP.of ⟨Nat.le_of_ble_eq_true rfl, rfl⟩ ?_
          show EvP X 86 0 [some (.ref 0), some (.int (nI 8))] [] (47, g_rho true, σ) _
          refine ep_iln t86_0 rfl ?_
          refine ep_sw (t := 131) t86_1 (by decide +kernel) ?_
          refine ep_aln t86_131 rfl ?_
          refine ep_get t86_132 rfl (Nat.le_of_ble_eq_true rfl) rfl ?_
          refine ep_val (b := nI nu) (hu1) ?_
          refine ep_ri t86_135 (fun h => absurd h (by decide)) ?_
          exact ⟨σ, rfl, rfl, fun _ _ _ => rfl⟩
      · have r : ∀ p, (p < 7 ∨ 30 < p) → σ1 p = σ p := fun p hp2 => h1 p (by omega) (by omega)
        refine ClP.of ⟨Nat.le_of_ble_eq_true rfl, rfl⟩ ?_
        show EvP X 93 0 [some (.ref 31), some (.int (nI 8)), none] [] (47, g_rho q, σ1) _
        refine ep_aln t93_0 rfl ?_
        refine ep_k1 (w := nI 0) t93_1 rfl ?_
        refine ep_put t93_2 rfl (Nat.le_of_ble_eq_true rfl) rfl ?_
        refine ep_iln t93_5 rfl ?_
        refine ep_k1 (w := nI 0) t93_6 rfl ?_
        refine ep_k2 (w := nI 8) t93_7 rfl ?_
        refine ep_cs t93_9 (Nat.ne_of_beq_eq_false rfl) rfl (Nat.le_of_ble_eq_true rfl) (cl_M_inB _ (by decide) (by decide)) ?_
        refine ep_bT t93_12 (fun (c12 : (inB (nI 8) 0 8) = true) => ?_) (fun (c12 : (inB (nI 8) 0 8) = false) => (by exact absurd c12 (by decide)))
        refine ep_iln t93_17 rfl ?_
        refine ep_k1 (w := nI 4) t93_18 rfl ?_
        refine ep_ifP t93_19 (ic_ge (by omega) (by omega)) (fun (c19 : 4 ≤ 8) => ?_) (fun (c19 : ¬ (4 ≤ 8)) => (by omega))
        refine ep_iln t93_90 rfl ?_
        refine ep_k1 (w := nI 4) t93_91 rfl ?_
        refine ep_ifP t93_92 (ic_ne (by omega) (by omega)) (fun (c92 : ¬ 8 = 4) => ?_) (fun (c92 : ¬ (¬ 8 = 4)) => (by omega))
        refine ep_iln t93_102 rfl ?_
        refine ep_k1 (w := nI 5) t93_103 rfl ?_
        refine ep_ifP t93_104 (ic_ne (by omega) (by omega)) (fun (c104 : ¬ 8 = 5) => ?_) (fun (c104 : ¬ (¬ 8 = 5)) => (by omega))
        refine ep_iln t93_114 rfl ?_
        refine ep_k2 (w := nI 8) t93_115 rfl ?_
        refine ep_ifP t93_117 (ic_ne (by omega) (by omega)) (fun (c117 : ¬ 8 = 8) => (by omega)) (fun (c117 : ¬ (¬ 8 = 8)) => ?_)
        refine ep_aln t93_120 rfl ?_
        refine ep_get t93_121 rfl (Nat.le_of_ble_eq_true rfl) rfl ?_
        refine ep_val (b := nI nu) ((congrFun (r 31 (by decide)) 13).trans hu2) ?_
        refine ep_gt t93_124 ?_
        refine ep_ri t93_142 (fun h => absurd h (by decide)) ?_
        exact ⟨g_up σ1 31 0 (nI 0), rfl, rfl, fun p a _ _ _ _ => g_up_ne a, fun k hk => g_up_j hk⟩
