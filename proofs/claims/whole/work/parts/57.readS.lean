/-! The class reads a switch, an item, the whole text. -/
theorem na_bit {T : Nat → Nat} {x : Nat} (hx : 97 ≤ x ∧ x ≤ 122) : (andN 67108863 (nmM T)).testBit (x - 97) = true ↔ ∀ k, k < T 3 → ¬ T (12 + k) = x := by
  rw [show (67108863 : Nat) = 2 ^ 26 - 1 from rfl, al_bit]
  constructor
  · rintro ⟨h1, h2⟩ k hk e
    have q : (nmM T).testBit (x - 97) = true := nm_bit.mpr ⟨h1, k, hk, by omega⟩
    rw [h2] at q
    exact absurd q (by decide)
  · intro h
    refine ⟨by omega, ?_⟩
    cases q : (nmM T).testBit (x - 97) with
    | false => rfl
    | true =>
      obtain ⟨-, k, h1, h2⟩ := nm_bit.mp q
      exact absurd (by omega) (h k h1)
theorem al2_bit {t u v : Nat} : (andN (2 ^ t - 1) (2 ^ u)).testBit v = true ↔ v < t ∧ ¬ v = u := by
  rw [al_bit, Nat.testBit_two_pow, decide_eq_false_iff_not]
  constructor
  · rintro ⟨h1, h2⟩; exact ⟨h1, fun e => h2 e.symm⟩
  · rintro ⟨h1, h2⟩; exact ⟨h1, fun e => h2 e.symm⟩
theorem cl_readSwitch {X : gX} {q : Bool} {σ : gT1} {a : Nat → Nat} {n : Nat} (ha : ∀ j, a j < 256) (hn : n ≤ 120) (hx : TxC σ a n) {p : Nat} (hp : p ≤ n) (e2 : σ 1 2 = nI p) {T : Nat → Nat} {c l : Nat} (hw : WFD T c l) (hd : DrC σ T c l) {κ f : Nat} (hκ : κ < 3) (e3 : σ 1 3 = nI f) : ClP X 27 [.ref 3, .ref 1, .int (nI κ)] (47, g_rho q, σ) (fun v g1 => ∃ σ1, g1 = (47, g_rho q, σ1) ∧ FrC σ σ1 ∧ RC σ1 v (rW a n κ f p T c l)) := by
  have h6 := hw.1.1.2
  have hk9 := tk_all (a := a) hp
  have hp2 := hk9.1.2.2.1
  have hk2 := tk_all (a := a) hp2
  have hp3 := hk2.1.2.2.1
  have hk3 := tk_all (a := a) hp3
  have hnl := nm_lt T
  have hpw := pow_le_256 (m := T 0) (by omega)
  have hpc := hw.2.2.2
  have ht3 := hw.1.2.2.1
  refine ClP.of ⟨Nat.le_of_ble_eq_true rfl, rfl⟩ ?_
  show EvP X 27 0 [some (.ref 3), some (.ref 1), some (.int (nI κ)), none, none, none] [] (47, g_rho q, σ) _
  by_cases h8 : T 3 < 8
  · by_cases hq1 : tK a n p = 1 ∧ ∀ k, k < T 3 → ¬ T (12 + k) = tV a n p
    · have hv1 := hk9.2.2.1 hq1.1
      by_cases hq2 : tK a n (tN a n p) = 2 ∧ tV a n (tN a n p) < T 0
      · by_cases hκ2 : κ = 2
        · refine ep_aln t27_0 rfl ?_
          refine ep_get t27_1 rfl (Nat.le_of_ble_eq_true rfl) rfl ?_
          refine ep_val (b := nI (nmM T)) (hd.1.2.2.2.1) ?_
          refine ep_cs t27_4 (Nat.ne_of_beq_eq_false rfl) rfl (Nat.le_of_ble_eq_true rfl) (cl_bitCount26 hnl) ?_
          refine ep_k2 (w := nI 8) t27_7 rfl ?_
          refine ep_ifP t27_9 (ic_lt (by omega) (by omega)) (fun (c9 : (pcn 26 (nmM T)) < 8) => ?_) (fun (c9 : ¬ ((pcn 26 (nmM T)) < 8)) => (by omega))
          refine ep_aln t27_14 rfl ?_
          refine ep_k1 (w := nI 1) t27_15 rfl ?_
          refine ep_k4 (w := nI 67108863) t27_16 rfl ?_
          refine ep_aln t27_18 rfl ?_
          refine ep_get t27_19 rfl (Nat.le_of_ble_eq_true rfl) rfl ?_
          refine ep_val (b := nI (nmM T)) (hd.1.2.2.2.1) ?_
          refine ep_k1 (w := (-1)) t27_22 rfl ?_
          refine ep_xor t27_23 ?_
          refine ep_and t27_24 ?_
          refine ep_val (b := nI (andN 67108863 (nmM T))) (and_notG _ _) ?_
          obtain ⟨v9, g9, h9, σ1, rfl, rfl, m1, m2, m3⟩ := cl_tk1_y (X := X) (q := q) (σ := σ) (a := a) (n := n) (p := p) (al := andN 67108863 (nmM T)) ha hn (hx) (hp) (e2) (Nat.lt_trans (andN_le (n := 26) _ _ (by decide)) (by decide)) (⟨hq1.1, (na_bit (hk9.2.2.1 hq1.1)).mpr hq1.2⟩)
          refine ep_cv t27_25 rfl rfl (Nat.le_of_ble_eq_true rfl) (Nat.le_of_ble_eq_true rfl) (h9) ?_
          refine ep_isn (L' := [some (.ref 3), some (.ref 1), some (.int (nI κ)), some (.int (nI (tV a n p - 97))), none, none]) t27_28 rfl (Nat.le_of_ble_eq_true rfl) ?_
          refine ep_iln t27_29 rfl ?_
          refine ep_if0P t27_30 (ic0_ge (by omega)) (fun (c30 : 0 ≤ (tV a n p - 97)) => ?_) (fun (c30 : ¬ (0 ≤ (tV a n p - 97))) => (by omega))
          refine ep_aln t27_35 rfl ?_
          refine ep_k1 (w := nI 2) t27_36 rfl ?_
          refine ep_aln t27_37 rfl ?_
          refine ep_cv t27_38 rfl rfl (Nat.le_of_ble_eq_true rfl) (Nat.le_of_ble_eq_true rfl) (cl_allNodes h6 ((congrFun (m1 3 (by decide)) 0).trans hd.1.1)) ?_
          obtain ⟨v9, g9, h9, σ2, rfl, rfl, k1, k2, k3⟩ := cl_tk2_y (X := X) (q := q) (σ := σ1) (a := a) (n := n) (p := tN a n p) (al := 2 ^ T 0 - 1) ha hn (FrC.tx ⟨fun r h1 _ _ _ _ => m1 r h1, m2⟩ hx) (hp2) (m3.1) (by omega) (⟨hq2.1, pm1_bit.mpr hq2.2⟩)
          refine ep_cv t27_41 rfl rfl (Nat.le_of_ble_eq_true rfl) (Nat.le_of_ble_eq_true rfl) (h9) ?_
          refine ep_is (L' := [some (.ref 3), some (.ref 1), some (.int (nI κ)), some (.int (nI (tV a n p - 97))), some (.int (nI (tV a n (tN a n p)))), none]) t27_44 rfl (Nat.le_of_ble_eq_true rfl) ?_
          refine ep_il t27_46 rfl ?_
          refine ep_if0P t27_48 (ic0_ge (by omega)) (fun (c48 : 0 ≤ (tV a n (tN a n p))) => ?_) (fun (c48 : ¬ (0 ≤ (tV a n (tN a n p)))) => (by omega))
          refine ep_iln t27_53 rfl ?_
          refine ep_k1 (w := nI 2) t27_54 rfl ?_
          refine ep_ifP t27_55 (ic_ne (by omega) (by omega)) (fun (c55 : ¬ κ = 2) => (by exact absurd hκ2 c55)) (fun (c55 : ¬ (¬ κ = 2)) => ?_)
          refine ep_k2 (w := (-9)) t27_58 rfl ?_
          refine ep_gt t27_60 ?_
          refine ep_is (L' := [some (.ref 3), some (.ref 1), some (.int (nI κ)), some (.int (nI (tV a n p - 97))), some (.int (nI (tV a n (tN a n p)))), some (.int ((-9)))]) t27_80 rfl (Nat.le_of_ble_eq_true rfl) ?_
          refine ep_il t27_82 rfl ?_
          refine ep_k1 (w := (-1)) t27_84 rfl ?_
          refine ep_if t27_85 (fun (c85 : ¬ ((-9)) = ((-1))) => ?_) (fun (c85 : ¬ (¬ ((-9)) = ((-1)))) => (by exact absurd (by decide) c85))
          refine ep_aln t27_90 rfl ?_
          refine ep_dup t27_91 rfl ?_
          refine ep_get t27_92 rfl (Nat.le_of_ble_eq_true rfl) rfl ?_
          refine ep_val (b := nI (nmM T)) ((congrFun ((k1 3 (by decide)).trans (m1 3 (by decide))) 3).trans hd.1.2.2.2.1) ?_
          refine ep_k1 (w := nI 1) t27_95 rfl ?_
          refine ep_iln t27_96 rfl ?_
          refine ep_oneN (b := tV a n p - 97) t27_97 (by omega) ?_
          refine ep_orN (a := nmM T) (b := 2 ^ (tV a n p - 97)) t27_98 ?_
          refine ep_put t27_99 rfl (Nat.le_of_ble_eq_true rfl) rfl ?_
          refine ep_aln t27_102 rfl ?_
          refine ep_getr (q := 4) t27_103 rfl (Nat.le_of_ble_eq_true rfl) rfl (rfl) ?_
          refine ep_iln t27_106 rfl ?_
          refine ep_iln t27_107 rfl ?_
          refine ep_astN t27_108 rfl (Nat.le_of_ble_eq_true rfl) (Nat.le_of_ble_eq_true rfl) (by omega) ?_
          refine ep_aln t27_109 rfl ?_
          refine ep_getr (q := 5) t27_110 rfl (Nat.le_of_ble_eq_true rfl) rfl (rfl) ?_
          refine ep_iln t27_113 rfl ?_
          refine ep_il t27_114 rfl ?_
          refine ep_astN t27_116 rfl (Nat.le_of_ble_eq_true rfl) (Nat.le_of_ble_eq_true rfl) (by omega) ?_
          refine ep_aln t27_117 rfl ?_
          refine ep_getr (q := 6) t27_118 rfl (Nat.le_of_ble_eq_true rfl) rfl (rfl) ?_
          refine ep_iln t27_121 rfl ?_
          refine ep_il t27_122 rfl ?_
          refine ep_astN t27_124 rfl (Nat.le_of_ble_eq_true rfl) (Nat.le_of_ble_eq_true rfl) (by omega) ?_
          refine ep_k1 (w := nI 1) t27_125 rfl ?_
          refine ep_ri t27_126 (fun _ => rfl) ?_
          refine ⟨_, rfl, ⟨fun r h1 h3 h4 h5 h6 => by (repeat rw [g_up_ne (by assumption)]); exact (k1 r h1).trans (m1 r h1), k2.trans m2⟩, ?_⟩
          unfold rW
          unfold rW2
          rw [cif_pos h8, cif_pos hq1, cif_pos hq2, if_pos hκ2]
          have hv := hk9.2.2.1 hq1.1
          have e9 : 97 + (tV a n p - 97) = tV a n p := by omega
          have hz := DrC.add (κ := κ) (x := tV a n p - 97) (u := tV a n (tN a n p)) (v := 0) (w := -9) (hd.fr ((k1 3 (by decide)).trans (m1 3 (by decide))) ((k1 4 (by decide)).trans (m1 4 (by decide))) ((k1 5 (by decide)).trans (m1 5 (by decide))) ((k1 6 (by decide)).trans (m1 6 (by decide)))) hw.1 h8 hw.2.1 hw.2.2.1 (by omega) (fun k hk => by rw [e9]; exact hq1.2 k hk) ((if_pos hκ2).symm)
          rw [e9] at hz
          exact ⟨rfl, k3.1, hz⟩
        · by_cases hq3 : tK a n (tN a n (tN a n p)) = 2 ∧ tV a n (tN a n (tN a n p)) < T 0 ∧ ¬ tV a n (tN a n (tN a n p)) = tV a n (tN a n p)
          · refine ep_aln t27_0 rfl ?_
            refine ep_get t27_1 rfl (Nat.le_of_ble_eq_true rfl) rfl ?_
            refine ep_val (b := nI (nmM T)) (hd.1.2.2.2.1) ?_
            refine ep_cs t27_4 (Nat.ne_of_beq_eq_false rfl) rfl (Nat.le_of_ble_eq_true rfl) (cl_bitCount26 hnl) ?_
            refine ep_k2 (w := nI 8) t27_7 rfl ?_
            refine ep_ifP t27_9 (ic_lt (by omega) (by omega)) (fun (c9 : (pcn 26 (nmM T)) < 8) => ?_) (fun (c9 : ¬ ((pcn 26 (nmM T)) < 8)) => (by omega))
            refine ep_aln t27_14 rfl ?_
            refine ep_k1 (w := nI 1) t27_15 rfl ?_
            refine ep_k4 (w := nI 67108863) t27_16 rfl ?_
            refine ep_aln t27_18 rfl ?_
            refine ep_get t27_19 rfl (Nat.le_of_ble_eq_true rfl) rfl ?_
            refine ep_val (b := nI (nmM T)) (hd.1.2.2.2.1) ?_
            refine ep_k1 (w := (-1)) t27_22 rfl ?_
            refine ep_xor t27_23 ?_
            refine ep_and t27_24 ?_
            refine ep_val (b := nI (andN 67108863 (nmM T))) (and_notG _ _) ?_
            obtain ⟨v9, g9, h9, σ1, rfl, rfl, m1, m2, m3⟩ := cl_tk1_y (X := X) (q := q) (σ := σ) (a := a) (n := n) (p := p) (al := andN 67108863 (nmM T)) ha hn (hx) (hp) (e2) (Nat.lt_trans (andN_le (n := 26) _ _ (by decide)) (by decide)) (⟨hq1.1, (na_bit (hk9.2.2.1 hq1.1)).mpr hq1.2⟩)
            refine ep_cv t27_25 rfl rfl (Nat.le_of_ble_eq_true rfl) (Nat.le_of_ble_eq_true rfl) (h9) ?_
            refine ep_isn (L' := [some (.ref 3), some (.ref 1), some (.int (nI κ)), some (.int (nI (tV a n p - 97))), none, none]) t27_28 rfl (Nat.le_of_ble_eq_true rfl) ?_
            refine ep_iln t27_29 rfl ?_
            refine ep_if0P t27_30 (ic0_ge (by omega)) (fun (c30 : 0 ≤ (tV a n p - 97)) => ?_) (fun (c30 : ¬ (0 ≤ (tV a n p - 97))) => (by omega))
            refine ep_aln t27_35 rfl ?_
            refine ep_k1 (w := nI 2) t27_36 rfl ?_
            refine ep_aln t27_37 rfl ?_
            refine ep_cv t27_38 rfl rfl (Nat.le_of_ble_eq_true rfl) (Nat.le_of_ble_eq_true rfl) (cl_allNodes h6 ((congrFun (m1 3 (by decide)) 0).trans hd.1.1)) ?_
            obtain ⟨v9, g9, h9, σ2, rfl, rfl, k1, k2, k3⟩ := cl_tk2_y (X := X) (q := q) (σ := σ1) (a := a) (n := n) (p := tN a n p) (al := 2 ^ T 0 - 1) ha hn (FrC.tx ⟨fun r h1 _ _ _ _ => m1 r h1, m2⟩ hx) (hp2) (m3.1) (by omega) (⟨hq2.1, pm1_bit.mpr hq2.2⟩)
            refine ep_cv t27_41 rfl rfl (Nat.le_of_ble_eq_true rfl) (Nat.le_of_ble_eq_true rfl) (h9) ?_
            refine ep_is (L' := [some (.ref 3), some (.ref 1), some (.int (nI κ)), some (.int (nI (tV a n p - 97))), some (.int (nI (tV a n (tN a n p)))), none]) t27_44 rfl (Nat.le_of_ble_eq_true rfl) ?_
            refine ep_il t27_46 rfl ?_
            refine ep_if0P t27_48 (ic0_ge (by omega)) (fun (c48 : 0 ≤ (tV a n (tN a n p))) => ?_) (fun (c48 : ¬ (0 ≤ (tV a n (tN a n p)))) => (by omega))
            refine ep_iln t27_53 rfl ?_
            refine ep_k1 (w := nI 2) t27_54 rfl ?_
            refine ep_ifP t27_55 (ic_ne (by omega) (by omega)) (fun (c55 : ¬ κ = 2) => ?_) (fun (c55 : ¬ (¬ κ = 2)) => (by exact absurd hκ2 c55))
            refine ep_aln t27_63 rfl ?_
            refine ep_k1 (w := nI 2) t27_64 rfl ?_
            refine ep_aln t27_65 rfl ?_
            refine ep_cv t27_66 rfl rfl (Nat.le_of_ble_eq_true rfl) (Nat.le_of_ble_eq_true rfl) (cl_allNodes h6 ((congrFun ((k1 3 (by decide)).trans (m1 3 (by decide))) 0).trans hd.1.1)) ?_
            refine ep_il t27_69 rfl ?_
            refine ep_cs t27_71 (Nat.ne_of_beq_eq_false rfl) rfl (Nat.le_of_ble_eq_true rfl) (cl_asSet (by omega)) ?_
            refine ep_k1 (w := (-1)) t27_74 rfl ?_
            refine ep_xor t27_75 ?_
            refine ep_and t27_76 ?_
            refine ep_val (b := nI (andN (2 ^ T 0 - 1) (2 ^ tV a n (tN a n p)))) (and_notG _ _) ?_
            obtain ⟨v9, g9, h9, σ3, rfl, rfl, j1, j2, j3⟩ := cl_tk2_y (X := X) (q := q) (σ := σ2) (a := a) (n := n) (p := tN a n (tN a n p)) (al := andN (2 ^ T 0 - 1) (2 ^ tV a n (tN a n p))) ha hn (FrC.tx ⟨fun r h1 _ _ _ _ => (k1 r h1).trans (m1 r h1), k2.trans m2⟩ hx) (hp3) (k3.1) (al_lt h6) (⟨hq3.1, al2_bit.mpr hq3.2⟩)
            refine ep_cv t27_77 rfl rfl (Nat.le_of_ble_eq_true rfl) (Nat.le_of_ble_eq_true rfl) (h9) ?_
            refine ep_is (L' := [some (.ref 3), some (.ref 1), some (.int (nI κ)), some (.int (nI (tV a n p - 97))), some (.int (nI (tV a n (tN a n p)))), some (.int (nI (tV a n (tN a n (tN a n p)))))]) t27_80 rfl (Nat.le_of_ble_eq_true rfl) ?_
            refine ep_il t27_82 rfl ?_
            refine ep_k1 (w := (-1)) t27_84 rfl ?_
            refine ep_if t27_85 (fun (c85 : ¬ (nI (tV a n (tN a n (tN a n p)))) = ((-1))) => ?_) (fun (c85 : ¬ (¬ (nI (tV a n (tN a n (tN a n p)))) = ((-1)))) => (by exact absurd (nI_m1 (by have := hk3.2.2.2.1 hq3.1; omega)) c85))
            refine ep_aln t27_90 rfl ?_
            refine ep_dup t27_91 rfl ?_
            refine ep_get t27_92 rfl (Nat.le_of_ble_eq_true rfl) rfl ?_
            refine ep_val (b := nI (nmM T)) ((congrFun ((j1 3 (by decide)).trans ((k1 3 (by decide)).trans (m1 3 (by decide)))) 3).trans hd.1.2.2.2.1) ?_
            refine ep_k1 (w := nI 1) t27_95 rfl ?_
            refine ep_iln t27_96 rfl ?_
            refine ep_oneN (b := tV a n p - 97) t27_97 (by omega) ?_
            refine ep_orN (a := nmM T) (b := 2 ^ (tV a n p - 97)) t27_98 ?_
            refine ep_put t27_99 rfl (Nat.le_of_ble_eq_true rfl) rfl ?_
            refine ep_aln t27_102 rfl ?_
            refine ep_getr (q := 4) t27_103 rfl (Nat.le_of_ble_eq_true rfl) rfl (rfl) ?_
            refine ep_iln t27_106 rfl ?_
            refine ep_iln t27_107 rfl ?_
            refine ep_astN t27_108 rfl (Nat.le_of_ble_eq_true rfl) (Nat.le_of_ble_eq_true rfl) (by omega) ?_
            refine ep_aln t27_109 rfl ?_
            refine ep_getr (q := 5) t27_110 rfl (Nat.le_of_ble_eq_true rfl) rfl (rfl) ?_
            refine ep_iln t27_113 rfl ?_
            refine ep_il t27_114 rfl ?_
            refine ep_astN t27_116 rfl (Nat.le_of_ble_eq_true rfl) (Nat.le_of_ble_eq_true rfl) (by omega) ?_
            refine ep_aln t27_117 rfl ?_
            refine ep_getr (q := 6) t27_118 rfl (Nat.le_of_ble_eq_true rfl) rfl (rfl) ?_
            refine ep_iln t27_121 rfl ?_
            refine ep_il t27_122 rfl ?_
            refine ep_astN t27_124 rfl (Nat.le_of_ble_eq_true rfl) (Nat.le_of_ble_eq_true rfl) (by omega) ?_
            refine ep_k1 (w := nI 1) t27_125 rfl ?_
            refine ep_ri t27_126 (fun _ => rfl) ?_
            refine ⟨_, rfl, ⟨fun r h1 h3 h4 h5 h6 => by (repeat rw [g_up_ne (by assumption)]); exact (j1 r h1).trans ((k1 r h1).trans (m1 r h1)), j2.trans (k2.trans m2)⟩, ?_⟩
            unfold rW
            unfold rW2 rW3
            rw [cif_pos h8, cif_pos hq1, cif_pos hq2, if_neg hκ2, cif_pos hq3]
            have hv := hk9.2.2.1 hq1.1
            have e9 : 97 + (tV a n p - 97) = tV a n p := by omega
            have hz := DrC.add (κ := κ) (x := tV a n p - 97) (u := tV a n (tN a n p)) (v := tV a n (tN a n (tN a n p))) (w := nI (tV a n (tN a n (tN a n p)))) (hd.fr ((j1 3 (by decide)).trans ((k1 3 (by decide)).trans (m1 3 (by decide)))) ((j1 4 (by decide)).trans ((k1 4 (by decide)).trans (m1 4 (by decide)))) ((j1 5 (by decide)).trans ((k1 5 (by decide)).trans (m1 5 (by decide)))) ((j1 6 (by decide)).trans ((k1 6 (by decide)).trans (m1 6 (by decide))))) hw.1 h8 hw.2.1 hw.2.2.1 (by omega) (fun k hk => by rw [e9]; exact hq1.2 k hk) ((if_neg hκ2).symm)
            rw [e9] at hz
            exact ⟨rfl, j3.1, hz⟩
          · refine ep_aln t27_0 rfl ?_
            refine ep_get t27_1 rfl (Nat.le_of_ble_eq_true rfl) rfl ?_
            refine ep_val (b := nI (nmM T)) (hd.1.2.2.2.1) ?_
            refine ep_cs t27_4 (Nat.ne_of_beq_eq_false rfl) rfl (Nat.le_of_ble_eq_true rfl) (cl_bitCount26 hnl) ?_
            refine ep_k2 (w := nI 8) t27_7 rfl ?_
            refine ep_ifP t27_9 (ic_lt (by omega) (by omega)) (fun (c9 : (pcn 26 (nmM T)) < 8) => ?_) (fun (c9 : ¬ ((pcn 26 (nmM T)) < 8)) => (by omega))
            refine ep_aln t27_14 rfl ?_
            refine ep_k1 (w := nI 1) t27_15 rfl ?_
            refine ep_k4 (w := nI 67108863) t27_16 rfl ?_
            refine ep_aln t27_18 rfl ?_
            refine ep_get t27_19 rfl (Nat.le_of_ble_eq_true rfl) rfl ?_
            refine ep_val (b := nI (nmM T)) (hd.1.2.2.2.1) ?_
            refine ep_k1 (w := (-1)) t27_22 rfl ?_
            refine ep_xor t27_23 ?_
            refine ep_and t27_24 ?_
            refine ep_val (b := nI (andN 67108863 (nmM T))) (and_notG _ _) ?_
            obtain ⟨v9, g9, h9, σ1, rfl, rfl, m1, m2, m3⟩ := cl_tk1_y (X := X) (q := q) (σ := σ) (a := a) (n := n) (p := p) (al := andN 67108863 (nmM T)) ha hn (hx) (hp) (e2) (Nat.lt_trans (andN_le (n := 26) _ _ (by decide)) (by decide)) (⟨hq1.1, (na_bit (hk9.2.2.1 hq1.1)).mpr hq1.2⟩)
            refine ep_cv t27_25 rfl rfl (Nat.le_of_ble_eq_true rfl) (Nat.le_of_ble_eq_true rfl) (h9) ?_
            refine ep_isn (L' := [some (.ref 3), some (.ref 1), some (.int (nI κ)), some (.int (nI (tV a n p - 97))), none, none]) t27_28 rfl (Nat.le_of_ble_eq_true rfl) ?_
            refine ep_iln t27_29 rfl ?_
            refine ep_if0P t27_30 (ic0_ge (by omega)) (fun (c30 : 0 ≤ (tV a n p - 97)) => ?_) (fun (c30 : ¬ (0 ≤ (tV a n p - 97))) => (by omega))
            refine ep_aln t27_35 rfl ?_
            refine ep_k1 (w := nI 2) t27_36 rfl ?_
            refine ep_aln t27_37 rfl ?_
            refine ep_cv t27_38 rfl rfl (Nat.le_of_ble_eq_true rfl) (Nat.le_of_ble_eq_true rfl) (cl_allNodes h6 ((congrFun (m1 3 (by decide)) 0).trans hd.1.1)) ?_
            obtain ⟨v9, g9, h9, σ2, rfl, rfl, k1, k2, k3⟩ := cl_tk2_y (X := X) (q := q) (σ := σ1) (a := a) (n := n) (p := tN a n p) (al := 2 ^ T 0 - 1) ha hn (FrC.tx ⟨fun r h1 _ _ _ _ => m1 r h1, m2⟩ hx) (hp2) (m3.1) (by omega) (⟨hq2.1, pm1_bit.mpr hq2.2⟩)
            refine ep_cv t27_41 rfl rfl (Nat.le_of_ble_eq_true rfl) (Nat.le_of_ble_eq_true rfl) (h9) ?_
            refine ep_is (L' := [some (.ref 3), some (.ref 1), some (.int (nI κ)), some (.int (nI (tV a n p - 97))), some (.int (nI (tV a n (tN a n p)))), none]) t27_44 rfl (Nat.le_of_ble_eq_true rfl) ?_
            refine ep_il t27_46 rfl ?_
            refine ep_if0P t27_48 (ic0_ge (by omega)) (fun (c48 : 0 ≤ (tV a n (tN a n p))) => ?_) (fun (c48 : ¬ (0 ≤ (tV a n (tN a n p)))) => (by omega))
            refine ep_iln t27_53 rfl ?_
            refine ep_k1 (w := nI 2) t27_54 rfl ?_
            refine ep_ifP t27_55 (ic_ne (by omega) (by omega)) (fun (c55 : ¬ κ = 2) => ?_) (fun (c55 : ¬ (¬ κ = 2)) => (by exact absurd hκ2 c55))
            refine ep_aln t27_63 rfl ?_
            refine ep_k1 (w := nI 2) t27_64 rfl ?_
            refine ep_aln t27_65 rfl ?_
            refine ep_cv t27_66 rfl rfl (Nat.le_of_ble_eq_true rfl) (Nat.le_of_ble_eq_true rfl) (cl_allNodes h6 ((congrFun ((k1 3 (by decide)).trans (m1 3 (by decide))) 0).trans hd.1.1)) ?_
            refine ep_il t27_69 rfl ?_
            refine ep_cs t27_71 (Nat.ne_of_beq_eq_false rfl) rfl (Nat.le_of_ble_eq_true rfl) (cl_asSet (by omega)) ?_
            refine ep_k1 (w := (-1)) t27_74 rfl ?_
            refine ep_xor t27_75 ?_
            refine ep_and t27_76 ?_
            refine ep_val (b := nI (andN (2 ^ T 0 - 1) (2 ^ tV a n (tN a n p)))) (and_notG _ _) ?_
            obtain ⟨v9, g9, h9, σ3, rfl, rfl, j1, j2, j3⟩ := cl_tk2_n (X := X) (q := q) (σ := σ2) (a := a) (n := n) (p := tN a n (tN a n p)) (al := andN (2 ^ T 0 - 1) (2 ^ tV a n (tN a n p))) ha hn (FrC.tx ⟨fun r h1 _ _ _ _ => (k1 r h1).trans (m1 r h1), k2.trans m2⟩ hx) (hp3) (k3.1) (al_lt h6) (fun h => hq3 ⟨h.1, al2_bit.mp h.2⟩)
            refine ep_cv t27_77 rfl rfl (Nat.le_of_ble_eq_true rfl) (Nat.le_of_ble_eq_true rfl) (h9) ?_
            refine ep_is (L' := [some (.ref 3), some (.ref 1), some (.int (nI κ)), some (.int (nI (tV a n p - 97))), some (.int (nI (tV a n (tN a n p)))), some (.int ((-1)))]) t27_80 rfl (Nat.le_of_ble_eq_true rfl) ?_
            refine ep_il t27_82 rfl ?_
            refine ep_k1 (w := (-1)) t27_84 rfl ?_
            refine ep_if t27_85 (fun (c85 : ¬ ((-1)) = ((-1))) => (by exact absurd rfl c85)) (fun (c85 : ¬ (¬ ((-1)) = ((-1)))) => ?_)
            refine ep_k1 (w := nI 0) t27_88 rfl ?_
            refine ep_ri t27_89 (fun _ => rfl) ?_
            refine ⟨_, rfl, ⟨fun r h1 h3 h4 h5 h6 => (j1 r h1).trans ((k1 r h1).trans (m1 r h1)), j2.trans (k2.trans m2)⟩, ?_⟩
            unfold rW
            unfold rW2 rW3
            rw [cif_pos h8, cif_pos hq1, cif_pos hq2, if_neg hκ2, cif_neg hq3]
            exact ⟨rfl, j3.2.1⟩
      · refine ep_aln t27_0 rfl ?_
        refine ep_get t27_1 rfl (Nat.le_of_ble_eq_true rfl) rfl ?_
        refine ep_val (b := nI (nmM T)) (hd.1.2.2.2.1) ?_
        refine ep_cs t27_4 (Nat.ne_of_beq_eq_false rfl) rfl (Nat.le_of_ble_eq_true rfl) (cl_bitCount26 hnl) ?_
        refine ep_k2 (w := nI 8) t27_7 rfl ?_
        refine ep_ifP t27_9 (ic_lt (by omega) (by omega)) (fun (c9 : (pcn 26 (nmM T)) < 8) => ?_) (fun (c9 : ¬ ((pcn 26 (nmM T)) < 8)) => (by omega))
        refine ep_aln t27_14 rfl ?_
        refine ep_k1 (w := nI 1) t27_15 rfl ?_
        refine ep_k4 (w := nI 67108863) t27_16 rfl ?_
        refine ep_aln t27_18 rfl ?_
        refine ep_get t27_19 rfl (Nat.le_of_ble_eq_true rfl) rfl ?_
        refine ep_val (b := nI (nmM T)) (hd.1.2.2.2.1) ?_
        refine ep_k1 (w := (-1)) t27_22 rfl ?_
        refine ep_xor t27_23 ?_
        refine ep_and t27_24 ?_
        refine ep_val (b := nI (andN 67108863 (nmM T))) (and_notG _ _) ?_
        obtain ⟨v9, g9, h9, σ1, rfl, rfl, m1, m2, m3⟩ := cl_tk1_y (X := X) (q := q) (σ := σ) (a := a) (n := n) (p := p) (al := andN 67108863 (nmM T)) ha hn (hx) (hp) (e2) (Nat.lt_trans (andN_le (n := 26) _ _ (by decide)) (by decide)) (⟨hq1.1, (na_bit (hk9.2.2.1 hq1.1)).mpr hq1.2⟩)
        refine ep_cv t27_25 rfl rfl (Nat.le_of_ble_eq_true rfl) (Nat.le_of_ble_eq_true rfl) (h9) ?_
        refine ep_isn (L' := [some (.ref 3), some (.ref 1), some (.int (nI κ)), some (.int (nI (tV a n p - 97))), none, none]) t27_28 rfl (Nat.le_of_ble_eq_true rfl) ?_
        refine ep_iln t27_29 rfl ?_
        refine ep_if0P t27_30 (ic0_ge (by omega)) (fun (c30 : 0 ≤ (tV a n p - 97)) => ?_) (fun (c30 : ¬ (0 ≤ (tV a n p - 97))) => (by omega))
        refine ep_aln t27_35 rfl ?_
        refine ep_k1 (w := nI 2) t27_36 rfl ?_
        refine ep_aln t27_37 rfl ?_
        refine ep_cv t27_38 rfl rfl (Nat.le_of_ble_eq_true rfl) (Nat.le_of_ble_eq_true rfl) (cl_allNodes h6 ((congrFun (m1 3 (by decide)) 0).trans hd.1.1)) ?_
        obtain ⟨v9, g9, h9, σ2, rfl, rfl, k1, k2, k3⟩ := cl_tk2_n (X := X) (q := q) (σ := σ1) (a := a) (n := n) (p := tN a n p) (al := 2 ^ T 0 - 1) ha hn (FrC.tx ⟨fun r h1 _ _ _ _ => m1 r h1, m2⟩ hx) (hp2) (m3.1) (by omega) (fun h => hq2 ⟨h.1, pm1_bit.mp h.2⟩)
        refine ep_cv t27_41 rfl rfl (Nat.le_of_ble_eq_true rfl) (Nat.le_of_ble_eq_true rfl) (h9) ?_
        refine ep_is (L' := [some (.ref 3), some (.ref 1), some (.int (nI κ)), some (.int (nI (tV a n p - 97))), some (.int ((-1))), none]) t27_44 rfl (Nat.le_of_ble_eq_true rfl) ?_
        refine ep_il t27_46 rfl ?_
        refine ep_if0 t27_48 (fun (c48 : 0 ≤ ((-1))) => (by exact absurd c48 (by decide))) (fun (c48 : ¬ (0 ≤ ((-1)))) => ?_)
        refine ep_k1 (w := nI 0) t27_51 rfl ?_
        refine ep_ri t27_52 (fun _ => rfl) ?_
        refine ⟨_, rfl, ⟨fun r h1 h3 h4 h5 h6 => (k1 r h1).trans (m1 r h1), k2.trans m2⟩, ?_⟩
        unfold rW
        unfold rW2
        rw [cif_pos h8, cif_pos hq1, cif_neg hq2]
        exact ⟨rfl, k3.2.1⟩
    · refine ep_aln t27_0 rfl ?_
      refine ep_get t27_1 rfl (Nat.le_of_ble_eq_true rfl) rfl ?_
      refine ep_val (b := nI (nmM T)) (hd.1.2.2.2.1) ?_
      refine ep_cs t27_4 (Nat.ne_of_beq_eq_false rfl) rfl (Nat.le_of_ble_eq_true rfl) (cl_bitCount26 hnl) ?_
      refine ep_k2 (w := nI 8) t27_7 rfl ?_
      refine ep_ifP t27_9 (ic_lt (by omega) (by omega)) (fun (c9 : (pcn 26 (nmM T)) < 8) => ?_) (fun (c9 : ¬ ((pcn 26 (nmM T)) < 8)) => (by omega))
      refine ep_aln t27_14 rfl ?_
      refine ep_k1 (w := nI 1) t27_15 rfl ?_
      refine ep_k4 (w := nI 67108863) t27_16 rfl ?_
      refine ep_aln t27_18 rfl ?_
      refine ep_get t27_19 rfl (Nat.le_of_ble_eq_true rfl) rfl ?_
      refine ep_val (b := nI (nmM T)) (hd.1.2.2.2.1) ?_
      refine ep_k1 (w := (-1)) t27_22 rfl ?_
      refine ep_xor t27_23 ?_
      refine ep_and t27_24 ?_
      refine ep_val (b := nI (andN 67108863 (nmM T))) (and_notG _ _) ?_
      obtain ⟨v9, g9, h9, σ1, rfl, rfl, m1, m2, m3⟩ := cl_tk1_n (X := X) (q := q) (σ := σ) (a := a) (n := n) (p := p) (al := andN 67108863 (nmM T)) ha hn (hx) (hp) (e2) (Nat.lt_trans (andN_le (n := 26) _ _ (by decide)) (by decide)) (fun h => hq1 ⟨h.1, (na_bit (hk9.2.2.1 h.1)).mp h.2⟩)
      refine ep_cv t27_25 rfl rfl (Nat.le_of_ble_eq_true rfl) (Nat.le_of_ble_eq_true rfl) (h9) ?_
      refine ep_isn (L' := [some (.ref 3), some (.ref 1), some (.int (nI κ)), some (.int ((-1))), none, none]) t27_28 rfl (Nat.le_of_ble_eq_true rfl) ?_
      refine ep_iln t27_29 rfl ?_
      refine ep_if0 t27_30 (fun (c30 : 0 ≤ ((-1))) => (by exact absurd c30 (by decide))) (fun (c30 : ¬ (0 ≤ ((-1)))) => ?_)
      refine ep_k1 (w := nI 0) t27_33 rfl ?_
      refine ep_ri t27_34 (fun _ => rfl) ?_
      refine ⟨_, rfl, ⟨fun r h1 h3 h4 h5 h6 => m1 r h1, m2⟩, ?_⟩
      unfold rW
      rw [cif_pos h8, cif_neg hq1]
      exact ⟨rfl, m3.2.1⟩
  · refine ep_aln t27_0 rfl ?_
    refine ep_get t27_1 rfl (Nat.le_of_ble_eq_true rfl) rfl ?_
    refine ep_val (b := nI (nmM T)) (hd.1.2.2.2.1) ?_
    refine ep_cs t27_4 (Nat.ne_of_beq_eq_false rfl) rfl (Nat.le_of_ble_eq_true rfl) (cl_bitCount26 hnl) ?_
    refine ep_k2 (w := nI 8) t27_7 rfl ?_
    refine ep_ifP t27_9 (ic_lt (by omega) (by omega)) (fun (c9 : (pcn 26 (nmM T)) < 8) => (by omega)) (fun (c9 : ¬ ((pcn 26 (nmM T)) < 8)) => ?_)
    refine ep_k1 (w := nI 0) t27_12 rfl ?_
    refine ep_ri t27_13 (fun _ => rfl) ?_
    refine ⟨_, rfl, ⟨fun _ _ _ _ _ _ => rfl, rfl⟩, ?_⟩
    unfold rW
    rw [cif_neg h8]
    exact ⟨rfl, e3⟩

theorem cl_readItem {X : gX} {q : Bool} {σ : gT1} {a : Nat → Nat} {n : Nat} (ha : ∀ j, a j < 256) (hn : n ≤ 120) (hx : TxC σ a n) {p items : Nat} (hp : p ≤ n) (ht : TokC σ a n p) (hit : items ≤ 120) {T : Nat → Nat} {c l : Nat} (hw : WFD T c l) (hd : DrC σ T c l) : ClP X 30 [.ref 3, .ref 1, .int (nI items)] (47, g_rho q, σ) (fun v g1 => ∃ σ1, g1 = (47, g_rho q, σ1) ∧ FrC σ σ1 ∧ RC σ1 v (itm a n p items T c l)) := by
  have hk9 := tk_all (a := a) hp
  have hp2 := hk9.1.2.2.1
  refine ClP.of ⟨Nat.le_of_ble_eq_true rfl, rfl⟩ ?_
  show EvP X 30 0 [some (.ref 3), some (.ref 1), some (.int (nI items))] [] (47, g_rho q, σ) _
  by_cases h1 : tK a n p = 1
  · unfold itm
    rw [if_pos h1]
    have hv := hk9.2.2.1 h1
    obtain ⟨V, eV⟩ : ∃ V, V = tV a n p := ⟨_, rfl⟩
    rw [← eV] at hv
    rw [← eV]
    obtain rfl | rfl | rfl | rfl | rfl | rfl | rfl | rfl | rfl | rfl | rfl | rfl | rfl | rfl | rfl | rfl | rfl | rfl | rfl | rfl | rfl | rfl | rfl | rfl | rfl | rfl := (by omega : V = 97 ∨ V = 98 ∨ V = 99 ∨ V = 100 ∨ V = 101 ∨ V = 102 ∨ V = 103 ∨ V = 104 ∨ V = 105 ∨ V = 106 ∨ V = 107 ∨ V = 108 ∨ V = 109 ∨ V = 110 ∨ V = 111 ∨ V = 112 ∨ V = 113 ∨ V = 114 ∨ V = 115 ∨ V = 116 ∨ V = 117 ∨ V = 118 ∨ V = 119 ∨ V = 120 ∨ V = 121 ∨ V = 122)
    · refine ep_aln t30_0 rfl ?_
      refine ep_get t30_1 rfl (Nat.le_of_ble_eq_true rfl) rfl ?_
      refine ep_val (b := nI (tK a n p)) (ht.2.2.1) ?_
      refine ep_k1 (w := nI 1) t30_4 rfl ?_
      refine ep_ifP t30_5 (ic_eq (by omega) (by omega)) (fun (c5 : (tK a n p) = 1) => ?_) (fun (c5 : ¬ ((tK a n p) = 1)) => (by exact absurd h1 c5))
      refine ep_aln t30_10 rfl ?_
      refine ep_get t30_11 rfl (Nat.le_of_ble_eq_true rfl) rfl ?_
      refine ep_val (b := nI 0) ((ht.2.2.2.1 h1).trans (by rw [← eV])) ?_
      refine ep_k2 (w := nI 97) t30_14 rfl ?_
      refine ep_addN (a := 0) (b := 97) t30_16 ?_
      refine ep_sw (t := 167) t30_17 (by decide +kernel) ?_
      refine ep_k1 (w := nI 0) t30_167 rfl ?_
      refine ep_ri t30_168 (fun _ => rfl) ?_
      exact ⟨σ, rfl, ⟨fun _ _ _ _ _ _ => rfl, rfl⟩, rfl, ht.2.1⟩
    · refine ep_aln t30_0 rfl ?_
      refine ep_get t30_1 rfl (Nat.le_of_ble_eq_true rfl) rfl ?_
      refine ep_val (b := nI (tK a n p)) (ht.2.2.1) ?_
      refine ep_k1 (w := nI 1) t30_4 rfl ?_
      refine ep_ifP t30_5 (ic_eq (by omega) (by omega)) (fun (c5 : (tK a n p) = 1) => ?_) (fun (c5 : ¬ ((tK a n p) = 1)) => (by exact absurd h1 c5))
      refine ep_aln t30_10 rfl ?_
      refine ep_get t30_11 rfl (Nat.le_of_ble_eq_true rfl) rfl ?_
      refine ep_val (b := nI 1) ((ht.2.2.2.1 h1).trans (by rw [← eV])) ?_
      refine ep_k2 (w := nI 97) t30_14 rfl ?_
      refine ep_addN (a := 1) (b := 97) t30_16 ?_
      refine ep_sw (t := 134) t30_17 (by decide +kernel) ?_
      refine ep_aln t30_134 rfl ?_
      refine ep_aln t30_135 rfl ?_
      refine ep_k1 (w := nI 0) t30_136 rfl ?_
      obtain ⟨v9, g9, h9, σ1, rfl, f1, r1⟩ := cl_readSwitch (X := X) (q := q) (σ := σ) (a := a) (n := n) (p := tN a n p) (T := T) (c := c) (l := l) ha hn hx hp2 ht.1 hw hd (κ := 0) (f := tS a n p) (by decide) ht.2.1
      obtain ⟨b9, rfl⟩ := r1.v
      refine ep_cv t30_137 rfl rfl (Nat.le_of_ble_eq_true rfl) (Nat.le_of_ble_eq_true rfl) (h9) ?_
      refine ep_ri t30_140 (fun _ => bI_and _) ?_
      exact ⟨σ1, rfl, f1, r1⟩
    · refine ep_aln t30_0 rfl ?_
      refine ep_get t30_1 rfl (Nat.le_of_ble_eq_true rfl) rfl ?_
      refine ep_val (b := nI (tK a n p)) (ht.2.2.1) ?_
      refine ep_k1 (w := nI 1) t30_4 rfl ?_
      refine ep_ifP t30_5 (ic_eq (by omega) (by omega)) (fun (c5 : (tK a n p) = 1) => ?_) (fun (c5 : ¬ ((tK a n p) = 1)) => (by exact absurd h1 c5))
      refine ep_aln t30_10 rfl ?_
      refine ep_get t30_11 rfl (Nat.le_of_ble_eq_true rfl) rfl ?_
      refine ep_val (b := nI 2) ((ht.2.2.2.1 h1).trans (by rw [← eV])) ?_
      refine ep_k2 (w := nI 97) t30_14 rfl ?_
      refine ep_addN (a := 2) (b := 97) t30_16 ?_
      refine ep_sw (t := 155) t30_17 (by decide +kernel) ?_
      refine ep_aln t30_155 rfl ?_
      refine ep_aln t30_156 rfl ?_
      obtain ⟨v9, g9, h9, σ1, rfl, f1, r1⟩ := cl_readClosed (X := X) (q := q) (σ := σ) (a := a) (n := n) (p := tN a n p) (T := T) (c := c) (l := l) ha hn hx hp2 ht.1 hw hd
      obtain ⟨b9, rfl⟩ := r1.v
      refine ep_cv t30_157 rfl rfl (Nat.le_of_ble_eq_true rfl) (Nat.le_of_ble_eq_true rfl) (h9) ?_
      refine ep_ri t30_160 (fun _ => bI_and _) ?_
      exact ⟨σ1, rfl, f1, r1⟩
    · refine ep_aln t30_0 rfl ?_
      refine ep_get t30_1 rfl (Nat.le_of_ble_eq_true rfl) rfl ?_
      refine ep_val (b := nI (tK a n p)) (ht.2.2.1) ?_
      refine ep_k1 (w := nI 1) t30_4 rfl ?_
      refine ep_ifP t30_5 (ic_eq (by omega) (by omega)) (fun (c5 : (tK a n p) = 1) => ?_) (fun (c5 : ¬ ((tK a n p) = 1)) => (by exact absurd h1 c5))
      refine ep_aln t30_10 rfl ?_
      refine ep_get t30_11 rfl (Nat.le_of_ble_eq_true rfl) rfl ?_
      refine ep_val (b := nI 3) ((ht.2.2.2.1 h1).trans (by rw [← eV])) ?_
      refine ep_k2 (w := nI 97) t30_14 rfl ?_
      refine ep_addN (a := 3) (b := 97) t30_16 ?_
      refine ep_sw (t := 128) t30_17 (by decide +kernel) ?_
      refine ep_aln t30_128 rfl ?_
      refine ep_aln t30_129 rfl ?_
      obtain ⟨v9, g9, h9, σ1, rfl, f1, r1⟩ := cl_readLoad (X := X) (q := q) (σ := σ) (a := a) (n := n) (p := tN a n p) (T := T) (c := c) (l := l) ha hn hx hp2 ht.1 hw hd
      obtain ⟨b9, rfl⟩ := r1.v
      refine ep_cv t30_130 rfl rfl (Nat.le_of_ble_eq_true rfl) (Nat.le_of_ble_eq_true rfl) (h9) ?_
      refine ep_ri t30_133 (fun _ => bI_and _) ?_
      exact ⟨σ1, rfl, f1, r1⟩
    · refine ep_aln t30_0 rfl ?_
      refine ep_get t30_1 rfl (Nat.le_of_ble_eq_true rfl) rfl ?_
      refine ep_val (b := nI (tK a n p)) (ht.2.2.1) ?_
      refine ep_k1 (w := nI 1) t30_4 rfl ?_
      refine ep_ifP t30_5 (ic_eq (by omega) (by omega)) (fun (c5 : (tK a n p) = 1) => ?_) (fun (c5 : ¬ ((tK a n p) = 1)) => (by exact absurd h1 c5))
      refine ep_aln t30_10 rfl ?_
      refine ep_get t30_11 rfl (Nat.le_of_ble_eq_true rfl) rfl ?_
      refine ep_val (b := nI 4) ((ht.2.2.2.1 h1).trans (by rw [← eV])) ?_
      refine ep_k2 (w := nI 97) t30_14 rfl ?_
      refine ep_addN (a := 4) (b := 97) t30_16 ?_
      refine ep_sw (t := 148) t30_17 (by decide +kernel) ?_
      refine ep_aln t30_148 rfl ?_
      refine ep_aln t30_149 rfl ?_
      refine ep_k1 (w := nI 2) t30_150 rfl ?_
      obtain ⟨v9, g9, h9, σ1, rfl, f1, r1⟩ := cl_readSwitch (X := X) (q := q) (σ := σ) (a := a) (n := n) (p := tN a n p) (T := T) (c := c) (l := l) ha hn hx hp2 ht.1 hw hd (κ := 2) (f := tS a n p) (by decide) ht.2.1
      obtain ⟨b9, rfl⟩ := r1.v
      refine ep_cv t30_151 rfl rfl (Nat.le_of_ble_eq_true rfl) (Nat.le_of_ble_eq_true rfl) (h9) ?_
      refine ep_ri t30_154 (fun _ => bI_and _) ?_
      exact ⟨σ1, rfl, f1, r1⟩
    · refine ep_aln t30_0 rfl ?_
      refine ep_get t30_1 rfl (Nat.le_of_ble_eq_true rfl) rfl ?_
      refine ep_val (b := nI (tK a n p)) (ht.2.2.1) ?_
      refine ep_k1 (w := nI 1) t30_4 rfl ?_
      refine ep_ifP t30_5 (ic_eq (by omega) (by omega)) (fun (c5 : (tK a n p) = 1) => ?_) (fun (c5 : ¬ ((tK a n p) = 1)) => (by exact absurd h1 c5))
      refine ep_aln t30_10 rfl ?_
      refine ep_get t30_11 rfl (Nat.le_of_ble_eq_true rfl) rfl ?_
      refine ep_val (b := nI 5) ((ht.2.2.2.1 h1).trans (by rw [← eV])) ?_
      refine ep_k2 (w := nI 97) t30_14 rfl ?_
      refine ep_addN (a := 5) (b := 97) t30_16 ?_
      refine ep_sw (t := 167) t30_17 (by decide +kernel) ?_
      refine ep_k1 (w := nI 0) t30_167 rfl ?_
      refine ep_ri t30_168 (fun _ => rfl) ?_
      exact ⟨σ, rfl, ⟨fun _ _ _ _ _ _ => rfl, rfl⟩, rfl, ht.2.1⟩
    · refine ep_aln t30_0 rfl ?_
      refine ep_get t30_1 rfl (Nat.le_of_ble_eq_true rfl) rfl ?_
      refine ep_val (b := nI (tK a n p)) (ht.2.2.1) ?_
      refine ep_k1 (w := nI 1) t30_4 rfl ?_
      refine ep_ifP t30_5 (ic_eq (by omega) (by omega)) (fun (c5 : (tK a n p) = 1) => ?_) (fun (c5 : ¬ ((tK a n p) = 1)) => (by exact absurd h1 c5))
      refine ep_aln t30_10 rfl ?_
      refine ep_get t30_11 rfl (Nat.le_of_ble_eq_true rfl) rfl ?_
      refine ep_val (b := nI 6) ((ht.2.2.2.1 h1).trans (by rw [← eV])) ?_
      refine ep_k2 (w := nI 97) t30_14 rfl ?_
      refine ep_addN (a := 6) (b := 97) t30_16 ?_
      refine ep_sw (t := 167) t30_17 (by decide +kernel) ?_
      refine ep_k1 (w := nI 0) t30_167 rfl ?_
      refine ep_ri t30_168 (fun _ => rfl) ?_
      exact ⟨σ, rfl, ⟨fun _ _ _ _ _ _ => rfl, rfl⟩, rfl, ht.2.1⟩
    · refine ep_aln t30_0 rfl ?_
      refine ep_get t30_1 rfl (Nat.le_of_ble_eq_true rfl) rfl ?_
      refine ep_val (b := nI (tK a n p)) (ht.2.2.1) ?_
      refine ep_k1 (w := nI 1) t30_4 rfl ?_
      refine ep_ifP t30_5 (ic_eq (by omega) (by omega)) (fun (c5 : (tK a n p) = 1) => ?_) (fun (c5 : ¬ ((tK a n p) = 1)) => (by exact absurd h1 c5))
      refine ep_aln t30_10 rfl ?_
      refine ep_get t30_11 rfl (Nat.le_of_ble_eq_true rfl) rfl ?_
      refine ep_val (b := nI 7) ((ht.2.2.2.1 h1).trans (by rw [← eV])) ?_
      refine ep_k2 (w := nI 97) t30_14 rfl ?_
      refine ep_addN (a := 7) (b := 97) t30_16 ?_
      refine ep_sw (t := 167) t30_17 (by decide +kernel) ?_
      refine ep_k1 (w := nI 0) t30_167 rfl ?_
      refine ep_ri t30_168 (fun _ => rfl) ?_
      exact ⟨σ, rfl, ⟨fun _ _ _ _ _ _ => rfl, rfl⟩, rfl, ht.2.1⟩
    · refine ep_aln t30_0 rfl ?_
      refine ep_get t30_1 rfl (Nat.le_of_ble_eq_true rfl) rfl ?_
      refine ep_val (b := nI (tK a n p)) (ht.2.2.1) ?_
      refine ep_k1 (w := nI 1) t30_4 rfl ?_
      refine ep_ifP t30_5 (ic_eq (by omega) (by omega)) (fun (c5 : (tK a n p) = 1) => ?_) (fun (c5 : ¬ ((tK a n p) = 1)) => (by exact absurd h1 c5))
      refine ep_aln t30_10 rfl ?_
      refine ep_get t30_11 rfl (Nat.le_of_ble_eq_true rfl) rfl ?_
      refine ep_val (b := nI 8) ((ht.2.2.2.1 h1).trans (by rw [← eV])) ?_
      refine ep_k2 (w := nI 97) t30_14 rfl ?_
      refine ep_addN (a := 8) (b := 97) t30_16 ?_
      refine ep_sw (t := 141) t30_17 (by decide +kernel) ?_
      refine ep_aln t30_141 rfl ?_
      refine ep_aln t30_142 rfl ?_
      refine ep_k1 (w := nI 1) t30_143 rfl ?_
      obtain ⟨v9, g9, h9, σ1, rfl, f1, r1⟩ := cl_readSwitch (X := X) (q := q) (σ := σ) (a := a) (n := n) (p := tN a n p) (T := T) (c := c) (l := l) ha hn hx hp2 ht.1 hw hd (κ := 1) (f := tS a n p) (by decide) ht.2.1
      obtain ⟨b9, rfl⟩ := r1.v
      refine ep_cv t30_144 rfl rfl (Nat.le_of_ble_eq_true rfl) (Nat.le_of_ble_eq_true rfl) (h9) ?_
      refine ep_ri t30_147 (fun _ => bI_and _) ?_
      exact ⟨σ1, rfl, f1, r1⟩
    · refine ep_aln t30_0 rfl ?_
      refine ep_get t30_1 rfl (Nat.le_of_ble_eq_true rfl) rfl ?_
      refine ep_val (b := nI (tK a n p)) (ht.2.2.1) ?_
      refine ep_k1 (w := nI 1) t30_4 rfl ?_
      refine ep_ifP t30_5 (ic_eq (by omega) (by omega)) (fun (c5 : (tK a n p) = 1) => ?_) (fun (c5 : ¬ ((tK a n p) = 1)) => (by exact absurd h1 c5))
      refine ep_aln t30_10 rfl ?_
      refine ep_get t30_11 rfl (Nat.le_of_ble_eq_true rfl) rfl ?_
      refine ep_val (b := nI 9) ((ht.2.2.2.1 h1).trans (by rw [← eV])) ?_
      refine ep_k2 (w := nI 97) t30_14 rfl ?_
      refine ep_addN (a := 9) (b := 97) t30_16 ?_
      refine ep_sw (t := 167) t30_17 (by decide +kernel) ?_
      refine ep_k1 (w := nI 0) t30_167 rfl ?_
      refine ep_ri t30_168 (fun _ => rfl) ?_
      exact ⟨σ, rfl, ⟨fun _ _ _ _ _ _ => rfl, rfl⟩, rfl, ht.2.1⟩
    · refine ep_aln t30_0 rfl ?_
      refine ep_get t30_1 rfl (Nat.le_of_ble_eq_true rfl) rfl ?_
      refine ep_val (b := nI (tK a n p)) (ht.2.2.1) ?_
      refine ep_k1 (w := nI 1) t30_4 rfl ?_
      refine ep_ifP t30_5 (ic_eq (by omega) (by omega)) (fun (c5 : (tK a n p) = 1) => ?_) (fun (c5 : ¬ ((tK a n p) = 1)) => (by exact absurd h1 c5))
      refine ep_aln t30_10 rfl ?_
      refine ep_get t30_11 rfl (Nat.le_of_ble_eq_true rfl) rfl ?_
      refine ep_val (b := nI 10) ((ht.2.2.2.1 h1).trans (by rw [← eV])) ?_
      refine ep_k2 (w := nI 97) t30_14 rfl ?_
      refine ep_addN (a := 10) (b := 97) t30_16 ?_
      refine ep_sw (t := 161) t30_17 (by decide +kernel) ?_
      refine ep_aln t30_161 rfl ?_
      refine ep_aln t30_162 rfl ?_
      obtain ⟨v9, g9, h9, σ1, rfl, f1, r1⟩ := cl_readLocked (X := X) (q := q) (σ := σ) (a := a) (n := n) (p := tN a n p) (T := T) (c := c) (l := l) ha hn hx hp2 ht.1 hw hd
      obtain ⟨b9, rfl⟩ := r1.v
      refine ep_cv t30_163 rfl rfl (Nat.le_of_ble_eq_true rfl) (Nat.le_of_ble_eq_true rfl) (h9) ?_
      refine ep_ri t30_166 (fun _ => bI_and _) ?_
      exact ⟨σ1, rfl, f1, r1⟩
    · refine ep_aln t30_0 rfl ?_
      refine ep_get t30_1 rfl (Nat.le_of_ble_eq_true rfl) rfl ?_
      refine ep_val (b := nI (tK a n p)) (ht.2.2.1) ?_
      refine ep_k1 (w := nI 1) t30_4 rfl ?_
      refine ep_ifP t30_5 (ic_eq (by omega) (by omega)) (fun (c5 : (tK a n p) = 1) => ?_) (fun (c5 : ¬ ((tK a n p) = 1)) => (by exact absurd h1 c5))
      refine ep_aln t30_10 rfl ?_
      refine ep_get t30_11 rfl (Nat.le_of_ble_eq_true rfl) rfl ?_
      refine ep_val (b := nI 11) ((ht.2.2.2.1 h1).trans (by rw [← eV])) ?_
      refine ep_k2 (w := nI 97) t30_14 rfl ?_
      refine ep_addN (a := 11) (b := 97) t30_16 ?_
      refine ep_sw (t := 167) t30_17 (by decide +kernel) ?_
      refine ep_k1 (w := nI 0) t30_167 rfl ?_
      refine ep_ri t30_168 (fun _ => rfl) ?_
      exact ⟨σ, rfl, ⟨fun _ _ _ _ _ _ => rfl, rfl⟩, rfl, ht.2.1⟩
    · refine ep_aln t30_0 rfl ?_
      refine ep_get t30_1 rfl (Nat.le_of_ble_eq_true rfl) rfl ?_
      refine ep_val (b := nI (tK a n p)) (ht.2.2.1) ?_
      refine ep_k1 (w := nI 1) t30_4 rfl ?_
      refine ep_ifP t30_5 (ic_eq (by omega) (by omega)) (fun (c5 : (tK a n p) = 1) => ?_) (fun (c5 : ¬ ((tK a n p) = 1)) => (by exact absurd h1 c5))
      refine ep_aln t30_10 rfl ?_
      refine ep_get t30_11 rfl (Nat.le_of_ble_eq_true rfl) rfl ?_
      refine ep_val (b := nI 12) ((ht.2.2.2.1 h1).trans (by rw [← eV])) ?_
      refine ep_k2 (w := nI 97) t30_14 rfl ?_
      refine ep_addN (a := 12) (b := 97) t30_16 ?_
      refine ep_sw (t := 167) t30_17 (by decide +kernel) ?_
      refine ep_k1 (w := nI 0) t30_167 rfl ?_
      refine ep_ri t30_168 (fun _ => rfl) ?_
      exact ⟨σ, rfl, ⟨fun _ _ _ _ _ _ => rfl, rfl⟩, rfl, ht.2.1⟩
    · refine ep_aln t30_0 rfl ?_
      refine ep_get t30_1 rfl (Nat.le_of_ble_eq_true rfl) rfl ?_
      refine ep_val (b := nI (tK a n p)) (ht.2.2.1) ?_
      refine ep_k1 (w := nI 1) t30_4 rfl ?_
      refine ep_ifP t30_5 (ic_eq (by omega) (by omega)) (fun (c5 : (tK a n p) = 1) => ?_) (fun (c5 : ¬ ((tK a n p) = 1)) => (by exact absurd h1 c5))
      refine ep_aln t30_10 rfl ?_
      refine ep_get t30_11 rfl (Nat.le_of_ble_eq_true rfl) rfl ?_
      refine ep_val (b := nI 13) ((ht.2.2.2.1 h1).trans (by rw [← eV])) ?_
      refine ep_k2 (w := nI 97) t30_14 rfl ?_
      refine ep_addN (a := 13) (b := 97) t30_16 ?_
      refine ep_sw (t := 104) t30_17 (by decide +kernel) ?_
      refine ep_iln t30_104 rfl ?_
      refine ep_if0P t30_105 (ic0_ne (by omega)) (fun (c105 : ¬ items = 0) => ?_) (fun (c105 : ¬ (¬ items = 0)) => ?_)
      · refine ep_k1 (w := nI 0) t30_120 rfl ?_
        refine ep_ri t30_121 (fun _ => rfl) ?_
        show ∃ σ1, _ = (47, g_rho q, σ1) ∧ FrC σ σ1 ∧ RC σ1 _ (if items = 0 then rN a n (tN a n p) T c l else .inl (tS a n p))
        rw [if_neg c105]
        exact ⟨σ, rfl, ⟨fun _ _ _ _ _ _ => rfl, rfl⟩, rfl, ht.2.1⟩
      · refine ep_aln t30_108 rfl ?_
        refine ep_aln t30_109 rfl ?_
        obtain ⟨v9, g9, h9, σ1, rfl, f1, r1⟩ := cl_readNodes (X := X) (q := q) (σ := σ) (a := a) (n := n) (p := tN a n p) (T := T) (c := c) (l := l) ha hn hx hp2 ht.1 hw hd
        obtain ⟨b9, rfl⟩ := r1.v
        refine ep_cv t30_110 rfl rfl (Nat.le_of_ble_eq_true rfl) (Nat.le_of_ble_eq_true rfl) (h9) ?_
        refine ep_bF t30_113 (fun (c113 : b9 = false) => ?_) (fun (c113 : b9 = true) => ?_)
        · refine ep_k1 (w := nI 0) t30_120 rfl ?_
          refine ep_ri t30_121 (fun _ => rfl) ?_
          show ∃ σ1, _ = (47, g_rho q, σ1) ∧ FrC σ σ1 ∧ RC σ1 _ (if items = 0 then rN a n (tN a n p) T c l else .inl (tS a n p))
          rw [if_pos (Classical.byContradiction c105)]
          subst c113
          exact ⟨σ1, rfl, f1, r1⟩
        · refine ep_k1 (w := nI 1) t30_116 rfl ?_
          refine ep_gt t30_117 ?_
          refine ep_ri t30_121 (fun _ => rfl) ?_
          show ∃ σ1, _ = (47, g_rho q, σ1) ∧ FrC σ σ1 ∧ RC σ1 _ (if items = 0 then rN a n (tN a n p) T c l else .inl (tS a n p))
          rw [if_pos (Classical.byContradiction c105)]
          subst c113
          exact ⟨σ1, rfl, f1, r1⟩
    · refine ep_aln t30_0 rfl ?_
      refine ep_get t30_1 rfl (Nat.le_of_ble_eq_true rfl) rfl ?_
      refine ep_val (b := nI (tK a n p)) (ht.2.2.1) ?_
      refine ep_k1 (w := nI 1) t30_4 rfl ?_
      refine ep_ifP t30_5 (ic_eq (by omega) (by omega)) (fun (c5 : (tK a n p) = 1) => ?_) (fun (c5 : ¬ ((tK a n p) = 1)) => (by exact absurd h1 c5))
      refine ep_aln t30_10 rfl ?_
      refine ep_get t30_11 rfl (Nat.le_of_ble_eq_true rfl) rfl ?_
      refine ep_val (b := nI 14) ((ht.2.2.2.1 h1).trans (by rw [← eV])) ?_
      refine ep_k2 (w := nI 97) t30_14 rfl ?_
      refine ep_addN (a := 14) (b := 97) t30_16 ?_
      refine ep_sw (t := 167) t30_17 (by decide +kernel) ?_
      refine ep_k1 (w := nI 0) t30_167 rfl ?_
      refine ep_ri t30_168 (fun _ => rfl) ?_
      exact ⟨σ, rfl, ⟨fun _ _ _ _ _ _ => rfl, rfl⟩, rfl, ht.2.1⟩
    · refine ep_aln t30_0 rfl ?_
      refine ep_get t30_1 rfl (Nat.le_of_ble_eq_true rfl) rfl ?_
      refine ep_val (b := nI (tK a n p)) (ht.2.2.1) ?_
      refine ep_k1 (w := nI 1) t30_4 rfl ?_
      refine ep_ifP t30_5 (ic_eq (by omega) (by omega)) (fun (c5 : (tK a n p) = 1) => ?_) (fun (c5 : ¬ ((tK a n p) = 1)) => (by exact absurd h1 c5))
      refine ep_aln t30_10 rfl ?_
      refine ep_get t30_11 rfl (Nat.le_of_ble_eq_true rfl) rfl ?_
      refine ep_val (b := nI 15) ((ht.2.2.2.1 h1).trans (by rw [← eV])) ?_
      refine ep_k2 (w := nI 97) t30_14 rfl ?_
      refine ep_addN (a := 15) (b := 97) t30_16 ?_
      refine ep_sw (t := 167) t30_17 (by decide +kernel) ?_
      refine ep_k1 (w := nI 0) t30_167 rfl ?_
      refine ep_ri t30_168 (fun _ => rfl) ?_
      exact ⟨σ, rfl, ⟨fun _ _ _ _ _ _ => rfl, rfl⟩, rfl, ht.2.1⟩
    · refine ep_aln t30_0 rfl ?_
      refine ep_get t30_1 rfl (Nat.le_of_ble_eq_true rfl) rfl ?_
      refine ep_val (b := nI (tK a n p)) (ht.2.2.1) ?_
      refine ep_k1 (w := nI 1) t30_4 rfl ?_
      refine ep_ifP t30_5 (ic_eq (by omega) (by omega)) (fun (c5 : (tK a n p) = 1) => ?_) (fun (c5 : ¬ ((tK a n p) = 1)) => (by exact absurd h1 c5))
      refine ep_aln t30_10 rfl ?_
      refine ep_get t30_11 rfl (Nat.le_of_ble_eq_true rfl) rfl ?_
      refine ep_val (b := nI 16) ((ht.2.2.2.1 h1).trans (by rw [← eV])) ?_
      refine ep_k2 (w := nI 97) t30_14 rfl ?_
      refine ep_addN (a := 16) (b := 97) t30_16 ?_
      refine ep_sw (t := 167) t30_17 (by decide +kernel) ?_
      refine ep_k1 (w := nI 0) t30_167 rfl ?_
      refine ep_ri t30_168 (fun _ => rfl) ?_
      exact ⟨σ, rfl, ⟨fun _ _ _ _ _ _ => rfl, rfl⟩, rfl, ht.2.1⟩
    · refine ep_aln t30_0 rfl ?_
      refine ep_get t30_1 rfl (Nat.le_of_ble_eq_true rfl) rfl ?_
      refine ep_val (b := nI (tK a n p)) (ht.2.2.1) ?_
      refine ep_k1 (w := nI 1) t30_4 rfl ?_
      refine ep_ifP t30_5 (ic_eq (by omega) (by omega)) (fun (c5 : (tK a n p) = 1) => ?_) (fun (c5 : ¬ ((tK a n p) = 1)) => (by exact absurd h1 c5))
      refine ep_aln t30_10 rfl ?_
      refine ep_get t30_11 rfl (Nat.le_of_ble_eq_true rfl) rfl ?_
      refine ep_val (b := nI 17) ((ht.2.2.2.1 h1).trans (by rw [← eV])) ?_
      refine ep_k2 (w := nI 97) t30_14 rfl ?_
      refine ep_addN (a := 17) (b := 97) t30_16 ?_
      refine ep_sw (t := 167) t30_17 (by decide +kernel) ?_
      refine ep_k1 (w := nI 0) t30_167 rfl ?_
      refine ep_ri t30_168 (fun _ => rfl) ?_
      exact ⟨σ, rfl, ⟨fun _ _ _ _ _ _ => rfl, rfl⟩, rfl, ht.2.1⟩
    · refine ep_aln t30_0 rfl ?_
      refine ep_get t30_1 rfl (Nat.le_of_ble_eq_true rfl) rfl ?_
      refine ep_val (b := nI (tK a n p)) (ht.2.2.1) ?_
      refine ep_k1 (w := nI 1) t30_4 rfl ?_
      refine ep_ifP t30_5 (ic_eq (by omega) (by omega)) (fun (c5 : (tK a n p) = 1) => ?_) (fun (c5 : ¬ ((tK a n p) = 1)) => (by exact absurd h1 c5))
      refine ep_aln t30_10 rfl ?_
      refine ep_get t30_11 rfl (Nat.le_of_ble_eq_true rfl) rfl ?_
      refine ep_val (b := nI 18) ((ht.2.2.2.1 h1).trans (by rw [← eV])) ?_
      refine ep_k2 (w := nI 97) t30_14 rfl ?_
      refine ep_addN (a := 18) (b := 97) t30_16 ?_
      refine ep_sw (t := 122) t30_17 (by decide +kernel) ?_
      refine ep_aln t30_122 rfl ?_
      refine ep_aln t30_123 rfl ?_
      obtain ⟨v9, g9, h9, σ1, rfl, f1, r1⟩ := cl_readSource (X := X) (q := q) (σ := σ) (a := a) (n := n) (p := tN a n p) (T := T) (c := c) (l := l) ha hn hx hp2 ht.1 hw hd
      obtain ⟨b9, rfl⟩ := r1.v
      refine ep_cv t30_124 rfl rfl (Nat.le_of_ble_eq_true rfl) (Nat.le_of_ble_eq_true rfl) (h9) ?_
      refine ep_ri t30_127 (fun _ => bI_and _) ?_
      exact ⟨σ1, rfl, f1, r1⟩
    · refine ep_aln t30_0 rfl ?_
      refine ep_get t30_1 rfl (Nat.le_of_ble_eq_true rfl) rfl ?_
      refine ep_val (b := nI (tK a n p)) (ht.2.2.1) ?_
      refine ep_k1 (w := nI 1) t30_4 rfl ?_
      refine ep_ifP t30_5 (ic_eq (by omega) (by omega)) (fun (c5 : (tK a n p) = 1) => ?_) (fun (c5 : ¬ ((tK a n p) = 1)) => (by exact absurd h1 c5))
      refine ep_aln t30_10 rfl ?_
      refine ep_get t30_11 rfl (Nat.le_of_ble_eq_true rfl) rfl ?_
      refine ep_val (b := nI 19) ((ht.2.2.2.1 h1).trans (by rw [← eV])) ?_
      refine ep_k2 (w := nI 97) t30_14 rfl ?_
      refine ep_addN (a := 19) (b := 97) t30_16 ?_
      refine ep_sw (t := 167) t30_17 (by decide +kernel) ?_
      refine ep_k1 (w := nI 0) t30_167 rfl ?_
      refine ep_ri t30_168 (fun _ => rfl) ?_
      exact ⟨σ, rfl, ⟨fun _ _ _ _ _ _ => rfl, rfl⟩, rfl, ht.2.1⟩
    · refine ep_aln t30_0 rfl ?_
      refine ep_get t30_1 rfl (Nat.le_of_ble_eq_true rfl) rfl ?_
      refine ep_val (b := nI (tK a n p)) (ht.2.2.1) ?_
      refine ep_k1 (w := nI 1) t30_4 rfl ?_
      refine ep_ifP t30_5 (ic_eq (by omega) (by omega)) (fun (c5 : (tK a n p) = 1) => ?_) (fun (c5 : ¬ ((tK a n p) = 1)) => (by exact absurd h1 c5))
      refine ep_aln t30_10 rfl ?_
      refine ep_get t30_11 rfl (Nat.le_of_ble_eq_true rfl) rfl ?_
      refine ep_val (b := nI 20) ((ht.2.2.2.1 h1).trans (by rw [← eV])) ?_
      refine ep_k2 (w := nI 97) t30_14 rfl ?_
      refine ep_addN (a := 20) (b := 97) t30_16 ?_
      refine ep_sw (t := 167) t30_17 (by decide +kernel) ?_
      refine ep_k1 (w := nI 0) t30_167 rfl ?_
      refine ep_ri t30_168 (fun _ => rfl) ?_
      exact ⟨σ, rfl, ⟨fun _ _ _ _ _ _ => rfl, rfl⟩, rfl, ht.2.1⟩
    · refine ep_aln t30_0 rfl ?_
      refine ep_get t30_1 rfl (Nat.le_of_ble_eq_true rfl) rfl ?_
      refine ep_val (b := nI (tK a n p)) (ht.2.2.1) ?_
      refine ep_k1 (w := nI 1) t30_4 rfl ?_
      refine ep_ifP t30_5 (ic_eq (by omega) (by omega)) (fun (c5 : (tK a n p) = 1) => ?_) (fun (c5 : ¬ ((tK a n p) = 1)) => (by exact absurd h1 c5))
      refine ep_aln t30_10 rfl ?_
      refine ep_get t30_11 rfl (Nat.le_of_ble_eq_true rfl) rfl ?_
      refine ep_val (b := nI 21) ((ht.2.2.2.1 h1).trans (by rw [← eV])) ?_
      refine ep_k2 (w := nI 97) t30_14 rfl ?_
      refine ep_addN (a := 21) (b := 97) t30_16 ?_
      refine ep_sw (t := 167) t30_17 (by decide +kernel) ?_
      refine ep_k1 (w := nI 0) t30_167 rfl ?_
      refine ep_ri t30_168 (fun _ => rfl) ?_
      exact ⟨σ, rfl, ⟨fun _ _ _ _ _ _ => rfl, rfl⟩, rfl, ht.2.1⟩
    · refine ep_aln t30_0 rfl ?_
      refine ep_get t30_1 rfl (Nat.le_of_ble_eq_true rfl) rfl ?_
      refine ep_val (b := nI (tK a n p)) (ht.2.2.1) ?_
      refine ep_k1 (w := nI 1) t30_4 rfl ?_
      refine ep_ifP t30_5 (ic_eq (by omega) (by omega)) (fun (c5 : (tK a n p) = 1) => ?_) (fun (c5 : ¬ ((tK a n p) = 1)) => (by exact absurd h1 c5))
      refine ep_aln t30_10 rfl ?_
      refine ep_get t30_11 rfl (Nat.le_of_ble_eq_true rfl) rfl ?_
      refine ep_val (b := nI 22) ((ht.2.2.2.1 h1).trans (by rw [← eV])) ?_
      refine ep_k2 (w := nI 97) t30_14 rfl ?_
      refine ep_addN (a := 22) (b := 97) t30_16 ?_
      refine ep_sw (t := 167) t30_17 (by decide +kernel) ?_
      refine ep_k1 (w := nI 0) t30_167 rfl ?_
      refine ep_ri t30_168 (fun _ => rfl) ?_
      exact ⟨σ, rfl, ⟨fun _ _ _ _ _ _ => rfl, rfl⟩, rfl, ht.2.1⟩
    · refine ep_aln t30_0 rfl ?_
      refine ep_get t30_1 rfl (Nat.le_of_ble_eq_true rfl) rfl ?_
      refine ep_val (b := nI (tK a n p)) (ht.2.2.1) ?_
      refine ep_k1 (w := nI 1) t30_4 rfl ?_
      refine ep_ifP t30_5 (ic_eq (by omega) (by omega)) (fun (c5 : (tK a n p) = 1) => ?_) (fun (c5 : ¬ ((tK a n p) = 1)) => (by exact absurd h1 c5))
      refine ep_aln t30_10 rfl ?_
      refine ep_get t30_11 rfl (Nat.le_of_ble_eq_true rfl) rfl ?_
      refine ep_val (b := nI 23) ((ht.2.2.2.1 h1).trans (by rw [← eV])) ?_
      refine ep_k2 (w := nI 97) t30_14 rfl ?_
      refine ep_addN (a := 23) (b := 97) t30_16 ?_
      refine ep_sw (t := 167) t30_17 (by decide +kernel) ?_
      refine ep_k1 (w := nI 0) t30_167 rfl ?_
      refine ep_ri t30_168 (fun _ => rfl) ?_
      exact ⟨σ, rfl, ⟨fun _ _ _ _ _ _ => rfl, rfl⟩, rfl, ht.2.1⟩
    · refine ep_aln t30_0 rfl ?_
      refine ep_get t30_1 rfl (Nat.le_of_ble_eq_true rfl) rfl ?_
      refine ep_val (b := nI (tK a n p)) (ht.2.2.1) ?_
      refine ep_k1 (w := nI 1) t30_4 rfl ?_
      refine ep_ifP t30_5 (ic_eq (by omega) (by omega)) (fun (c5 : (tK a n p) = 1) => ?_) (fun (c5 : ¬ ((tK a n p) = 1)) => (by exact absurd h1 c5))
      refine ep_aln t30_10 rfl ?_
      refine ep_get t30_11 rfl (Nat.le_of_ble_eq_true rfl) rfl ?_
      refine ep_val (b := nI 24) ((ht.2.2.2.1 h1).trans (by rw [← eV])) ?_
      refine ep_k2 (w := nI 97) t30_14 rfl ?_
      refine ep_addN (a := 24) (b := 97) t30_16 ?_
      refine ep_sw (t := 167) t30_17 (by decide +kernel) ?_
      refine ep_k1 (w := nI 0) t30_167 rfl ?_
      refine ep_ri t30_168 (fun _ => rfl) ?_
      exact ⟨σ, rfl, ⟨fun _ _ _ _ _ _ => rfl, rfl⟩, rfl, ht.2.1⟩
    · refine ep_aln t30_0 rfl ?_
      refine ep_get t30_1 rfl (Nat.le_of_ble_eq_true rfl) rfl ?_
      refine ep_val (b := nI (tK a n p)) (ht.2.2.1) ?_
      refine ep_k1 (w := nI 1) t30_4 rfl ?_
      refine ep_ifP t30_5 (ic_eq (by omega) (by omega)) (fun (c5 : (tK a n p) = 1) => ?_) (fun (c5 : ¬ ((tK a n p) = 1)) => (by exact absurd h1 c5))
      refine ep_aln t30_10 rfl ?_
      refine ep_get t30_11 rfl (Nat.le_of_ble_eq_true rfl) rfl ?_
      refine ep_val (b := nI 25) ((ht.2.2.2.1 h1).trans (by rw [← eV])) ?_
      refine ep_k2 (w := nI 97) t30_14 rfl ?_
      refine ep_addN (a := 25) (b := 97) t30_16 ?_
      refine ep_sw (t := 167) t30_17 (by decide +kernel) ?_
      refine ep_k1 (w := nI 0) t30_167 rfl ?_
      refine ep_ri t30_168 (fun _ => rfl) ?_
      exact ⟨σ, rfl, ⟨fun _ _ _ _ _ _ => rfl, rfl⟩, rfl, ht.2.1⟩
  · unfold itm
    rw [if_neg h1]
    refine ep_aln t30_0 rfl ?_
    refine ep_get t30_1 rfl (Nat.le_of_ble_eq_true rfl) rfl ?_
    refine ep_val (b := nI (tK a n p)) (ht.2.2.1) ?_
    refine ep_k1 (w := nI 1) t30_4 rfl ?_
    refine ep_ifP t30_5 (ic_eq (by omega) (by omega)) (fun (c5 : (tK a n p) = 1) => (by exact absurd c5 h1)) (fun (c5 : ¬ ((tK a n p) = 1)) => ?_)
    refine ep_k1 (w := nI 0) t30_8 rfl ?_
    refine ep_ri t30_9 (fun _ => rfl) ?_
    exact ⟨σ, rfl, ⟨fun _ _ _ _ _ _ => rfl, rfl⟩, rfl, ht.2.1⟩

