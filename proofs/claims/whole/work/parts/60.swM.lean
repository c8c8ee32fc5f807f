/-! The model reads a switch. -/
theorem cl_sw_98 {X : gX} {q : Bool} {σ : gT1} {a : Nat → Nat} {n : Nat} (ha : ∀ j, a j < 256) (hn : n ≤ 120) (hx : TxM σ a n) {p : Nat} (hp : p ≤ n) {T : Nat → Nat} {c l : Nat} (hw : WFD T c l) (ht : TokM σ a n p) (hd : DrM σ T c l) (e7 : σ 31 7 = -1) {f : Nat} (h8 : T 3 < 8) : ClP X 55 [.ref 31, .int (nI 98)] (47, g_rho q, σ) (fun v g1 => v = none ∧ ∃ σ1, g1 = (47, g_rho q, σ1) ∧ FrM σ σ1 ∧ RMo a n σ1 (rW a n 0 f p T c l)) := by
  have h6 := hw.1.1
  have ht3 := hw.1.2.2.1
  have hk9 := tk_all (a := a) hp
  have hp2 := hk9.1.2.2.1
  have hpw := pow_le_256 (m := T 0) (by omega)
  have hpw3 := pow_le_256 (m := T 3) (by omega)
  have hwd := hw.2
  have ht12 := hw.1.2.1
  have hk2 := tk_all (a := a) hp2
  have hp3 := hk2.1.2.2.1
  have hk3 := tk_all (a := a) hp3
  have hp4 := hk3.1.2.2.1
  have hk4 := hk9.2.2.2.2
  refine ClP.of ⟨Nat.le_of_ble_eq_true rfl, rfl⟩ ?_
  show EvP X 55 0 [some (.ref 31), some (.int (nI 98)), none] [] (47, g_rho q, σ) _
  by_cases hq1 : tK a n p = 1 ∧ ∀ k, k < T 3 → ¬ T (12 + k) = tV a n p
  · have h1 := hq1.1
    have hv1 := hk9.2.2.1 h1
    by_cases hq2 : tK a n (tN a n p) = 2 ∧ tV a n (tN a n p) < T 0
    · by_cases hq3 : tK a n (tN a n (tN a n p)) = 2 ∧ tV a n (tN a n (tN a n p)) < T 0 ∧ ¬ tV a n (tN a n (tN a n p)) = tV a n (tN a n p)
      · refine ep_aln t55_0 rfl ?_
        refine ep_getr (q := 34) t55_1 rfl (Nat.le_of_ble_eq_true rfl) rfl (rfl) ?_
        refine ep_k1 (w := nI 3) t55_4 rfl ?_
        refine ep_aldN t55_5 rfl (Nat.le_of_ble_eq_true rfl) (Nat.ne_of_beq_eq_false rfl) (Nat.le_of_ble_eq_true rfl) (by omega) ?_
        refine ep_val (b := nI (T 3)) (hd.1.1 3 (by decide)) ?_
        refine ep_isn (L' := [some (.ref 31), some (.int (nI 98)), some (.int (nI (T 3)))]) t55_6 rfl (Nat.le_of_ble_eq_true rfl) ?_
        refine ep_aln t55_7 rfl ?_
        refine ep_getr (q := 34) t55_8 rfl (Nat.le_of_ble_eq_true rfl) rfl (rfl) ?_
        refine ep_k1 (w := nI 4) t55_11 rfl ?_
        refine ep_iln t55_12 rfl ?_
        refine ep_addN (a := 4) (b := T 3) t55_13 ?_
        refine ep_iln t55_14 rfl ?_
        refine ep_k2 (w := nI 98) t55_15 rfl ?_
        refine ep_ifP t55_17 (ic_ne (by omega) (by omega)) (fun (c17 : ¬ 98 = 98) => (by omega)) (fun (c17 : ¬ (¬ 98 = 98)) => ?_)
        refine ep_k1 (w := nI 0) t55_20 rfl ?_
        refine ep_gt t55_21 ?_
        refine ep_astN t55_35 rfl (Nat.le_of_ble_eq_true rfl) (Nat.le_of_ble_eq_true rfl) (by omega) ?_
        have t1 : ToldM ((g_up σ 34 (4 + (T 3)) (nI 0)) 34) T := ToldM.up hd.1 h8 (Or.inl rfl)
        refine ep_aln t55_36 rfl ?_
        refine ep_getr (q := 34) t55_37 rfl (Nat.le_of_ble_eq_true rfl) rfl (rfl) ?_
        refine ep_k2 (w := nI 12) t55_40 rfl ?_
        refine ep_iln t55_42 rfl ?_
        refine ep_addN (a := 12) (b := T 3) t55_43 ?_
        refine ep_aln t55_44 rfl ?_
        refine ep_aln t55_45 rfl ?_
        refine ep_get t55_46 rfl (Nat.le_of_ble_eq_true rfl) rfl ?_
        refine ep_val (b := nI (tK a n p)) (ht.2.2.1) ?_
        refine ep_k1 (w := nI 1) t55_49 rfl ?_
        refine ep_ifP t55_50 (ic_ne (by omega) (by omega)) (fun (c50 : ¬ (tK a n p) = 1) => (by exact absurd h1 c50)) (fun (c50 : ¬ (¬ (tK a n p) = 1)) => ?_)
        refine ep_aln t55_53 rfl ?_
        refine ep_getr (q := 34) t55_54 rfl (Nat.le_of_ble_eq_true rfl) rfl (rfl) ?_
        refine ep_aln t55_57 rfl ?_
        refine ep_get t55_58 rfl (Nat.le_of_ble_eq_true rfl) rfl ?_
        refine ep_val (b := nI (tV a n p)) (ht.2.2.2 (Or.inl h1)) ?_
        refine ep_cs t55_61 (Nat.ne_of_beq_eq_false rfl) rfl (Nat.le_of_ble_eq_true rfl) (cl_wn_n t1 hw.1 (by omega) hq1.2) ?_
        refine ep_k2 (w := (-9)) t55_64 rfl ?_
        refine ep_if t55_66 (fun (c66 : ¬ ((-9)) = ((-9))) => (by exact absurd rfl c66)) (fun (c66 : ¬ (¬ ((-9)) = ((-9)))) => ?_)
        refine ep_k1 (w := nI 1) t55_69 rfl ?_
        refine ep_val (b := bI true) (rfl) ?_
        refine ep_gt t55_70 ?_
        obtain ⟨v9, g9, h9, σ1, rfl, rfl, m1, m2, m3⟩ := cl_M_takes_yes (X := X) (q := q) (σ := g_up σ 34 (4 + (T 3)) (nI 0)) (a := a) (n := n) (p := tN a n p) ha hn (FrM.rf.u34.tx hx) (hp2) (ht.1) (e7)
        refine ep_cv t55_74 rfl rfl (Nat.le_of_ble_eq_true rfl) (Nat.le_of_ble_eq_true rfl) (h9) ?_
        refine ep_val (b := nI (tV a n p)) (ht.2.2.2 (Or.inl h1)) ?_
        refine ep_astN t55_77 rfl (Nat.le_of_ble_eq_true rfl) (Nat.le_of_ble_eq_true rfl) (by omega) ?_
        have t2 : ToldM ((g_up σ1 34 (12 + (T 3)) (nI (tV a n p))) 34) T := ToldM.up (by rw [m1 34 (by decide)]; exact t1) h8 (Or.inr (Or.inl rfl))
        refine ep_aln t55_78 rfl ?_
        refine ep_getr (q := 34) t55_79 rfl (Nat.le_of_ble_eq_true rfl) rfl (rfl) ?_
        refine ep_k2 (w := nI 20) t55_82 rfl ?_
        refine ep_iln t55_84 rfl ?_
        refine ep_addN (a := 20) (b := T 3) t55_85 ?_
        refine ep_aln t55_86 rfl ?_
        refine ep_aln t55_87 rfl ?_
        refine ep_k1 (w := nI 0) t55_88 rfl ?_
        refine ep_aln t55_89 rfl ?_
        refine ep_getr (q := 34) t55_90 rfl (Nat.le_of_ble_eq_true rfl) rfl (rfl) ?_
        refine ep_k1 (w := nI 0) t55_93 rfl ?_
        refine ep_aldN t55_94 rfl (Nat.le_of_ble_eq_true rfl) (Nat.ne_of_beq_eq_false rfl) (Nat.le_of_ble_eq_true rfl) (by omega) ?_
        refine ep_val (b := nI (T 0)) (t2.1 0 (by decide)) ?_
        refine ep_k1 (w := nI 1) t55_95 rfl ?_
        refine ep_subN (a := T 0) (b := 1) t55_96 (by omega) ?_
        refine ep_cv t55_97 rfl rfl (Nat.le_of_ble_eq_true rfl) (Nat.le_of_ble_eq_true rfl) (cl_M_isNumber (p := tN a n p) hp2 (m3.u34) (by omega) (by omega)) ?_
        refine ep_val (b := bI true) (congrArg bI (decide_eq_true ⟨hq2.1, Nat.zero_le _, by omega⟩)) ?_
        obtain ⟨v9, g9, h9, σ2, rfl, rfl, k1, k2, k3⟩ := cl_M_takes_yes (X := X) (q := q) (σ := g_up σ1 34 (12 + (T 3)) (nI (tV a n p))) (a := a) (n := n) (p := tN a n (tN a n p)) ha hn ((FrM.rf.u34.adv m1 m2).u34.tx hx) (hp3) (m3.1) ((m2 7 (by decide) (by decide) (by decide) (by decide)).trans e7)
        refine ep_cv t55_100 rfl rfl (Nat.le_of_ble_eq_true rfl) (Nat.le_of_ble_eq_true rfl) (h9) ?_
        refine ep_val (b := nI (tV a n (tN a n p))) (m3.2.2.2 (Or.inr hq2.1)) ?_
        refine ep_astN t55_103 rfl (Nat.le_of_ble_eq_true rfl) (Nat.le_of_ble_eq_true rfl) (by omega) ?_
        have t3 : ToldM ((g_up σ2 34 (20 + (T 3)) (nI (tV a n (tN a n p)))) 34) T := ToldM.up (by rw [k1 34 (by decide)]; exact t2) h8 (Or.inr (Or.inr (Or.inl rfl)))
        refine ep_aln t55_104 rfl ?_
        refine ep_getr (q := 34) t55_105 rfl (Nat.le_of_ble_eq_true rfl) rfl (rfl) ?_
        refine ep_k2 (w := nI 28) t55_108 rfl ?_
        refine ep_iln t55_110 rfl ?_
        refine ep_addN (a := 28) (b := T 3) t55_111 ?_
        refine ep_iln t55_112 rfl ?_
        refine ep_k2 (w := nI 101) t55_113 rfl ?_
        refine ep_ifP t55_115 (ic_ne (by omega) (by omega)) (fun (c115 : ¬ 98 = 101) => ?_) (fun (c115 : ¬ (¬ 98 = 101)) => (by omega))
        refine ep_aln t55_123 rfl ?_
        refine ep_aln t55_124 rfl ?_
        refine ep_k1 (w := nI 0) t55_125 rfl ?_
        refine ep_aln t55_126 rfl ?_
        refine ep_getr (q := 34) t55_127 rfl (Nat.le_of_ble_eq_true rfl) rfl (rfl) ?_
        refine ep_k1 (w := nI 0) t55_130 rfl ?_
        refine ep_aldN t55_131 rfl (Nat.le_of_ble_eq_true rfl) (Nat.ne_of_beq_eq_false rfl) (Nat.le_of_ble_eq_true rfl) (by omega) ?_
        refine ep_val (b := nI (T 0)) (t3.1 0 (by decide)) ?_
        refine ep_k1 (w := nI 1) t55_132 rfl ?_
        refine ep_subN (a := T 0) (b := 1) t55_133 (by omega) ?_
        refine ep_cv t55_134 rfl rfl (Nat.le_of_ble_eq_true rfl) (Nat.le_of_ble_eq_true rfl) (cl_M_isNumber (p := tN a n (tN a n p)) hp3 (k3.u34) (by omega) (by omega)) ?_
        refine ep_val (b := bI true) (congrArg bI (decide_eq_true ⟨hq3.1, Nat.zero_le _, by omega⟩)) ?_
        refine ep_bF t55_137 (fun (c137 : true = false) => (by exact absurd c137 (by decide))) (fun (c137 : true = true) => ?_)
        refine ep_aln t55_140 rfl ?_
        refine ep_get t55_141 rfl (Nat.le_of_ble_eq_true rfl) rfl ?_
        refine ep_val (b := nI (tV a n (tN a n (tN a n p)))) (k3.2.2.2 (Or.inr hq3.1)) ?_
        refine ep_aln t55_144 rfl ?_
        refine ep_getr (q := 34) t55_145 rfl (Nat.le_of_ble_eq_true rfl) rfl (rfl) ?_
        refine ep_k2 (w := nI 20) t55_148 rfl ?_
        refine ep_iln t55_150 rfl ?_
        refine ep_addN (a := 20) (b := T 3) t55_151 ?_
        refine ep_aldN t55_152 rfl (Nat.le_of_ble_eq_true rfl) (Nat.ne_of_beq_eq_false rfl) (Nat.le_of_ble_eq_true rfl) (by omega) ?_
        refine ep_val (b := nI (tV a n (tN a n p))) (g_up_eq) ?_
        refine ep_ifP t55_153 (ic_eq (by omega) (by omega)) (fun (c153 : (tV a n (tN a n (tN a n p))) = (tV a n (tN a n p))) => (by exact absurd c153 hq3.2.2)) (fun (c153 : ¬ ((tV a n (tN a n (tN a n p))) = (tV a n (tN a n p)))) => ?_)
        refine ep_k1 (w := nI 1) t55_156 rfl ?_
        refine ep_val (b := bI true) (rfl) ?_
        refine ep_gt t55_157 ?_
        obtain ⟨v9, g9, h9, σ3, rfl, rfl, j1, j2, j3⟩ := cl_M_takes_yes (X := X) (q := q) (σ := g_up σ2 34 (20 + (T 3)) (nI (tV a n (tN a n p)))) (a := a) (n := n) (p := tN a n (tN a n (tN a n p))) ha hn (((FrM.rf.u34.adv m1 m2).u34.adv k1 k2).u34.tx hx) (hp4) (k3.1) ((k2 7 (by decide) (by decide) (by decide) (by decide)).trans ((m2 7 (by decide) (by decide) (by decide) (by decide)).trans e7))
        refine ep_cv t55_161 rfl rfl (Nat.le_of_ble_eq_true rfl) (Nat.le_of_ble_eq_true rfl) (h9) ?_
        refine ep_val (b := nI (tV a n (tN a n (tN a n p)))) (k3.2.2.2 (Or.inr hq3.1)) ?_
        refine ep_astN t55_164 rfl (Nat.le_of_ble_eq_true rfl) (Nat.le_of_ble_eq_true rfl) (by omega) ?_
        have t4 : ToldM ((g_up σ3 34 (28 + (T 3)) (nI (tV a n (tN a n (tN a n p))))) 34) T := ToldM.up (by rw [j1 34 (by decide)]; exact t3) h8 (Or.inr (Or.inr (Or.inr rfl)))
        refine ep_aln t55_165 rfl ?_
        refine ep_getr (q := 34) t55_166 rfl (Nat.le_of_ble_eq_true rfl) rfl (rfl) ?_
        refine ep_k1 (w := nI 3) t55_169 rfl ?_
        refine ep_dup2 t55_170 rfl rfl ?_
        refine ep_aldN t55_171 rfl (Nat.le_of_ble_eq_true rfl) (Nat.ne_of_beq_eq_false rfl) (Nat.le_of_ble_eq_true rfl) (by omega) ?_
        refine ep_val (b := nI (T 3)) (t4.1 3 (by decide)) ?_
        refine ep_k1 (w := nI 1) t55_172 rfl ?_
        refine ep_addN (a := T 3) (b := 1) t55_173 ?_
        refine ep_astN t55_174 rfl (Nat.le_of_ble_eq_true rfl) (Nat.le_of_ble_eq_true rfl) (by omega) ?_
        refine ep_rv t55_175 ?_
        have hF : ∀ j, (g_up (g_up σ3 34 (28 + (T 3)) (nI (tV a n (tN a n (tN a n p))))) 34 3 (nI ((T 3) + 1))) 34 j = if j = 3 then nI (T 3 + 1) else if j = 28 + T 3 then nI (tV a n (tN a n (tN a n p))) else if j = 20 + T 3 then nI (tV a n (tN a n p)) else if j = 12 + T 3 then nI (tV a n p) else if j = 4 + T 3 then nI 0 else σ 34 j := fun j => by rw [g_up_at, g_up_at, j1 34 (by decide), g_up_at, k1 34 (by decide), g_up_at, m1 34 (by decide), g_up_at]
        have h35 : (g_up (g_up σ3 34 (28 + (T 3)) (nI (tV a n (tN a n (tN a n p))))) 34 3 (nI ((T 3) + 1))) 35 = σ 35 := by rw [g_up_ne (by decide), g_up_ne (by decide), j1 35 (by decide), g_up_ne (by decide), k1 35 (by decide), g_up_ne (by decide), m1 35 (by decide), g_up_ne (by decide)]
        refine ⟨rfl, _, rfl, (((FrM.rf.u34.adv m1 m2).u34.adv k1 k2).u34.adv j1 j2).u34.u34, ?_⟩
        unfold rW rW2 rW3
        rw [cif_pos h8, cif_pos hq1, cif_pos hq2, if_neg (by decide), cif_pos hq3]
        refine ⟨(j2 7 (by decide) (by decide) (by decide) (by decide)).trans ((k2 7 (by decide) (by decide) (by decide) (by decide)).trans ((m2 7 (by decide) (by decide) (by decide) (by decide)).trans e7)), j3, ?_, ?_⟩
        · exact ToldM.add hd.1 h8 ((hF 3).trans (if_pos rfl)) (by rw [hF, if_neg (by omega), if_neg (by omega), if_neg (by omega), if_neg (by omega), if_pos rfl]) (by rw [hF, if_neg (by omega), if_neg (by omega), if_neg (by omega), if_pos rfl]) (by rw [hF, if_neg (by omega), if_neg (by omega), if_pos rfl]) (by rw [hF, if_neg (by omega), if_pos rfl]; rfl) (fun i i1 i2 i3 i4 i5 => by rw [hF, if_neg i1, if_neg i5, if_neg i4, if_neg i3, if_neg i2])
        · rw [h35]; exact hd.2
      · refine ep_aln t55_0 rfl ?_
        refine ep_getr (q := 34) t55_1 rfl (Nat.le_of_ble_eq_true rfl) rfl (rfl) ?_
        refine ep_k1 (w := nI 3) t55_4 rfl ?_
        refine ep_aldN t55_5 rfl (Nat.le_of_ble_eq_true rfl) (Nat.ne_of_beq_eq_false rfl) (Nat.le_of_ble_eq_true rfl) (by omega) ?_
        refine ep_val (b := nI (T 3)) (hd.1.1 3 (by decide)) ?_
        refine ep_isn (L' := [some (.ref 31), some (.int (nI 98)), some (.int (nI (T 3)))]) t55_6 rfl (Nat.le_of_ble_eq_true rfl) ?_
        refine ep_aln t55_7 rfl ?_
        refine ep_getr (q := 34) t55_8 rfl (Nat.le_of_ble_eq_true rfl) rfl (rfl) ?_
        refine ep_k1 (w := nI 4) t55_11 rfl ?_
        refine ep_iln t55_12 rfl ?_
        refine ep_addN (a := 4) (b := T 3) t55_13 ?_
        refine ep_iln t55_14 rfl ?_
        refine ep_k2 (w := nI 98) t55_15 rfl ?_
        refine ep_ifP t55_17 (ic_ne (by omega) (by omega)) (fun (c17 : ¬ 98 = 98) => (by omega)) (fun (c17 : ¬ (¬ 98 = 98)) => ?_)
        refine ep_k1 (w := nI 0) t55_20 rfl ?_
        refine ep_gt t55_21 ?_
        refine ep_astN t55_35 rfl (Nat.le_of_ble_eq_true rfl) (Nat.le_of_ble_eq_true rfl) (by omega) ?_
        have t1 : ToldM ((g_up σ 34 (4 + (T 3)) (nI 0)) 34) T := ToldM.up hd.1 h8 (Or.inl rfl)
        refine ep_aln t55_36 rfl ?_
        refine ep_getr (q := 34) t55_37 rfl (Nat.le_of_ble_eq_true rfl) rfl (rfl) ?_
        refine ep_k2 (w := nI 12) t55_40 rfl ?_
        refine ep_iln t55_42 rfl ?_
        refine ep_addN (a := 12) (b := T 3) t55_43 ?_
        refine ep_aln t55_44 rfl ?_
        refine ep_aln t55_45 rfl ?_
        refine ep_get t55_46 rfl (Nat.le_of_ble_eq_true rfl) rfl ?_
        refine ep_val (b := nI (tK a n p)) (ht.2.2.1) ?_
        refine ep_k1 (w := nI 1) t55_49 rfl ?_
        refine ep_ifP t55_50 (ic_ne (by omega) (by omega)) (fun (c50 : ¬ (tK a n p) = 1) => (by exact absurd h1 c50)) (fun (c50 : ¬ (¬ (tK a n p) = 1)) => ?_)
        refine ep_aln t55_53 rfl ?_
        refine ep_getr (q := 34) t55_54 rfl (Nat.le_of_ble_eq_true rfl) rfl (rfl) ?_
        refine ep_aln t55_57 rfl ?_
        refine ep_get t55_58 rfl (Nat.le_of_ble_eq_true rfl) rfl ?_
        refine ep_val (b := nI (tV a n p)) (ht.2.2.2 (Or.inl h1)) ?_
        refine ep_cs t55_61 (Nat.ne_of_beq_eq_false rfl) rfl (Nat.le_of_ble_eq_true rfl) (cl_wn_n t1 hw.1 (by omega) hq1.2) ?_
        refine ep_k2 (w := (-9)) t55_64 rfl ?_
        refine ep_if t55_66 (fun (c66 : ¬ ((-9)) = ((-9))) => (by exact absurd rfl c66)) (fun (c66 : ¬ (¬ ((-9)) = ((-9)))) => ?_)
        refine ep_k1 (w := nI 1) t55_69 rfl ?_
        refine ep_val (b := bI true) (rfl) ?_
        refine ep_gt t55_70 ?_
        obtain ⟨v9, g9, h9, σ1, rfl, rfl, m1, m2, m3⟩ := cl_M_takes_yes (X := X) (q := q) (σ := g_up σ 34 (4 + (T 3)) (nI 0)) (a := a) (n := n) (p := tN a n p) ha hn (FrM.rf.u34.tx hx) (hp2) (ht.1) (e7)
        refine ep_cv t55_74 rfl rfl (Nat.le_of_ble_eq_true rfl) (Nat.le_of_ble_eq_true rfl) (h9) ?_
        refine ep_val (b := nI (tV a n p)) (ht.2.2.2 (Or.inl h1)) ?_
        refine ep_astN t55_77 rfl (Nat.le_of_ble_eq_true rfl) (Nat.le_of_ble_eq_true rfl) (by omega) ?_
        have t2 : ToldM ((g_up σ1 34 (12 + (T 3)) (nI (tV a n p))) 34) T := ToldM.up (by rw [m1 34 (by decide)]; exact t1) h8 (Or.inr (Or.inl rfl))
        refine ep_aln t55_78 rfl ?_
        refine ep_getr (q := 34) t55_79 rfl (Nat.le_of_ble_eq_true rfl) rfl (rfl) ?_
        refine ep_k2 (w := nI 20) t55_82 rfl ?_
        refine ep_iln t55_84 rfl ?_
        refine ep_addN (a := 20) (b := T 3) t55_85 ?_
        refine ep_aln t55_86 rfl ?_
        refine ep_aln t55_87 rfl ?_
        refine ep_k1 (w := nI 0) t55_88 rfl ?_
        refine ep_aln t55_89 rfl ?_
        refine ep_getr (q := 34) t55_90 rfl (Nat.le_of_ble_eq_true rfl) rfl (rfl) ?_
        refine ep_k1 (w := nI 0) t55_93 rfl ?_
        refine ep_aldN t55_94 rfl (Nat.le_of_ble_eq_true rfl) (Nat.ne_of_beq_eq_false rfl) (Nat.le_of_ble_eq_true rfl) (by omega) ?_
        refine ep_val (b := nI (T 0)) (t2.1 0 (by decide)) ?_
        refine ep_k1 (w := nI 1) t55_95 rfl ?_
        refine ep_subN (a := T 0) (b := 1) t55_96 (by omega) ?_
        refine ep_cv t55_97 rfl rfl (Nat.le_of_ble_eq_true rfl) (Nat.le_of_ble_eq_true rfl) (cl_M_isNumber (p := tN a n p) hp2 (m3.u34) (by omega) (by omega)) ?_
        refine ep_val (b := bI true) (congrArg bI (decide_eq_true ⟨hq2.1, Nat.zero_le _, by omega⟩)) ?_
        obtain ⟨v9, g9, h9, σ2, rfl, rfl, k1, k2, k3⟩ := cl_M_takes_yes (X := X) (q := q) (σ := g_up σ1 34 (12 + (T 3)) (nI (tV a n p))) (a := a) (n := n) (p := tN a n (tN a n p)) ha hn ((FrM.rf.u34.adv m1 m2).u34.tx hx) (hp3) (m3.1) ((m2 7 (by decide) (by decide) (by decide) (by decide)).trans e7)
        refine ep_cv t55_100 rfl rfl (Nat.le_of_ble_eq_true rfl) (Nat.le_of_ble_eq_true rfl) (h9) ?_
        refine ep_val (b := nI (tV a n (tN a n p))) (m3.2.2.2 (Or.inr hq2.1)) ?_
        refine ep_astN t55_103 rfl (Nat.le_of_ble_eq_true rfl) (Nat.le_of_ble_eq_true rfl) (by omega) ?_
        have t3 : ToldM ((g_up σ2 34 (20 + (T 3)) (nI (tV a n (tN a n p)))) 34) T := ToldM.up (by rw [k1 34 (by decide)]; exact t2) h8 (Or.inr (Or.inr (Or.inl rfl)))
        refine ep_aln t55_104 rfl ?_
        refine ep_getr (q := 34) t55_105 rfl (Nat.le_of_ble_eq_true rfl) rfl (rfl) ?_
        refine ep_k2 (w := nI 28) t55_108 rfl ?_
        refine ep_iln t55_110 rfl ?_
        refine ep_addN (a := 28) (b := T 3) t55_111 ?_
        refine ep_iln t55_112 rfl ?_
        refine ep_k2 (w := nI 101) t55_113 rfl ?_
        refine ep_ifP t55_115 (ic_ne (by omega) (by omega)) (fun (c115 : ¬ 98 = 101) => ?_) (fun (c115 : ¬ (¬ 98 = 101)) => (by omega))
        refine ep_aln t55_123 rfl ?_
        refine ep_aln t55_124 rfl ?_
        refine ep_k1 (w := nI 0) t55_125 rfl ?_
        refine ep_aln t55_126 rfl ?_
        refine ep_getr (q := 34) t55_127 rfl (Nat.le_of_ble_eq_true rfl) rfl (rfl) ?_
        refine ep_k1 (w := nI 0) t55_130 rfl ?_
        refine ep_aldN t55_131 rfl (Nat.le_of_ble_eq_true rfl) (Nat.ne_of_beq_eq_false rfl) (Nat.le_of_ble_eq_true rfl) (by omega) ?_
        refine ep_val (b := nI (T 0)) (t3.1 0 (by decide)) ?_
        refine ep_k1 (w := nI 1) t55_132 rfl ?_
        refine ep_subN (a := T 0) (b := 1) t55_133 (by omega) ?_
        refine ep_cv t55_134 rfl rfl (Nat.le_of_ble_eq_true rfl) (Nat.le_of_ble_eq_true rfl) (cl_M_isNumber (p := tN a n (tN a n p)) hp3 (k3.u34) (by omega) (by omega)) ?_
        refine ep_bF t55_137 (fun (c137 : (decide (tK a n (tN a n (tN a n p)) = 2 ∧ 0 ≤ tV a n (tN a n (tN a n p)) ∧ tV a n (tN a n (tN a n p)) ≤ (T 0) - 1)) = false) => ?_) (fun (c137 : (decide (tK a n (tN a n (tN a n p)) = 2 ∧ 0 ≤ tV a n (tN a n (tN a n p)) ∧ tV a n (tN a n (tN a n p)) ≤ (T 0) - 1)) = true) => ?_)
        · refine ep_k1 (w := nI 0) t55_160 rfl ?_
          refine ep_val (b := bI false) (rfl) ?_
          refine ep_cv t55_161 rfl rfl (Nat.le_of_ble_eq_true rfl) (Nat.le_of_ble_eq_true rfl) (cl_M_takes_no ((k2 7 (by decide) (by decide) (by decide) (by decide)).trans ((m2 7 (by decide) (by decide) (by decide) (by decide)).trans e7))) ?_
          refine ep_astN t55_164 rfl (Nat.le_of_ble_eq_true rfl) (Nat.le_of_ble_eq_true rfl) (by omega) ?_
          have t4 : ToldM ((g_up (g_up (g_up σ2 34 (20 + (T 3)) (nI (tV a n (tN a n p)))) 31 7 ((g_up σ2 34 (20 + (T 3)) (nI (tV a n (tN a n p)))) 31 5)) 34 (28 + (T 3)) (nI 0)) 34) T := ToldM.up (by rw [g_up_ne (by decide)]; exact t3) h8 (Or.inr (Or.inr (Or.inr rfl)))
          refine ep_aln t55_165 rfl ?_
          refine ep_getr (q := 34) t55_166 rfl (Nat.le_of_ble_eq_true rfl) rfl (rfl) ?_
          refine ep_k1 (w := nI 3) t55_169 rfl ?_
          refine ep_dup2 t55_170 rfl rfl ?_
          refine ep_aldN t55_171 rfl (Nat.le_of_ble_eq_true rfl) (Nat.ne_of_beq_eq_false rfl) (Nat.le_of_ble_eq_true rfl) (by omega) ?_
          refine ep_val (b := nI (T 3)) (t4.1 3 (by decide)) ?_
          refine ep_k1 (w := nI 1) t55_172 rfl ?_
          refine ep_addN (a := T 3) (b := 1) t55_173 ?_
          refine ep_astN t55_174 rfl (Nat.le_of_ble_eq_true rfl) (Nat.le_of_ble_eq_true rfl) (by omega) ?_
          refine ep_rv t55_175 ?_
          refine ⟨rfl, _, rfl, ((FrM.rf.u34.adv m1 m2).u34.adv k1 k2).u34.flt.u34.u34, ?_⟩
          unfold rW
          unfold rW2 rW3
          rw [cif_pos h8, cif_pos hq1, cif_pos hq2, if_neg (by decide), cif_neg hq3]
          exact k3.2.1
        · have hv7 := (of_decide_eq_true c137).2.2
          refine ep_aln t55_140 rfl ?_
          refine ep_get t55_141 rfl (Nat.le_of_ble_eq_true rfl) rfl ?_
          refine ep_val (b := nI (tV a n (tN a n (tN a n p)))) (k3.2.2.2 (Or.inr (of_decide_eq_true c137).1)) ?_
          refine ep_aln t55_144 rfl ?_
          refine ep_getr (q := 34) t55_145 rfl (Nat.le_of_ble_eq_true rfl) rfl (rfl) ?_
          refine ep_k2 (w := nI 20) t55_148 rfl ?_
          refine ep_iln t55_150 rfl ?_
          refine ep_addN (a := 20) (b := T 3) t55_151 ?_
          refine ep_aldN t55_152 rfl (Nat.le_of_ble_eq_true rfl) (Nat.ne_of_beq_eq_false rfl) (Nat.le_of_ble_eq_true rfl) (by omega) ?_
          refine ep_val (b := nI (tV a n (tN a n p))) (g_up_eq) ?_
          refine ep_ifP t55_153 (ic_eq (by omega) (by omega)) (fun (c153 : (tV a n (tN a n (tN a n p))) = (tV a n (tN a n p))) => ?_) (fun (c153 : ¬ ((tV a n (tN a n (tN a n p))) = (tV a n (tN a n p)))) => (by exact absurd ⟨(of_decide_eq_true c137).1, by have := (of_decide_eq_true c137).2.2; omega, c153⟩ hq3))
          refine ep_k1 (w := nI 0) t55_160 rfl ?_
          refine ep_val (b := bI false) (rfl) ?_
          refine ep_cv t55_161 rfl rfl (Nat.le_of_ble_eq_true rfl) (Nat.le_of_ble_eq_true rfl) (cl_M_takes_no ((k2 7 (by decide) (by decide) (by decide) (by decide)).trans ((m2 7 (by decide) (by decide) (by decide) (by decide)).trans e7))) ?_
          refine ep_astN t55_164 rfl (Nat.le_of_ble_eq_true rfl) (Nat.le_of_ble_eq_true rfl) (by omega) ?_
          have t4 : ToldM ((g_up (g_up (g_up σ2 34 (20 + (T 3)) (nI (tV a n (tN a n p)))) 31 7 ((g_up σ2 34 (20 + (T 3)) (nI (tV a n (tN a n p)))) 31 5)) 34 (28 + (T 3)) (nI 0)) 34) T := ToldM.up (by rw [g_up_ne (by decide)]; exact t3) h8 (Or.inr (Or.inr (Or.inr rfl)))
          refine ep_aln t55_165 rfl ?_
          refine ep_getr (q := 34) t55_166 rfl (Nat.le_of_ble_eq_true rfl) rfl (rfl) ?_
          refine ep_k1 (w := nI 3) t55_169 rfl ?_
          refine ep_dup2 t55_170 rfl rfl ?_
          refine ep_aldN t55_171 rfl (Nat.le_of_ble_eq_true rfl) (Nat.ne_of_beq_eq_false rfl) (Nat.le_of_ble_eq_true rfl) (by omega) ?_
          refine ep_val (b := nI (T 3)) (t4.1 3 (by decide)) ?_
          refine ep_k1 (w := nI 1) t55_172 rfl ?_
          refine ep_addN (a := T 3) (b := 1) t55_173 ?_
          refine ep_astN t55_174 rfl (Nat.le_of_ble_eq_true rfl) (Nat.le_of_ble_eq_true rfl) (by omega) ?_
          refine ep_rv t55_175 ?_
          refine ⟨rfl, _, rfl, ((FrM.rf.u34.adv m1 m2).u34.adv k1 k2).u34.flt.u34.u34, ?_⟩
          unfold rW
          unfold rW2 rW3
          rw [cif_pos h8, cif_pos hq1, cif_pos hq2, if_neg (by decide), cif_neg hq3]
          exact k3.2.1
    · refine ep_aln t55_0 rfl ?_
      refine ep_getr (q := 34) t55_1 rfl (Nat.le_of_ble_eq_true rfl) rfl (rfl) ?_
      refine ep_k1 (w := nI 3) t55_4 rfl ?_
      refine ep_aldN t55_5 rfl (Nat.le_of_ble_eq_true rfl) (Nat.ne_of_beq_eq_false rfl) (Nat.le_of_ble_eq_true rfl) (by omega) ?_
      refine ep_val (b := nI (T 3)) (hd.1.1 3 (by decide)) ?_
      refine ep_isn (L' := [some (.ref 31), some (.int (nI 98)), some (.int (nI (T 3)))]) t55_6 rfl (Nat.le_of_ble_eq_true rfl) ?_
      refine ep_aln t55_7 rfl ?_
      refine ep_getr (q := 34) t55_8 rfl (Nat.le_of_ble_eq_true rfl) rfl (rfl) ?_
      refine ep_k1 (w := nI 4) t55_11 rfl ?_
      refine ep_iln t55_12 rfl ?_
      refine ep_addN (a := 4) (b := T 3) t55_13 ?_
      refine ep_iln t55_14 rfl ?_
      refine ep_k2 (w := nI 98) t55_15 rfl ?_
      refine ep_ifP t55_17 (ic_ne (by omega) (by omega)) (fun (c17 : ¬ 98 = 98) => (by omega)) (fun (c17 : ¬ (¬ 98 = 98)) => ?_)
      refine ep_k1 (w := nI 0) t55_20 rfl ?_
      refine ep_gt t55_21 ?_
      refine ep_astN t55_35 rfl (Nat.le_of_ble_eq_true rfl) (Nat.le_of_ble_eq_true rfl) (by omega) ?_
      have t1 : ToldM ((g_up σ 34 (4 + (T 3)) (nI 0)) 34) T := ToldM.up hd.1 h8 (Or.inl rfl)
      refine ep_aln t55_36 rfl ?_
      refine ep_getr (q := 34) t55_37 rfl (Nat.le_of_ble_eq_true rfl) rfl (rfl) ?_
      refine ep_k2 (w := nI 12) t55_40 rfl ?_
      refine ep_iln t55_42 rfl ?_
      refine ep_addN (a := 12) (b := T 3) t55_43 ?_
      refine ep_aln t55_44 rfl ?_
      refine ep_aln t55_45 rfl ?_
      refine ep_get t55_46 rfl (Nat.le_of_ble_eq_true rfl) rfl ?_
      refine ep_val (b := nI (tK a n p)) (ht.2.2.1) ?_
      refine ep_k1 (w := nI 1) t55_49 rfl ?_
      refine ep_ifP t55_50 (ic_ne (by omega) (by omega)) (fun (c50 : ¬ (tK a n p) = 1) => (by exact absurd h1 c50)) (fun (c50 : ¬ (¬ (tK a n p) = 1)) => ?_)
      refine ep_aln t55_53 rfl ?_
      refine ep_getr (q := 34) t55_54 rfl (Nat.le_of_ble_eq_true rfl) rfl (rfl) ?_
      refine ep_aln t55_57 rfl ?_
      refine ep_get t55_58 rfl (Nat.le_of_ble_eq_true rfl) rfl ?_
      refine ep_val (b := nI (tV a n p)) (ht.2.2.2 (Or.inl h1)) ?_
      refine ep_cs t55_61 (Nat.ne_of_beq_eq_false rfl) rfl (Nat.le_of_ble_eq_true rfl) (cl_wn_n t1 hw.1 (by omega) hq1.2) ?_
      refine ep_k2 (w := (-9)) t55_64 rfl ?_
      refine ep_if t55_66 (fun (c66 : ¬ ((-9)) = ((-9))) => (by exact absurd rfl c66)) (fun (c66 : ¬ (¬ ((-9)) = ((-9)))) => ?_)
      refine ep_k1 (w := nI 1) t55_69 rfl ?_
      refine ep_val (b := bI true) (rfl) ?_
      refine ep_gt t55_70 ?_
      obtain ⟨v9, g9, h9, σ1, rfl, rfl, m1, m2, m3⟩ := cl_M_takes_yes (X := X) (q := q) (σ := g_up σ 34 (4 + (T 3)) (nI 0)) (a := a) (n := n) (p := tN a n p) ha hn (FrM.rf.u34.tx hx) (hp2) (ht.1) (e7)
      refine ep_cv t55_74 rfl rfl (Nat.le_of_ble_eq_true rfl) (Nat.le_of_ble_eq_true rfl) (h9) ?_
      refine ep_val (b := nI (tV a n p)) (ht.2.2.2 (Or.inl h1)) ?_
      refine ep_astN t55_77 rfl (Nat.le_of_ble_eq_true rfl) (Nat.le_of_ble_eq_true rfl) (by omega) ?_
      have t2 : ToldM ((g_up σ1 34 (12 + (T 3)) (nI (tV a n p))) 34) T := ToldM.up (by rw [m1 34 (by decide)]; exact t1) h8 (Or.inr (Or.inl rfl))
      refine ep_aln t55_78 rfl ?_
      refine ep_getr (q := 34) t55_79 rfl (Nat.le_of_ble_eq_true rfl) rfl (rfl) ?_
      refine ep_k2 (w := nI 20) t55_82 rfl ?_
      refine ep_iln t55_84 rfl ?_
      refine ep_addN (a := 20) (b := T 3) t55_85 ?_
      refine ep_aln t55_86 rfl ?_
      refine ep_aln t55_87 rfl ?_
      refine ep_k1 (w := nI 0) t55_88 rfl ?_
      refine ep_aln t55_89 rfl ?_
      refine ep_getr (q := 34) t55_90 rfl (Nat.le_of_ble_eq_true rfl) rfl (rfl) ?_
      refine ep_k1 (w := nI 0) t55_93 rfl ?_
      refine ep_aldN t55_94 rfl (Nat.le_of_ble_eq_true rfl) (Nat.ne_of_beq_eq_false rfl) (Nat.le_of_ble_eq_true rfl) (by omega) ?_
      refine ep_val (b := nI (T 0)) (t2.1 0 (by decide)) ?_
      refine ep_k1 (w := nI 1) t55_95 rfl ?_
      refine ep_subN (a := T 0) (b := 1) t55_96 (by omega) ?_
      refine ep_cv t55_97 rfl rfl (Nat.le_of_ble_eq_true rfl) (Nat.le_of_ble_eq_true rfl) (cl_M_isNumber (p := tN a n p) hp2 (m3.u34) (by omega) (by omega)) ?_
      refine ep_val (b := bI false) (congrArg bI (decide_eq_false (fun h => hq2 ⟨h.1, by have := h.2.2; omega⟩))) ?_
      refine ep_cv t55_100 rfl rfl (Nat.le_of_ble_eq_true rfl) (Nat.le_of_ble_eq_true rfl) (cl_M_takes_no ((m2 7 (by decide) (by decide) (by decide) (by decide)).trans e7)) ?_
      refine ep_astN t55_103 rfl (Nat.le_of_ble_eq_true rfl) (Nat.le_of_ble_eq_true rfl) (by omega) ?_
      have t3 : ToldM ((g_up (g_up (g_up σ1 34 (12 + (T 3)) (nI (tV a n p))) 31 7 ((g_up σ1 34 (12 + (T 3)) (nI (tV a n p))) 31 5)) 34 (20 + (T 3)) (nI 0)) 34) T := ToldM.up (by rw [g_up_ne (by decide)]; exact t2) h8 (Or.inr (Or.inr (Or.inl rfl)))
      refine ep_aln t55_104 rfl ?_
      refine ep_getr (q := 34) t55_105 rfl (Nat.le_of_ble_eq_true rfl) rfl (rfl) ?_
      refine ep_k2 (w := nI 28) t55_108 rfl ?_
      refine ep_iln t55_110 rfl ?_
      refine ep_addN (a := 28) (b := T 3) t55_111 ?_
      refine ep_iln t55_112 rfl ?_
      refine ep_k2 (w := nI 101) t55_113 rfl ?_
      refine ep_ifP t55_115 (ic_ne (by omega) (by omega)) (fun (c115 : ¬ 98 = 101) => ?_) (fun (c115 : ¬ (¬ 98 = 101)) => (by omega))
      refine ep_aln t55_123 rfl ?_
      refine ep_aln t55_124 rfl ?_
      refine ep_k1 (w := nI 0) t55_125 rfl ?_
      refine ep_aln t55_126 rfl ?_
      refine ep_getr (q := 34) t55_127 rfl (Nat.le_of_ble_eq_true rfl) rfl (rfl) ?_
      refine ep_k1 (w := nI 0) t55_130 rfl ?_
      refine ep_aldN t55_131 rfl (Nat.le_of_ble_eq_true rfl) (Nat.ne_of_beq_eq_false rfl) (Nat.le_of_ble_eq_true rfl) (by omega) ?_
      refine ep_val (b := nI (T 0)) (t3.1 0 (by decide)) ?_
      refine ep_k1 (w := nI 1) t55_132 rfl ?_
      refine ep_subN (a := T 0) (b := 1) t55_133 (by omega) ?_
      refine ep_cv t55_134 rfl rfl (Nat.le_of_ble_eq_true rfl) (Nat.le_of_ble_eq_true rfl) (cl_M_isNumber (p := tN a n p) hp2 (m3.u34.flt.u34) (by omega) (by omega)) ?_
      refine ep_bF t55_137 (fun (c137 : (decide (tK a n (tN a n p) = 2 ∧ 0 ≤ tV a n (tN a n p) ∧ tV a n (tN a n p) ≤ (T 0) - 1)) = false) => ?_) (fun (c137 : (decide (tK a n (tN a n p) = 2 ∧ 0 ≤ tV a n (tN a n p) ∧ tV a n (tN a n p) ≤ (T 0) - 1)) = true) => ?_)
      · refine ep_k1 (w := nI 0) t55_160 rfl ?_
        refine ep_val (b := bI false) (rfl) ?_
        refine ep_cv t55_161 rfl rfl (Nat.le_of_ble_eq_true rfl) (Nat.le_of_ble_eq_true rfl) (cl_M_takes_f (f := tS a n (tN a n p)) (by omega) (m3.2.1)) ?_
        refine ep_astN t55_164 rfl (Nat.le_of_ble_eq_true rfl) (Nat.le_of_ble_eq_true rfl) (by omega) ?_
        have t4 : ToldM ((g_up (g_up (g_up (g_up σ1 34 (12 + (T 3)) (nI (tV a n p))) 31 7 ((g_up σ1 34 (12 + (T 3)) (nI (tV a n p))) 31 5)) 34 (20 + (T 3)) (nI 0)) 34 (28 + (T 3)) (nI 0)) 34) T := ToldM.up (t3) h8 (Or.inr (Or.inr (Or.inr rfl)))
        refine ep_aln t55_165 rfl ?_
        refine ep_getr (q := 34) t55_166 rfl (Nat.le_of_ble_eq_true rfl) rfl (rfl) ?_
        refine ep_k1 (w := nI 3) t55_169 rfl ?_
        refine ep_dup2 t55_170 rfl rfl ?_
        refine ep_aldN t55_171 rfl (Nat.le_of_ble_eq_true rfl) (Nat.ne_of_beq_eq_false rfl) (Nat.le_of_ble_eq_true rfl) (by omega) ?_
        refine ep_val (b := nI (T 3)) (t4.1 3 (by decide)) ?_
        refine ep_k1 (w := nI 1) t55_172 rfl ?_
        refine ep_addN (a := T 3) (b := 1) t55_173 ?_
        refine ep_astN t55_174 rfl (Nat.le_of_ble_eq_true rfl) (Nat.le_of_ble_eq_true rfl) (by omega) ?_
        refine ep_rv t55_175 ?_
        refine ⟨rfl, _, rfl, (FrM.rf.u34.adv m1 m2).u34.flt.u34.u34.u34, ?_⟩
        unfold rW
        unfold rW2
        rw [cif_pos h8, cif_pos hq1, cif_neg hq2]
        exact m3.2.1
      · have hv7 := (of_decide_eq_true c137).2.2
        refine ep_aln t55_140 rfl ?_
        refine ep_get t55_141 rfl (Nat.le_of_ble_eq_true rfl) rfl ?_
        refine ep_val (b := nI (tV a n (tN a n p))) (m3.2.2.2 (Or.inr (of_decide_eq_true c137).1)) ?_
        refine ep_aln t55_144 rfl ?_
        refine ep_getr (q := 34) t55_145 rfl (Nat.le_of_ble_eq_true rfl) rfl (rfl) ?_
        refine ep_k2 (w := nI 20) t55_148 rfl ?_
        refine ep_iln t55_150 rfl ?_
        refine ep_addN (a := 20) (b := T 3) t55_151 ?_
        refine ep_aldN t55_152 rfl (Nat.le_of_ble_eq_true rfl) (Nat.ne_of_beq_eq_false rfl) (Nat.le_of_ble_eq_true rfl) (by omega) ?_
        refine ep_val (b := nI 0) (g_up_eq) ?_
        refine ep_ifP t55_153 (ic_eq (by omega) (by omega)) (fun (c153 : (tV a n (tN a n p)) = 0) => ?_) (fun (c153 : ¬ ((tV a n (tN a n p)) = 0)) => ?_)
        · refine ep_k1 (w := nI 0) t55_160 rfl ?_
          refine ep_val (b := bI false) (rfl) ?_
          refine ep_cv t55_161 rfl rfl (Nat.le_of_ble_eq_true rfl) (Nat.le_of_ble_eq_true rfl) (cl_M_takes_f (f := tS a n (tN a n p)) (by omega) (m3.2.1)) ?_
          refine ep_astN t55_164 rfl (Nat.le_of_ble_eq_true rfl) (Nat.le_of_ble_eq_true rfl) (by omega) ?_
          have t4 : ToldM ((g_up (g_up (g_up (g_up σ1 34 (12 + (T 3)) (nI (tV a n p))) 31 7 ((g_up σ1 34 (12 + (T 3)) (nI (tV a n p))) 31 5)) 34 (20 + (T 3)) (nI 0)) 34 (28 + (T 3)) (nI 0)) 34) T := ToldM.up (t3) h8 (Or.inr (Or.inr (Or.inr rfl)))
          refine ep_aln t55_165 rfl ?_
          refine ep_getr (q := 34) t55_166 rfl (Nat.le_of_ble_eq_true rfl) rfl (rfl) ?_
          refine ep_k1 (w := nI 3) t55_169 rfl ?_
          refine ep_dup2 t55_170 rfl rfl ?_
          refine ep_aldN t55_171 rfl (Nat.le_of_ble_eq_true rfl) (Nat.ne_of_beq_eq_false rfl) (Nat.le_of_ble_eq_true rfl) (by omega) ?_
          refine ep_val (b := nI (T 3)) (t4.1 3 (by decide)) ?_
          refine ep_k1 (w := nI 1) t55_172 rfl ?_
          refine ep_addN (a := T 3) (b := 1) t55_173 ?_
          refine ep_astN t55_174 rfl (Nat.le_of_ble_eq_true rfl) (Nat.le_of_ble_eq_true rfl) (by omega) ?_
          refine ep_rv t55_175 ?_
          refine ⟨rfl, _, rfl, (FrM.rf.u34.adv m1 m2).u34.flt.u34.u34.u34, ?_⟩
          unfold rW
          unfold rW2
          rw [cif_pos h8, cif_pos hq1, cif_neg hq2]
          exact m3.2.1
        · refine ep_k1 (w := nI 1) t55_156 rfl ?_
          refine ep_val (b := bI true) (rfl) ?_
          refine ep_gt t55_157 ?_
          refine ep_cv t55_161 rfl rfl (Nat.le_of_ble_eq_true rfl) (Nat.le_of_ble_eq_true rfl) (cl_M_takes_f (f := tS a n (tN a n p)) (by omega) (m3.2.1)) ?_
          refine ep_astN t55_164 rfl (Nat.le_of_ble_eq_true rfl) (Nat.le_of_ble_eq_true rfl) (by omega) ?_
          have t4 : ToldM ((g_up (g_up (g_up (g_up σ1 34 (12 + (T 3)) (nI (tV a n p))) 31 7 ((g_up σ1 34 (12 + (T 3)) (nI (tV a n p))) 31 5)) 34 (20 + (T 3)) (nI 0)) 34 (28 + (T 3)) (nI 0)) 34) T := ToldM.up (t3) h8 (Or.inr (Or.inr (Or.inr rfl)))
          refine ep_aln t55_165 rfl ?_
          refine ep_getr (q := 34) t55_166 rfl (Nat.le_of_ble_eq_true rfl) rfl (rfl) ?_
          refine ep_k1 (w := nI 3) t55_169 rfl ?_
          refine ep_dup2 t55_170 rfl rfl ?_
          refine ep_aldN t55_171 rfl (Nat.le_of_ble_eq_true rfl) (Nat.ne_of_beq_eq_false rfl) (Nat.le_of_ble_eq_true rfl) (by omega) ?_
          refine ep_val (b := nI (T 3)) (t4.1 3 (by decide)) ?_
          refine ep_k1 (w := nI 1) t55_172 rfl ?_
          refine ep_addN (a := T 3) (b := 1) t55_173 ?_
          refine ep_astN t55_174 rfl (Nat.le_of_ble_eq_true rfl) (Nat.le_of_ble_eq_true rfl) (by omega) ?_
          refine ep_rv t55_175 ?_
          refine ⟨rfl, _, rfl, (FrM.rf.u34.adv m1 m2).u34.flt.u34.u34.u34, ?_⟩
          unfold rW
          unfold rW2
          rw [cif_pos h8, cif_pos hq1, cif_neg hq2]
          exact m3.2.1
  · by_cases h1 : tK a n p = 1
    · have hv1 := hk9.2.2.1 h1
      obtain ⟨j, hj, ej⟩ : ∃ j, j < T 3 ∧ T (12 + j) = tV a n p := Classical.byContradiction (fun z => hq1 ⟨h1, fun k hk e => z ⟨k, hk, e⟩⟩)
      refine ep_aln t55_0 rfl ?_
      refine ep_getr (q := 34) t55_1 rfl (Nat.le_of_ble_eq_true rfl) rfl (rfl) ?_
      refine ep_k1 (w := nI 3) t55_4 rfl ?_
      refine ep_aldN t55_5 rfl (Nat.le_of_ble_eq_true rfl) (Nat.ne_of_beq_eq_false rfl) (Nat.le_of_ble_eq_true rfl) (by omega) ?_
      refine ep_val (b := nI (T 3)) (hd.1.1 3 (by decide)) ?_
      refine ep_isn (L' := [some (.ref 31), some (.int (nI 98)), some (.int (nI (T 3)))]) t55_6 rfl (Nat.le_of_ble_eq_true rfl) ?_
      refine ep_aln t55_7 rfl ?_
      refine ep_getr (q := 34) t55_8 rfl (Nat.le_of_ble_eq_true rfl) rfl (rfl) ?_
      refine ep_k1 (w := nI 4) t55_11 rfl ?_
      refine ep_iln t55_12 rfl ?_
      refine ep_addN (a := 4) (b := T 3) t55_13 ?_
      refine ep_iln t55_14 rfl ?_
      refine ep_k2 (w := nI 98) t55_15 rfl ?_
      refine ep_ifP t55_17 (ic_ne (by omega) (by omega)) (fun (c17 : ¬ 98 = 98) => (by omega)) (fun (c17 : ¬ (¬ 98 = 98)) => ?_)
      refine ep_k1 (w := nI 0) t55_20 rfl ?_
      refine ep_gt t55_21 ?_
      refine ep_astN t55_35 rfl (Nat.le_of_ble_eq_true rfl) (Nat.le_of_ble_eq_true rfl) (by omega) ?_
      have t1 : ToldM ((g_up σ 34 (4 + (T 3)) (nI 0)) 34) T := ToldM.up hd.1 h8 (Or.inl rfl)
      refine ep_aln t55_36 rfl ?_
      refine ep_getr (q := 34) t55_37 rfl (Nat.le_of_ble_eq_true rfl) rfl (rfl) ?_
      refine ep_k2 (w := nI 12) t55_40 rfl ?_
      refine ep_iln t55_42 rfl ?_
      refine ep_addN (a := 12) (b := T 3) t55_43 ?_
      refine ep_aln t55_44 rfl ?_
      refine ep_aln t55_45 rfl ?_
      refine ep_get t55_46 rfl (Nat.le_of_ble_eq_true rfl) rfl ?_
      refine ep_val (b := nI (tK a n p)) (ht.2.2.1) ?_
      refine ep_k1 (w := nI 1) t55_49 rfl ?_
      refine ep_ifP t55_50 (ic_ne (by omega) (by omega)) (fun (c50 : ¬ (tK a n p) = 1) => (by exact absurd h1 c50)) (fun (c50 : ¬ (¬ (tK a n p) = 1)) => ?_)
      refine ep_aln t55_53 rfl ?_
      refine ep_getr (q := 34) t55_54 rfl (Nat.le_of_ble_eq_true rfl) rfl (rfl) ?_
      refine ep_aln t55_57 rfl ?_
      refine ep_get t55_58 rfl (Nat.le_of_ble_eq_true rfl) rfl ?_
      refine ep_val (b := nI (tV a n p)) (ht.2.2.2 (Or.inl h1)) ?_
      refine ep_cs t55_61 (Nat.ne_of_beq_eq_false rfl) rfl (Nat.le_of_ble_eq_true rfl) (cl_wn_y t1 hw.1 (by omega) hj ej) ?_
      refine ep_k2 (w := (-9)) t55_64 rfl ?_
      refine ep_if t55_66 (fun (c66 : ¬ (nI j) = ((-9))) => ?_) (fun (c66 : ¬ (¬ (nI j) = ((-9)))) => (by exact absurd (nI_m9 (by omega)) c66))
      refine ep_k1 (w := nI 0) t55_73 rfl ?_
      refine ep_val (b := bI false) (rfl) ?_
      refine ep_cv t55_74 rfl rfl (Nat.le_of_ble_eq_true rfl) (Nat.le_of_ble_eq_true rfl) (cl_M_takes_no (e7)) ?_
      refine ep_astN t55_77 rfl (Nat.le_of_ble_eq_true rfl) (Nat.le_of_ble_eq_true rfl) (by omega) ?_
      have t2 : ToldM ((g_up (g_up (g_up σ 34 (4 + (T 3)) (nI 0)) 31 7 ((g_up σ 34 (4 + (T 3)) (nI 0)) 31 5)) 34 (12 + (T 3)) (nI 0)) 34) T := ToldM.up (by rw [g_up_ne (by decide)]; exact t1) h8 (Or.inr (Or.inl rfl))
      refine ep_aln t55_78 rfl ?_
      refine ep_getr (q := 34) t55_79 rfl (Nat.le_of_ble_eq_true rfl) rfl (rfl) ?_
      refine ep_k2 (w := nI 20) t55_82 rfl ?_
      refine ep_iln t55_84 rfl ?_
      refine ep_addN (a := 20) (b := T 3) t55_85 ?_
      refine ep_aln t55_86 rfl ?_
      refine ep_aln t55_87 rfl ?_
      refine ep_k1 (w := nI 0) t55_88 rfl ?_
      refine ep_aln t55_89 rfl ?_
      refine ep_getr (q := 34) t55_90 rfl (Nat.le_of_ble_eq_true rfl) rfl (rfl) ?_
      refine ep_k1 (w := nI 0) t55_93 rfl ?_
      refine ep_aldN t55_94 rfl (Nat.le_of_ble_eq_true rfl) (Nat.ne_of_beq_eq_false rfl) (Nat.le_of_ble_eq_true rfl) (by omega) ?_
      refine ep_val (b := nI (T 0)) (t2.1 0 (by decide)) ?_
      refine ep_k1 (w := nI 1) t55_95 rfl ?_
      refine ep_subN (a := T 0) (b := 1) t55_96 (by omega) ?_
      refine ep_cv t55_97 rfl rfl (Nat.le_of_ble_eq_true rfl) (Nat.le_of_ble_eq_true rfl) (cl_M_isNumber (p := p) hp (ht.u34.flt.u34) (by omega) (by omega)) ?_
      refine ep_cv t55_100 rfl rfl (Nat.le_of_ble_eq_true rfl) (Nat.le_of_ble_eq_true rfl) (cl_M_takes_f (f := tS a n p) (by omega) (ht.2.1)) ?_
      refine ep_astN t55_103 rfl (Nat.le_of_ble_eq_true rfl) (Nat.le_of_ble_eq_true rfl) (by omega) ?_
      have t3 : ToldM ((g_up (g_up (g_up (g_up σ 34 (4 + (T 3)) (nI 0)) 31 7 ((g_up σ 34 (4 + (T 3)) (nI 0)) 31 5)) 34 (12 + (T 3)) (nI 0)) 34 (20 + (T 3)) (nI 0)) 34) T := ToldM.up (t2) h8 (Or.inr (Or.inr (Or.inl rfl)))
      refine ep_aln t55_104 rfl ?_
      refine ep_getr (q := 34) t55_105 rfl (Nat.le_of_ble_eq_true rfl) rfl (rfl) ?_
      refine ep_k2 (w := nI 28) t55_108 rfl ?_
      refine ep_iln t55_110 rfl ?_
      refine ep_addN (a := 28) (b := T 3) t55_111 ?_
      refine ep_iln t55_112 rfl ?_
      refine ep_k2 (w := nI 101) t55_113 rfl ?_
      refine ep_ifP t55_115 (ic_ne (by omega) (by omega)) (fun (c115 : ¬ 98 = 101) => ?_) (fun (c115 : ¬ (¬ 98 = 101)) => (by omega))
      refine ep_aln t55_123 rfl ?_
      refine ep_aln t55_124 rfl ?_
      refine ep_k1 (w := nI 0) t55_125 rfl ?_
      refine ep_aln t55_126 rfl ?_
      refine ep_getr (q := 34) t55_127 rfl (Nat.le_of_ble_eq_true rfl) rfl (rfl) ?_
      refine ep_k1 (w := nI 0) t55_130 rfl ?_
      refine ep_aldN t55_131 rfl (Nat.le_of_ble_eq_true rfl) (Nat.ne_of_beq_eq_false rfl) (Nat.le_of_ble_eq_true rfl) (by omega) ?_
      refine ep_val (b := nI (T 0)) (t3.1 0 (by decide)) ?_
      refine ep_k1 (w := nI 1) t55_132 rfl ?_
      refine ep_subN (a := T 0) (b := 1) t55_133 (by omega) ?_
      refine ep_cv t55_134 rfl rfl (Nat.le_of_ble_eq_true rfl) (Nat.le_of_ble_eq_true rfl) (cl_M_isNumber (p := p) hp (ht.u34.flt.u34.u34) (by omega) (by omega)) ?_
      refine ep_bF t55_137 (fun (c137 : (decide (tK a n p = 2 ∧ 0 ≤ tV a n p ∧ tV a n p ≤ (T 0) - 1)) = false) => ?_) (fun (c137 : (decide (tK a n p = 2 ∧ 0 ≤ tV a n p ∧ tV a n p ≤ (T 0) - 1)) = true) => ?_)
      · refine ep_k1 (w := nI 0) t55_160 rfl ?_
        refine ep_val (b := bI false) (rfl) ?_
        refine ep_cv t55_161 rfl rfl (Nat.le_of_ble_eq_true rfl) (Nat.le_of_ble_eq_true rfl) (cl_M_takes_f (f := tS a n p) (by omega) (ht.2.1)) ?_
        refine ep_astN t55_164 rfl (Nat.le_of_ble_eq_true rfl) (Nat.le_of_ble_eq_true rfl) (by omega) ?_
        have t4 : ToldM ((g_up (g_up (g_up (g_up (g_up σ 34 (4 + (T 3)) (nI 0)) 31 7 ((g_up σ 34 (4 + (T 3)) (nI 0)) 31 5)) 34 (12 + (T 3)) (nI 0)) 34 (20 + (T 3)) (nI 0)) 34 (28 + (T 3)) (nI 0)) 34) T := ToldM.up (t3) h8 (Or.inr (Or.inr (Or.inr rfl)))
        refine ep_aln t55_165 rfl ?_
        refine ep_getr (q := 34) t55_166 rfl (Nat.le_of_ble_eq_true rfl) rfl (rfl) ?_
        refine ep_k1 (w := nI 3) t55_169 rfl ?_
        refine ep_dup2 t55_170 rfl rfl ?_
        refine ep_aldN t55_171 rfl (Nat.le_of_ble_eq_true rfl) (Nat.ne_of_beq_eq_false rfl) (Nat.le_of_ble_eq_true rfl) (by omega) ?_
        refine ep_val (b := nI (T 3)) (t4.1 3 (by decide)) ?_
        refine ep_k1 (w := nI 1) t55_172 rfl ?_
        refine ep_addN (a := T 3) (b := 1) t55_173 ?_
        refine ep_astN t55_174 rfl (Nat.le_of_ble_eq_true rfl) (Nat.le_of_ble_eq_true rfl) (by omega) ?_
        refine ep_rv t55_175 ?_
        refine ⟨rfl, _, rfl, FrM.rf.u34.flt.u34.u34.u34.u34, ?_⟩
        unfold rW
        rw [cif_pos h8, cif_neg hq1]
        exact ht.2.1
      · have hv7 := (of_decide_eq_true c137).2.2
        refine ep_aln t55_140 rfl ?_
        refine ep_get t55_141 rfl (Nat.le_of_ble_eq_true rfl) rfl ?_
        refine ep_val (b := nI (tV a n p)) (ht.2.2.2 (Or.inr (of_decide_eq_true c137).1)) ?_
        refine ep_aln t55_144 rfl ?_
        refine ep_getr (q := 34) t55_145 rfl (Nat.le_of_ble_eq_true rfl) rfl (rfl) ?_
        refine ep_k2 (w := nI 20) t55_148 rfl ?_
        refine ep_iln t55_150 rfl ?_
        refine ep_addN (a := 20) (b := T 3) t55_151 ?_
        refine ep_aldN t55_152 rfl (Nat.le_of_ble_eq_true rfl) (Nat.ne_of_beq_eq_false rfl) (Nat.le_of_ble_eq_true rfl) (by omega) ?_
        refine ep_val (b := nI 0) (g_up_eq) ?_
        refine ep_ifP t55_153 (ic_eq (by omega) (by omega)) (fun (c153 : (tV a n p) = 0) => ?_) (fun (c153 : ¬ ((tV a n p) = 0)) => ?_)
        · refine ep_k1 (w := nI 0) t55_160 rfl ?_
          refine ep_val (b := bI false) (rfl) ?_
          refine ep_cv t55_161 rfl rfl (Nat.le_of_ble_eq_true rfl) (Nat.le_of_ble_eq_true rfl) (cl_M_takes_f (f := tS a n p) (by omega) (ht.2.1)) ?_
          refine ep_astN t55_164 rfl (Nat.le_of_ble_eq_true rfl) (Nat.le_of_ble_eq_true rfl) (by omega) ?_
          have t4 : ToldM ((g_up (g_up (g_up (g_up (g_up σ 34 (4 + (T 3)) (nI 0)) 31 7 ((g_up σ 34 (4 + (T 3)) (nI 0)) 31 5)) 34 (12 + (T 3)) (nI 0)) 34 (20 + (T 3)) (nI 0)) 34 (28 + (T 3)) (nI 0)) 34) T := ToldM.up (t3) h8 (Or.inr (Or.inr (Or.inr rfl)))
          refine ep_aln t55_165 rfl ?_
          refine ep_getr (q := 34) t55_166 rfl (Nat.le_of_ble_eq_true rfl) rfl (rfl) ?_
          refine ep_k1 (w := nI 3) t55_169 rfl ?_
          refine ep_dup2 t55_170 rfl rfl ?_
          refine ep_aldN t55_171 rfl (Nat.le_of_ble_eq_true rfl) (Nat.ne_of_beq_eq_false rfl) (Nat.le_of_ble_eq_true rfl) (by omega) ?_
          refine ep_val (b := nI (T 3)) (t4.1 3 (by decide)) ?_
          refine ep_k1 (w := nI 1) t55_172 rfl ?_
          refine ep_addN (a := T 3) (b := 1) t55_173 ?_
          refine ep_astN t55_174 rfl (Nat.le_of_ble_eq_true rfl) (Nat.le_of_ble_eq_true rfl) (by omega) ?_
          refine ep_rv t55_175 ?_
          refine ⟨rfl, _, rfl, FrM.rf.u34.flt.u34.u34.u34.u34, ?_⟩
          unfold rW
          rw [cif_pos h8, cif_neg hq1]
          exact ht.2.1
        · refine ep_k1 (w := nI 1) t55_156 rfl ?_
          refine ep_val (b := bI true) (rfl) ?_
          refine ep_gt t55_157 ?_
          refine ep_cv t55_161 rfl rfl (Nat.le_of_ble_eq_true rfl) (Nat.le_of_ble_eq_true rfl) (cl_M_takes_f (f := tS a n p) (by omega) (ht.2.1)) ?_
          refine ep_astN t55_164 rfl (Nat.le_of_ble_eq_true rfl) (Nat.le_of_ble_eq_true rfl) (by omega) ?_
          have t4 : ToldM ((g_up (g_up (g_up (g_up (g_up σ 34 (4 + (T 3)) (nI 0)) 31 7 ((g_up σ 34 (4 + (T 3)) (nI 0)) 31 5)) 34 (12 + (T 3)) (nI 0)) 34 (20 + (T 3)) (nI 0)) 34 (28 + (T 3)) (nI 0)) 34) T := ToldM.up (t3) h8 (Or.inr (Or.inr (Or.inr rfl)))
          refine ep_aln t55_165 rfl ?_
          refine ep_getr (q := 34) t55_166 rfl (Nat.le_of_ble_eq_true rfl) rfl (rfl) ?_
          refine ep_k1 (w := nI 3) t55_169 rfl ?_
          refine ep_dup2 t55_170 rfl rfl ?_
          refine ep_aldN t55_171 rfl (Nat.le_of_ble_eq_true rfl) (Nat.ne_of_beq_eq_false rfl) (Nat.le_of_ble_eq_true rfl) (by omega) ?_
          refine ep_val (b := nI (T 3)) (t4.1 3 (by decide)) ?_
          refine ep_k1 (w := nI 1) t55_172 rfl ?_
          refine ep_addN (a := T 3) (b := 1) t55_173 ?_
          refine ep_astN t55_174 rfl (Nat.le_of_ble_eq_true rfl) (Nat.le_of_ble_eq_true rfl) (by omega) ?_
          refine ep_rv t55_175 ?_
          refine ⟨rfl, _, rfl, FrM.rf.u34.flt.u34.u34.u34.u34, ?_⟩
          unfold rW
          rw [cif_pos h8, cif_neg hq1]
          exact ht.2.1
    · refine ep_aln t55_0 rfl ?_
      refine ep_getr (q := 34) t55_1 rfl (Nat.le_of_ble_eq_true rfl) rfl (rfl) ?_
      refine ep_k1 (w := nI 3) t55_4 rfl ?_
      refine ep_aldN t55_5 rfl (Nat.le_of_ble_eq_true rfl) (Nat.ne_of_beq_eq_false rfl) (Nat.le_of_ble_eq_true rfl) (by omega) ?_
      refine ep_val (b := nI (T 3)) (hd.1.1 3 (by decide)) ?_
      refine ep_isn (L' := [some (.ref 31), some (.int (nI 98)), some (.int (nI (T 3)))]) t55_6 rfl (Nat.le_of_ble_eq_true rfl) ?_
      refine ep_aln t55_7 rfl ?_
      refine ep_getr (q := 34) t55_8 rfl (Nat.le_of_ble_eq_true rfl) rfl (rfl) ?_
      refine ep_k1 (w := nI 4) t55_11 rfl ?_
      refine ep_iln t55_12 rfl ?_
      refine ep_addN (a := 4) (b := T 3) t55_13 ?_
      refine ep_iln t55_14 rfl ?_
      refine ep_k2 (w := nI 98) t55_15 rfl ?_
      refine ep_ifP t55_17 (ic_ne (by omega) (by omega)) (fun (c17 : ¬ 98 = 98) => (by omega)) (fun (c17 : ¬ (¬ 98 = 98)) => ?_)
      refine ep_k1 (w := nI 0) t55_20 rfl ?_
      refine ep_gt t55_21 ?_
      refine ep_astN t55_35 rfl (Nat.le_of_ble_eq_true rfl) (Nat.le_of_ble_eq_true rfl) (by omega) ?_
      have t1 : ToldM ((g_up σ 34 (4 + (T 3)) (nI 0)) 34) T := ToldM.up hd.1 h8 (Or.inl rfl)
      refine ep_aln t55_36 rfl ?_
      refine ep_getr (q := 34) t55_37 rfl (Nat.le_of_ble_eq_true rfl) rfl (rfl) ?_
      refine ep_k2 (w := nI 12) t55_40 rfl ?_
      refine ep_iln t55_42 rfl ?_
      refine ep_addN (a := 12) (b := T 3) t55_43 ?_
      refine ep_aln t55_44 rfl ?_
      refine ep_aln t55_45 rfl ?_
      refine ep_get t55_46 rfl (Nat.le_of_ble_eq_true rfl) rfl ?_
      refine ep_val (b := nI (tK a n p)) (ht.2.2.1) ?_
      refine ep_k1 (w := nI 1) t55_49 rfl ?_
      refine ep_ifP t55_50 (ic_ne (by omega) (by omega)) (fun (c50 : ¬ (tK a n p) = 1) => ?_) (fun (c50 : ¬ (¬ (tK a n p) = 1)) => (by exact absurd (Classical.byContradiction c50) h1))
      refine ep_k1 (w := nI 0) t55_73 rfl ?_
      refine ep_val (b := bI false) (rfl) ?_
      refine ep_cv t55_74 rfl rfl (Nat.le_of_ble_eq_true rfl) (Nat.le_of_ble_eq_true rfl) (cl_M_takes_no (e7)) ?_
      refine ep_astN t55_77 rfl (Nat.le_of_ble_eq_true rfl) (Nat.le_of_ble_eq_true rfl) (by omega) ?_
      have t2 : ToldM ((g_up (g_up (g_up σ 34 (4 + (T 3)) (nI 0)) 31 7 ((g_up σ 34 (4 + (T 3)) (nI 0)) 31 5)) 34 (12 + (T 3)) (nI 0)) 34) T := ToldM.up (by rw [g_up_ne (by decide)]; exact t1) h8 (Or.inr (Or.inl rfl))
      refine ep_aln t55_78 rfl ?_
      refine ep_getr (q := 34) t55_79 rfl (Nat.le_of_ble_eq_true rfl) rfl (rfl) ?_
      refine ep_k2 (w := nI 20) t55_82 rfl ?_
      refine ep_iln t55_84 rfl ?_
      refine ep_addN (a := 20) (b := T 3) t55_85 ?_
      refine ep_aln t55_86 rfl ?_
      refine ep_aln t55_87 rfl ?_
      refine ep_k1 (w := nI 0) t55_88 rfl ?_
      refine ep_aln t55_89 rfl ?_
      refine ep_getr (q := 34) t55_90 rfl (Nat.le_of_ble_eq_true rfl) rfl (rfl) ?_
      refine ep_k1 (w := nI 0) t55_93 rfl ?_
      refine ep_aldN t55_94 rfl (Nat.le_of_ble_eq_true rfl) (Nat.ne_of_beq_eq_false rfl) (Nat.le_of_ble_eq_true rfl) (by omega) ?_
      refine ep_val (b := nI (T 0)) (t2.1 0 (by decide)) ?_
      refine ep_k1 (w := nI 1) t55_95 rfl ?_
      refine ep_subN (a := T 0) (b := 1) t55_96 (by omega) ?_
      refine ep_cv t55_97 rfl rfl (Nat.le_of_ble_eq_true rfl) (Nat.le_of_ble_eq_true rfl) (cl_M_isNumber (p := p) hp (ht.u34.flt.u34) (by omega) (by omega)) ?_
      refine ep_cv t55_100 rfl rfl (Nat.le_of_ble_eq_true rfl) (Nat.le_of_ble_eq_true rfl) (cl_M_takes_f (f := tS a n p) (by omega) (ht.2.1)) ?_
      refine ep_astN t55_103 rfl (Nat.le_of_ble_eq_true rfl) (Nat.le_of_ble_eq_true rfl) (by omega) ?_
      have t3 : ToldM ((g_up (g_up (g_up (g_up σ 34 (4 + (T 3)) (nI 0)) 31 7 ((g_up σ 34 (4 + (T 3)) (nI 0)) 31 5)) 34 (12 + (T 3)) (nI 0)) 34 (20 + (T 3)) (nI 0)) 34) T := ToldM.up (t2) h8 (Or.inr (Or.inr (Or.inl rfl)))
      refine ep_aln t55_104 rfl ?_
      refine ep_getr (q := 34) t55_105 rfl (Nat.le_of_ble_eq_true rfl) rfl (rfl) ?_
      refine ep_k2 (w := nI 28) t55_108 rfl ?_
      refine ep_iln t55_110 rfl ?_
      refine ep_addN (a := 28) (b := T 3) t55_111 ?_
      refine ep_iln t55_112 rfl ?_
      refine ep_k2 (w := nI 101) t55_113 rfl ?_
      refine ep_ifP t55_115 (ic_ne (by omega) (by omega)) (fun (c115 : ¬ 98 = 101) => ?_) (fun (c115 : ¬ (¬ 98 = 101)) => (by omega))
      refine ep_aln t55_123 rfl ?_
      refine ep_aln t55_124 rfl ?_
      refine ep_k1 (w := nI 0) t55_125 rfl ?_
      refine ep_aln t55_126 rfl ?_
      refine ep_getr (q := 34) t55_127 rfl (Nat.le_of_ble_eq_true rfl) rfl (rfl) ?_
      refine ep_k1 (w := nI 0) t55_130 rfl ?_
      refine ep_aldN t55_131 rfl (Nat.le_of_ble_eq_true rfl) (Nat.ne_of_beq_eq_false rfl) (Nat.le_of_ble_eq_true rfl) (by omega) ?_
      refine ep_val (b := nI (T 0)) (t3.1 0 (by decide)) ?_
      refine ep_k1 (w := nI 1) t55_132 rfl ?_
      refine ep_subN (a := T 0) (b := 1) t55_133 (by omega) ?_
      refine ep_cv t55_134 rfl rfl (Nat.le_of_ble_eq_true rfl) (Nat.le_of_ble_eq_true rfl) (cl_M_isNumber (p := p) hp (ht.u34.flt.u34.u34) (by omega) (by omega)) ?_
      refine ep_bF t55_137 (fun (c137 : (decide (tK a n p = 2 ∧ 0 ≤ tV a n p ∧ tV a n p ≤ (T 0) - 1)) = false) => ?_) (fun (c137 : (decide (tK a n p = 2 ∧ 0 ≤ tV a n p ∧ tV a n p ≤ (T 0) - 1)) = true) => ?_)
      · refine ep_k1 (w := nI 0) t55_160 rfl ?_
        refine ep_val (b := bI false) (rfl) ?_
        refine ep_cv t55_161 rfl rfl (Nat.le_of_ble_eq_true rfl) (Nat.le_of_ble_eq_true rfl) (cl_M_takes_f (f := tS a n p) (by omega) (ht.2.1)) ?_
        refine ep_astN t55_164 rfl (Nat.le_of_ble_eq_true rfl) (Nat.le_of_ble_eq_true rfl) (by omega) ?_
        have t4 : ToldM ((g_up (g_up (g_up (g_up (g_up σ 34 (4 + (T 3)) (nI 0)) 31 7 ((g_up σ 34 (4 + (T 3)) (nI 0)) 31 5)) 34 (12 + (T 3)) (nI 0)) 34 (20 + (T 3)) (nI 0)) 34 (28 + (T 3)) (nI 0)) 34) T := ToldM.up (t3) h8 (Or.inr (Or.inr (Or.inr rfl)))
        refine ep_aln t55_165 rfl ?_
        refine ep_getr (q := 34) t55_166 rfl (Nat.le_of_ble_eq_true rfl) rfl (rfl) ?_
        refine ep_k1 (w := nI 3) t55_169 rfl ?_
        refine ep_dup2 t55_170 rfl rfl ?_
        refine ep_aldN t55_171 rfl (Nat.le_of_ble_eq_true rfl) (Nat.ne_of_beq_eq_false rfl) (Nat.le_of_ble_eq_true rfl) (by omega) ?_
        refine ep_val (b := nI (T 3)) (t4.1 3 (by decide)) ?_
        refine ep_k1 (w := nI 1) t55_172 rfl ?_
        refine ep_addN (a := T 3) (b := 1) t55_173 ?_
        refine ep_astN t55_174 rfl (Nat.le_of_ble_eq_true rfl) (Nat.le_of_ble_eq_true rfl) (by omega) ?_
        refine ep_rv t55_175 ?_
        refine ⟨rfl, _, rfl, FrM.rf.u34.flt.u34.u34.u34.u34, ?_⟩
        unfold rW
        rw [cif_pos h8, cif_neg hq1]
        exact ht.2.1
      · have hv7 := (of_decide_eq_true c137).2.2
        refine ep_aln t55_140 rfl ?_
        refine ep_get t55_141 rfl (Nat.le_of_ble_eq_true rfl) rfl ?_
        refine ep_val (b := nI (tV a n p)) (ht.2.2.2 (Or.inr (of_decide_eq_true c137).1)) ?_
        refine ep_aln t55_144 rfl ?_
        refine ep_getr (q := 34) t55_145 rfl (Nat.le_of_ble_eq_true rfl) rfl (rfl) ?_
        refine ep_k2 (w := nI 20) t55_148 rfl ?_
        refine ep_iln t55_150 rfl ?_
        refine ep_addN (a := 20) (b := T 3) t55_151 ?_
        refine ep_aldN t55_152 rfl (Nat.le_of_ble_eq_true rfl) (Nat.ne_of_beq_eq_false rfl) (Nat.le_of_ble_eq_true rfl) (by omega) ?_
        refine ep_val (b := nI 0) (g_up_eq) ?_
        refine ep_ifP t55_153 (ic_eq (by omega) (by omega)) (fun (c153 : (tV a n p) = 0) => ?_) (fun (c153 : ¬ ((tV a n p) = 0)) => ?_)
        · refine ep_k1 (w := nI 0) t55_160 rfl ?_
          refine ep_val (b := bI false) (rfl) ?_
          refine ep_cv t55_161 rfl rfl (Nat.le_of_ble_eq_true rfl) (Nat.le_of_ble_eq_true rfl) (cl_M_takes_f (f := tS a n p) (by omega) (ht.2.1)) ?_
          refine ep_astN t55_164 rfl (Nat.le_of_ble_eq_true rfl) (Nat.le_of_ble_eq_true rfl) (by omega) ?_
          have t4 : ToldM ((g_up (g_up (g_up (g_up (g_up σ 34 (4 + (T 3)) (nI 0)) 31 7 ((g_up σ 34 (4 + (T 3)) (nI 0)) 31 5)) 34 (12 + (T 3)) (nI 0)) 34 (20 + (T 3)) (nI 0)) 34 (28 + (T 3)) (nI 0)) 34) T := ToldM.up (t3) h8 (Or.inr (Or.inr (Or.inr rfl)))
          refine ep_aln t55_165 rfl ?_
          refine ep_getr (q := 34) t55_166 rfl (Nat.le_of_ble_eq_true rfl) rfl (rfl) ?_
          refine ep_k1 (w := nI 3) t55_169 rfl ?_
          refine ep_dup2 t55_170 rfl rfl ?_
          refine ep_aldN t55_171 rfl (Nat.le_of_ble_eq_true rfl) (Nat.ne_of_beq_eq_false rfl) (Nat.le_of_ble_eq_true rfl) (by omega) ?_
          refine ep_val (b := nI (T 3)) (t4.1 3 (by decide)) ?_
          refine ep_k1 (w := nI 1) t55_172 rfl ?_
          refine ep_addN (a := T 3) (b := 1) t55_173 ?_
          refine ep_astN t55_174 rfl (Nat.le_of_ble_eq_true rfl) (Nat.le_of_ble_eq_true rfl) (by omega) ?_
          refine ep_rv t55_175 ?_
          refine ⟨rfl, _, rfl, FrM.rf.u34.flt.u34.u34.u34.u34, ?_⟩
          unfold rW
          rw [cif_pos h8, cif_neg hq1]
          exact ht.2.1
        · refine ep_k1 (w := nI 1) t55_156 rfl ?_
          refine ep_val (b := bI true) (rfl) ?_
          refine ep_gt t55_157 ?_
          refine ep_cv t55_161 rfl rfl (Nat.le_of_ble_eq_true rfl) (Nat.le_of_ble_eq_true rfl) (cl_M_takes_f (f := tS a n p) (by omega) (ht.2.1)) ?_
          refine ep_astN t55_164 rfl (Nat.le_of_ble_eq_true rfl) (Nat.le_of_ble_eq_true rfl) (by omega) ?_
          have t4 : ToldM ((g_up (g_up (g_up (g_up (g_up σ 34 (4 + (T 3)) (nI 0)) 31 7 ((g_up σ 34 (4 + (T 3)) (nI 0)) 31 5)) 34 (12 + (T 3)) (nI 0)) 34 (20 + (T 3)) (nI 0)) 34 (28 + (T 3)) (nI 0)) 34) T := ToldM.up (t3) h8 (Or.inr (Or.inr (Or.inr rfl)))
          refine ep_aln t55_165 rfl ?_
          refine ep_getr (q := 34) t55_166 rfl (Nat.le_of_ble_eq_true rfl) rfl (rfl) ?_
          refine ep_k1 (w := nI 3) t55_169 rfl ?_
          refine ep_dup2 t55_170 rfl rfl ?_
          refine ep_aldN t55_171 rfl (Nat.le_of_ble_eq_true rfl) (Nat.ne_of_beq_eq_false rfl) (Nat.le_of_ble_eq_true rfl) (by omega) ?_
          refine ep_val (b := nI (T 3)) (t4.1 3 (by decide)) ?_
          refine ep_k1 (w := nI 1) t55_172 rfl ?_
          refine ep_addN (a := T 3) (b := 1) t55_173 ?_
          refine ep_astN t55_174 rfl (Nat.le_of_ble_eq_true rfl) (Nat.le_of_ble_eq_true rfl) (by omega) ?_
          refine ep_rv t55_175 ?_
          refine ⟨rfl, _, rfl, FrM.rf.u34.flt.u34.u34.u34.u34, ?_⟩
          unfold rW
          rw [cif_pos h8, cif_neg hq1]
          exact ht.2.1

theorem cl_it_98 {X : gX} {q : Bool} {σ : gT1} {a : Nat → Nat} {n : Nat} (ha : ∀ j, a j < 256) (hn : n ≤ 120) (hx : TxM σ a n) {p : Nat} (hp : p ≤ n) {T : Nat → Nat} {c l : Nat} (hw : WFD T c l) (ht : TokM σ a n p) (hd : DrM σ T c l) (e7 : σ 31 7 = -1) {f : Nat} (h8 : T 3 < 8) : ClP X 56 [.ref 31, .int (nI 98)] (47, g_rho q, σ) (fun v g1 => v = none ∧ ∃ σ1, g1 = (47, g_rho q, σ1) ∧ FrM σ σ1 ∧ RMo a n σ1 (rW a n 0 f p T c l)) := by
  refine ClP.of ⟨Nat.le_of_ble_eq_true rfl, rfl⟩ ?_
  show EvP X 56 0 [some (.ref 31), some (.int (nI 98))] [] (47, g_rho q, σ) _
  refine ep_iln t56_0 rfl ?_
  refine ep_k2 (w := nI 110) t56_1 rfl ?_
  refine ep_ifP t56_3 (ic_ne (by omega) (by omega)) (fun (c3 : ¬ 98 = 110) => ?_) (fun (c3 : ¬ (¬ 98 = 110)) => (by omega))
  refine ep_iln t56_26 rfl ?_
  refine ep_k2 (w := nI 115) t56_27 rfl ?_
  refine ep_ifP t56_29 (ic_ne (by omega) (by omega)) (fun (c29 : ¬ 98 = 115) => ?_) (fun (c29 : ¬ (¬ 98 = 115)) => (by omega))
  refine ep_iln t56_52 rfl ?_
  refine ep_k2 (w := nI 100) t56_53 rfl ?_
  refine ep_ifP t56_55 (ic_ne (by omega) (by omega)) (fun (c55 : ¬ 98 = 100) => ?_) (fun (c55 : ¬ (¬ 98 = 100)) => (by omega))
  refine ep_iln t56_78 rfl ?_
  refine ep_k2 (w := nI 99) t56_79 rfl ?_
  refine ep_ifP t56_81 (ic_ne (by omega) (by omega)) (fun (c81 : ¬ 98 = 99) => ?_) (fun (c81 : ¬ (¬ 98 = 99)) => (by omega))
  refine ep_iln t56_104 rfl ?_
  refine ep_k2 (w := nI 107) t56_105 rfl ?_
  refine ep_ifP t56_107 (ic_ne (by omega) (by omega)) (fun (c107 : ¬ 98 = 107) => ?_) (fun (c107 : ¬ (¬ 98 = 107)) => (by omega))
  refine ep_aln t56_130 rfl ?_
  refine ep_iln t56_131 rfl ?_
  obtain ⟨v9, g9, h9, rfl, σ1, rfl, r1, r2⟩ := cl_sw_98 (X := X) (f := f) ha hn hx hp hw ht hd e7 h8
  refine ep_cv t56_132 rfl rfl (Nat.le_of_ble_eq_true rfl) (Nat.le_of_ble_eq_true rfl) (h9) ?_
  refine ep_rv t56_135 ?_
  exact ⟨rfl, σ1, rfl, r1, r2⟩

theorem cl_sw_105 {X : gX} {q : Bool} {σ : gT1} {a : Nat → Nat} {n : Nat} (ha : ∀ j, a j < 256) (hn : n ≤ 120) (hx : TxM σ a n) {p : Nat} (hp : p ≤ n) {T : Nat → Nat} {c l : Nat} (hw : WFD T c l) (ht : TokM σ a n p) (hd : DrM σ T c l) (e7 : σ 31 7 = -1) {f : Nat} (h8 : T 3 < 8) : ClP X 55 [.ref 31, .int (nI 105)] (47, g_rho q, σ) (fun v g1 => v = none ∧ ∃ σ1, g1 = (47, g_rho q, σ1) ∧ FrM σ σ1 ∧ RMo a n σ1 (rW a n 1 f p T c l)) := by
  have h6 := hw.1.1
  have ht3 := hw.1.2.2.1
  have hk9 := tk_all (a := a) hp
  have hp2 := hk9.1.2.2.1
  have hpw := pow_le_256 (m := T 0) (by omega)
  have hpw3 := pow_le_256 (m := T 3) (by omega)
  have hwd := hw.2
  have ht12 := hw.1.2.1
  have hk2 := tk_all (a := a) hp2
  have hp3 := hk2.1.2.2.1
  have hk3 := tk_all (a := a) hp3
  have hp4 := hk3.1.2.2.1
  have hk4 := hk9.2.2.2.2
  refine ClP.of ⟨Nat.le_of_ble_eq_true rfl, rfl⟩ ?_
  show EvP X 55 0 [some (.ref 31), some (.int (nI 105)), none] [] (47, g_rho q, σ) _
  by_cases hq1 : tK a n p = 1 ∧ ∀ k, k < T 3 → ¬ T (12 + k) = tV a n p
  · have h1 := hq1.1
    have hv1 := hk9.2.2.1 h1
    by_cases hq2 : tK a n (tN a n p) = 2 ∧ tV a n (tN a n p) < T 0
    · by_cases hq3 : tK a n (tN a n (tN a n p)) = 2 ∧ tV a n (tN a n (tN a n p)) < T 0 ∧ ¬ tV a n (tN a n (tN a n p)) = tV a n (tN a n p)
      · refine ep_aln t55_0 rfl ?_
        refine ep_getr (q := 34) t55_1 rfl (Nat.le_of_ble_eq_true rfl) rfl (rfl) ?_
        refine ep_k1 (w := nI 3) t55_4 rfl ?_
        refine ep_aldN t55_5 rfl (Nat.le_of_ble_eq_true rfl) (Nat.ne_of_beq_eq_false rfl) (Nat.le_of_ble_eq_true rfl) (by omega) ?_
        refine ep_val (b := nI (T 3)) (hd.1.1 3 (by decide)) ?_
        refine ep_isn (L' := [some (.ref 31), some (.int (nI 105)), some (.int (nI (T 3)))]) t55_6 rfl (Nat.le_of_ble_eq_true rfl) ?_
        refine ep_aln t55_7 rfl ?_
        refine ep_getr (q := 34) t55_8 rfl (Nat.le_of_ble_eq_true rfl) rfl (rfl) ?_
        refine ep_k1 (w := nI 4) t55_11 rfl ?_
        refine ep_iln t55_12 rfl ?_
        refine ep_addN (a := 4) (b := T 3) t55_13 ?_
        refine ep_iln t55_14 rfl ?_
        refine ep_k2 (w := nI 98) t55_15 rfl ?_
        refine ep_ifP t55_17 (ic_ne (by omega) (by omega)) (fun (c17 : ¬ 105 = 98) => ?_) (fun (c17 : ¬ (¬ 105 = 98)) => (by omega))
        refine ep_iln t55_24 rfl ?_
        refine ep_k2 (w := nI 105) t55_25 rfl ?_
        refine ep_ifP t55_27 (ic_ne (by omega) (by omega)) (fun (c27 : ¬ 105 = 105) => (by omega)) (fun (c27 : ¬ (¬ 105 = 105)) => ?_)
        refine ep_k1 (w := nI 1) t55_30 rfl ?_
        refine ep_gt t55_31 ?_
        refine ep_astN t55_35 rfl (Nat.le_of_ble_eq_true rfl) (Nat.le_of_ble_eq_true rfl) (by omega) ?_
        have t1 : ToldM ((g_up σ 34 (4 + (T 3)) (nI 1)) 34) T := ToldM.up hd.1 h8 (Or.inl rfl)
        refine ep_aln t55_36 rfl ?_
        refine ep_getr (q := 34) t55_37 rfl (Nat.le_of_ble_eq_true rfl) rfl (rfl) ?_
        refine ep_k2 (w := nI 12) t55_40 rfl ?_
        refine ep_iln t55_42 rfl ?_
        refine ep_addN (a := 12) (b := T 3) t55_43 ?_
        refine ep_aln t55_44 rfl ?_
        refine ep_aln t55_45 rfl ?_
        refine ep_get t55_46 rfl (Nat.le_of_ble_eq_true rfl) rfl ?_
        refine ep_val (b := nI (tK a n p)) (ht.2.2.1) ?_
        refine ep_k1 (w := nI 1) t55_49 rfl ?_
        refine ep_ifP t55_50 (ic_ne (by omega) (by omega)) (fun (c50 : ¬ (tK a n p) = 1) => (by exact absurd h1 c50)) (fun (c50 : ¬ (¬ (tK a n p) = 1)) => ?_)
        refine ep_aln t55_53 rfl ?_
        refine ep_getr (q := 34) t55_54 rfl (Nat.le_of_ble_eq_true rfl) rfl (rfl) ?_
        refine ep_aln t55_57 rfl ?_
        refine ep_get t55_58 rfl (Nat.le_of_ble_eq_true rfl) rfl ?_
        refine ep_val (b := nI (tV a n p)) (ht.2.2.2 (Or.inl h1)) ?_
        refine ep_cs t55_61 (Nat.ne_of_beq_eq_false rfl) rfl (Nat.le_of_ble_eq_true rfl) (cl_wn_n t1 hw.1 (by omega) hq1.2) ?_
        refine ep_k2 (w := (-9)) t55_64 rfl ?_
        refine ep_if t55_66 (fun (c66 : ¬ ((-9)) = ((-9))) => (by exact absurd rfl c66)) (fun (c66 : ¬ (¬ ((-9)) = ((-9)))) => ?_)
        refine ep_k1 (w := nI 1) t55_69 rfl ?_
        refine ep_val (b := bI true) (rfl) ?_
        refine ep_gt t55_70 ?_
        obtain ⟨v9, g9, h9, σ1, rfl, rfl, m1, m2, m3⟩ := cl_M_takes_yes (X := X) (q := q) (σ := g_up σ 34 (4 + (T 3)) (nI 1)) (a := a) (n := n) (p := tN a n p) ha hn (FrM.rf.u34.tx hx) (hp2) (ht.1) (e7)
        refine ep_cv t55_74 rfl rfl (Nat.le_of_ble_eq_true rfl) (Nat.le_of_ble_eq_true rfl) (h9) ?_
        refine ep_val (b := nI (tV a n p)) (ht.2.2.2 (Or.inl h1)) ?_
        refine ep_astN t55_77 rfl (Nat.le_of_ble_eq_true rfl) (Nat.le_of_ble_eq_true rfl) (by omega) ?_
        have t2 : ToldM ((g_up σ1 34 (12 + (T 3)) (nI (tV a n p))) 34) T := ToldM.up (by rw [m1 34 (by decide)]; exact t1) h8 (Or.inr (Or.inl rfl))
        refine ep_aln t55_78 rfl ?_
        refine ep_getr (q := 34) t55_79 rfl (Nat.le_of_ble_eq_true rfl) rfl (rfl) ?_
        refine ep_k2 (w := nI 20) t55_82 rfl ?_
        refine ep_iln t55_84 rfl ?_
        refine ep_addN (a := 20) (b := T 3) t55_85 ?_
        refine ep_aln t55_86 rfl ?_
        refine ep_aln t55_87 rfl ?_
        refine ep_k1 (w := nI 0) t55_88 rfl ?_
        refine ep_aln t55_89 rfl ?_
        refine ep_getr (q := 34) t55_90 rfl (Nat.le_of_ble_eq_true rfl) rfl (rfl) ?_
        refine ep_k1 (w := nI 0) t55_93 rfl ?_
        refine ep_aldN t55_94 rfl (Nat.le_of_ble_eq_true rfl) (Nat.ne_of_beq_eq_false rfl) (Nat.le_of_ble_eq_true rfl) (by omega) ?_
        refine ep_val (b := nI (T 0)) (t2.1 0 (by decide)) ?_
        refine ep_k1 (w := nI 1) t55_95 rfl ?_
        refine ep_subN (a := T 0) (b := 1) t55_96 (by omega) ?_
        refine ep_cv t55_97 rfl rfl (Nat.le_of_ble_eq_true rfl) (Nat.le_of_ble_eq_true rfl) (cl_M_isNumber (p := tN a n p) hp2 (m3.u34) (by omega) (by omega)) ?_
        refine ep_val (b := bI true) (congrArg bI (decide_eq_true ⟨hq2.1, Nat.zero_le _, by omega⟩)) ?_
        obtain ⟨v9, g9, h9, σ2, rfl, rfl, k1, k2, k3⟩ := cl_M_takes_yes (X := X) (q := q) (σ := g_up σ1 34 (12 + (T 3)) (nI (tV a n p))) (a := a) (n := n) (p := tN a n (tN a n p)) ha hn ((FrM.rf.u34.adv m1 m2).u34.tx hx) (hp3) (m3.1) ((m2 7 (by decide) (by decide) (by decide) (by decide)).trans e7)
        refine ep_cv t55_100 rfl rfl (Nat.le_of_ble_eq_true rfl) (Nat.le_of_ble_eq_true rfl) (h9) ?_
        refine ep_val (b := nI (tV a n (tN a n p))) (m3.2.2.2 (Or.inr hq2.1)) ?_
        refine ep_astN t55_103 rfl (Nat.le_of_ble_eq_true rfl) (Nat.le_of_ble_eq_true rfl) (by omega) ?_
        have t3 : ToldM ((g_up σ2 34 (20 + (T 3)) (nI (tV a n (tN a n p)))) 34) T := ToldM.up (by rw [k1 34 (by decide)]; exact t2) h8 (Or.inr (Or.inr (Or.inl rfl)))
        refine ep_aln t55_104 rfl ?_
        refine ep_getr (q := 34) t55_105 rfl (Nat.le_of_ble_eq_true rfl) rfl (rfl) ?_
        refine ep_k2 (w := nI 28) t55_108 rfl ?_
        refine ep_iln t55_110 rfl ?_
        refine ep_addN (a := 28) (b := T 3) t55_111 ?_
        refine ep_iln t55_112 rfl ?_
        refine ep_k2 (w := nI 101) t55_113 rfl ?_
        refine ep_ifP t55_115 (ic_ne (by omega) (by omega)) (fun (c115 : ¬ 105 = 101) => ?_) (fun (c115 : ¬ (¬ 105 = 101)) => (by omega))
        refine ep_aln t55_123 rfl ?_
        refine ep_aln t55_124 rfl ?_
        refine ep_k1 (w := nI 0) t55_125 rfl ?_
        refine ep_aln t55_126 rfl ?_
        refine ep_getr (q := 34) t55_127 rfl (Nat.le_of_ble_eq_true rfl) rfl (rfl) ?_
        refine ep_k1 (w := nI 0) t55_130 rfl ?_
        refine ep_aldN t55_131 rfl (Nat.le_of_ble_eq_true rfl) (Nat.ne_of_beq_eq_false rfl) (Nat.le_of_ble_eq_true rfl) (by omega) ?_
        refine ep_val (b := nI (T 0)) (t3.1 0 (by decide)) ?_
        refine ep_k1 (w := nI 1) t55_132 rfl ?_
        refine ep_subN (a := T 0) (b := 1) t55_133 (by omega) ?_
        refine ep_cv t55_134 rfl rfl (Nat.le_of_ble_eq_true rfl) (Nat.le_of_ble_eq_true rfl) (cl_M_isNumber (p := tN a n (tN a n p)) hp3 (k3.u34) (by omega) (by omega)) ?_
        refine ep_val (b := bI true) (congrArg bI (decide_eq_true ⟨hq3.1, Nat.zero_le _, by omega⟩)) ?_
        refine ep_bF t55_137 (fun (c137 : true = false) => (by exact absurd c137 (by decide))) (fun (c137 : true = true) => ?_)
        refine ep_aln t55_140 rfl ?_
        refine ep_get t55_141 rfl (Nat.le_of_ble_eq_true rfl) rfl ?_
        refine ep_val (b := nI (tV a n (tN a n (tN a n p)))) (k3.2.2.2 (Or.inr hq3.1)) ?_
        refine ep_aln t55_144 rfl ?_
        refine ep_getr (q := 34) t55_145 rfl (Nat.le_of_ble_eq_true rfl) rfl (rfl) ?_
        refine ep_k2 (w := nI 20) t55_148 rfl ?_
        refine ep_iln t55_150 rfl ?_
        refine ep_addN (a := 20) (b := T 3) t55_151 ?_
        refine ep_aldN t55_152 rfl (Nat.le_of_ble_eq_true rfl) (Nat.ne_of_beq_eq_false rfl) (Nat.le_of_ble_eq_true rfl) (by omega) ?_
        refine ep_val (b := nI (tV a n (tN a n p))) (g_up_eq) ?_
        refine ep_ifP t55_153 (ic_eq (by omega) (by omega)) (fun (c153 : (tV a n (tN a n (tN a n p))) = (tV a n (tN a n p))) => (by exact absurd c153 hq3.2.2)) (fun (c153 : ¬ ((tV a n (tN a n (tN a n p))) = (tV a n (tN a n p)))) => ?_)
        refine ep_k1 (w := nI 1) t55_156 rfl ?_
        refine ep_val (b := bI true) (rfl) ?_
        refine ep_gt t55_157 ?_
        obtain ⟨v9, g9, h9, σ3, rfl, rfl, j1, j2, j3⟩ := cl_M_takes_yes (X := X) (q := q) (σ := g_up σ2 34 (20 + (T 3)) (nI (tV a n (tN a n p)))) (a := a) (n := n) (p := tN a n (tN a n (tN a n p))) ha hn (((FrM.rf.u34.adv m1 m2).u34.adv k1 k2).u34.tx hx) (hp4) (k3.1) ((k2 7 (by decide) (by decide) (by decide) (by decide)).trans ((m2 7 (by decide) (by decide) (by decide) (by decide)).trans e7))
        refine ep_cv t55_161 rfl rfl (Nat.le_of_ble_eq_true rfl) (Nat.le_of_ble_eq_true rfl) (h9) ?_
        refine ep_val (b := nI (tV a n (tN a n (tN a n p)))) (k3.2.2.2 (Or.inr hq3.1)) ?_
        refine ep_astN t55_164 rfl (Nat.le_of_ble_eq_true rfl) (Nat.le_of_ble_eq_true rfl) (by omega) ?_
        have t4 : ToldM ((g_up σ3 34 (28 + (T 3)) (nI (tV a n (tN a n (tN a n p))))) 34) T := ToldM.up (by rw [j1 34 (by decide)]; exact t3) h8 (Or.inr (Or.inr (Or.inr rfl)))
        refine ep_aln t55_165 rfl ?_
        refine ep_getr (q := 34) t55_166 rfl (Nat.le_of_ble_eq_true rfl) rfl (rfl) ?_
        refine ep_k1 (w := nI 3) t55_169 rfl ?_
        refine ep_dup2 t55_170 rfl rfl ?_
        refine ep_aldN t55_171 rfl (Nat.le_of_ble_eq_true rfl) (Nat.ne_of_beq_eq_false rfl) (Nat.le_of_ble_eq_true rfl) (by omega) ?_
        refine ep_val (b := nI (T 3)) (t4.1 3 (by decide)) ?_
        refine ep_k1 (w := nI 1) t55_172 rfl ?_
        refine ep_addN (a := T 3) (b := 1) t55_173 ?_
        refine ep_astN t55_174 rfl (Nat.le_of_ble_eq_true rfl) (Nat.le_of_ble_eq_true rfl) (by omega) ?_
        refine ep_rv t55_175 ?_
        have hF : ∀ j, (g_up (g_up σ3 34 (28 + (T 3)) (nI (tV a n (tN a n (tN a n p))))) 34 3 (nI ((T 3) + 1))) 34 j = if j = 3 then nI (T 3 + 1) else if j = 28 + T 3 then nI (tV a n (tN a n (tN a n p))) else if j = 20 + T 3 then nI (tV a n (tN a n p)) else if j = 12 + T 3 then nI (tV a n p) else if j = 4 + T 3 then nI 1 else σ 34 j := fun j => by rw [g_up_at, g_up_at, j1 34 (by decide), g_up_at, k1 34 (by decide), g_up_at, m1 34 (by decide), g_up_at]
        have h35 : (g_up (g_up σ3 34 (28 + (T 3)) (nI (tV a n (tN a n (tN a n p))))) 34 3 (nI ((T 3) + 1))) 35 = σ 35 := by rw [g_up_ne (by decide), g_up_ne (by decide), j1 35 (by decide), g_up_ne (by decide), k1 35 (by decide), g_up_ne (by decide), m1 35 (by decide), g_up_ne (by decide)]
        refine ⟨rfl, _, rfl, (((FrM.rf.u34.adv m1 m2).u34.adv k1 k2).u34.adv j1 j2).u34.u34, ?_⟩
        unfold rW rW2 rW3
        rw [cif_pos h8, cif_pos hq1, cif_pos hq2, if_neg (by decide), cif_pos hq3]
        refine ⟨(j2 7 (by decide) (by decide) (by decide) (by decide)).trans ((k2 7 (by decide) (by decide) (by decide) (by decide)).trans ((m2 7 (by decide) (by decide) (by decide) (by decide)).trans e7)), j3, ?_, ?_⟩
        · exact ToldM.add hd.1 h8 ((hF 3).trans (if_pos rfl)) (by rw [hF, if_neg (by omega), if_neg (by omega), if_neg (by omega), if_neg (by omega), if_pos rfl]) (by rw [hF, if_neg (by omega), if_neg (by omega), if_neg (by omega), if_pos rfl]) (by rw [hF, if_neg (by omega), if_neg (by omega), if_pos rfl]) (by rw [hF, if_neg (by omega), if_pos rfl]; rfl) (fun i i1 i2 i3 i4 i5 => by rw [hF, if_neg i1, if_neg i5, if_neg i4, if_neg i3, if_neg i2])
        · rw [h35]; exact hd.2
      · refine ep_aln t55_0 rfl ?_
        refine ep_getr (q := 34) t55_1 rfl (Nat.le_of_ble_eq_true rfl) rfl (rfl) ?_
        refine ep_k1 (w := nI 3) t55_4 rfl ?_
        refine ep_aldN t55_5 rfl (Nat.le_of_ble_eq_true rfl) (Nat.ne_of_beq_eq_false rfl) (Nat.le_of_ble_eq_true rfl) (by omega) ?_
        refine ep_val (b := nI (T 3)) (hd.1.1 3 (by decide)) ?_
        refine ep_isn (L' := [some (.ref 31), some (.int (nI 105)), some (.int (nI (T 3)))]) t55_6 rfl (Nat.le_of_ble_eq_true rfl) ?_
        refine ep_aln t55_7 rfl ?_
        refine ep_getr (q := 34) t55_8 rfl (Nat.le_of_ble_eq_true rfl) rfl (rfl) ?_
        refine ep_k1 (w := nI 4) t55_11 rfl ?_
        refine ep_iln t55_12 rfl ?_
        refine ep_addN (a := 4) (b := T 3) t55_13 ?_
        refine ep_iln t55_14 rfl ?_
        refine ep_k2 (w := nI 98) t55_15 rfl ?_
        refine ep_ifP t55_17 (ic_ne (by omega) (by omega)) (fun (c17 : ¬ 105 = 98) => ?_) (fun (c17 : ¬ (¬ 105 = 98)) => (by omega))
        refine ep_iln t55_24 rfl ?_
        refine ep_k2 (w := nI 105) t55_25 rfl ?_
        refine ep_ifP t55_27 (ic_ne (by omega) (by omega)) (fun (c27 : ¬ 105 = 105) => (by omega)) (fun (c27 : ¬ (¬ 105 = 105)) => ?_)
        refine ep_k1 (w := nI 1) t55_30 rfl ?_
        refine ep_gt t55_31 ?_
        refine ep_astN t55_35 rfl (Nat.le_of_ble_eq_true rfl) (Nat.le_of_ble_eq_true rfl) (by omega) ?_
        have t1 : ToldM ((g_up σ 34 (4 + (T 3)) (nI 1)) 34) T := ToldM.up hd.1 h8 (Or.inl rfl)
        refine ep_aln t55_36 rfl ?_
        refine ep_getr (q := 34) t55_37 rfl (Nat.le_of_ble_eq_true rfl) rfl (rfl) ?_
        refine ep_k2 (w := nI 12) t55_40 rfl ?_
        refine ep_iln t55_42 rfl ?_
        refine ep_addN (a := 12) (b := T 3) t55_43 ?_
        refine ep_aln t55_44 rfl ?_
        refine ep_aln t55_45 rfl ?_
        refine ep_get t55_46 rfl (Nat.le_of_ble_eq_true rfl) rfl ?_
        refine ep_val (b := nI (tK a n p)) (ht.2.2.1) ?_
        refine ep_k1 (w := nI 1) t55_49 rfl ?_
        refine ep_ifP t55_50 (ic_ne (by omega) (by omega)) (fun (c50 : ¬ (tK a n p) = 1) => (by exact absurd h1 c50)) (fun (c50 : ¬ (¬ (tK a n p) = 1)) => ?_)
        refine ep_aln t55_53 rfl ?_
        refine ep_getr (q := 34) t55_54 rfl (Nat.le_of_ble_eq_true rfl) rfl (rfl) ?_
        refine ep_aln t55_57 rfl ?_
        refine ep_get t55_58 rfl (Nat.le_of_ble_eq_true rfl) rfl ?_
        refine ep_val (b := nI (tV a n p)) (ht.2.2.2 (Or.inl h1)) ?_
        refine ep_cs t55_61 (Nat.ne_of_beq_eq_false rfl) rfl (Nat.le_of_ble_eq_true rfl) (cl_wn_n t1 hw.1 (by omega) hq1.2) ?_
        refine ep_k2 (w := (-9)) t55_64 rfl ?_
        refine ep_if t55_66 (fun (c66 : ¬ ((-9)) = ((-9))) => (by exact absurd rfl c66)) (fun (c66 : ¬ (¬ ((-9)) = ((-9)))) => ?_)
        refine ep_k1 (w := nI 1) t55_69 rfl ?_
        refine ep_val (b := bI true) (rfl) ?_
        refine ep_gt t55_70 ?_
        obtain ⟨v9, g9, h9, σ1, rfl, rfl, m1, m2, m3⟩ := cl_M_takes_yes (X := X) (q := q) (σ := g_up σ 34 (4 + (T 3)) (nI 1)) (a := a) (n := n) (p := tN a n p) ha hn (FrM.rf.u34.tx hx) (hp2) (ht.1) (e7)
        refine ep_cv t55_74 rfl rfl (Nat.le_of_ble_eq_true rfl) (Nat.le_of_ble_eq_true rfl) (h9) ?_
        refine ep_val (b := nI (tV a n p)) (ht.2.2.2 (Or.inl h1)) ?_
        refine ep_astN t55_77 rfl (Nat.le_of_ble_eq_true rfl) (Nat.le_of_ble_eq_true rfl) (by omega) ?_
        have t2 : ToldM ((g_up σ1 34 (12 + (T 3)) (nI (tV a n p))) 34) T := ToldM.up (by rw [m1 34 (by decide)]; exact t1) h8 (Or.inr (Or.inl rfl))
        refine ep_aln t55_78 rfl ?_
        refine ep_getr (q := 34) t55_79 rfl (Nat.le_of_ble_eq_true rfl) rfl (rfl) ?_
        refine ep_k2 (w := nI 20) t55_82 rfl ?_
        refine ep_iln t55_84 rfl ?_
        refine ep_addN (a := 20) (b := T 3) t55_85 ?_
        refine ep_aln t55_86 rfl ?_
        refine ep_aln t55_87 rfl ?_
        refine ep_k1 (w := nI 0) t55_88 rfl ?_
        refine ep_aln t55_89 rfl ?_
        refine ep_getr (q := 34) t55_90 rfl (Nat.le_of_ble_eq_true rfl) rfl (rfl) ?_
        refine ep_k1 (w := nI 0) t55_93 rfl ?_
        refine ep_aldN t55_94 rfl (Nat.le_of_ble_eq_true rfl) (Nat.ne_of_beq_eq_false rfl) (Nat.le_of_ble_eq_true rfl) (by omega) ?_
        refine ep_val (b := nI (T 0)) (t2.1 0 (by decide)) ?_
        refine ep_k1 (w := nI 1) t55_95 rfl ?_
        refine ep_subN (a := T 0) (b := 1) t55_96 (by omega) ?_
        refine ep_cv t55_97 rfl rfl (Nat.le_of_ble_eq_true rfl) (Nat.le_of_ble_eq_true rfl) (cl_M_isNumber (p := tN a n p) hp2 (m3.u34) (by omega) (by omega)) ?_
        refine ep_val (b := bI true) (congrArg bI (decide_eq_true ⟨hq2.1, Nat.zero_le _, by omega⟩)) ?_
        obtain ⟨v9, g9, h9, σ2, rfl, rfl, k1, k2, k3⟩ := cl_M_takes_yes (X := X) (q := q) (σ := g_up σ1 34 (12 + (T 3)) (nI (tV a n p))) (a := a) (n := n) (p := tN a n (tN a n p)) ha hn ((FrM.rf.u34.adv m1 m2).u34.tx hx) (hp3) (m3.1) ((m2 7 (by decide) (by decide) (by decide) (by decide)).trans e7)
        refine ep_cv t55_100 rfl rfl (Nat.le_of_ble_eq_true rfl) (Nat.le_of_ble_eq_true rfl) (h9) ?_
        refine ep_val (b := nI (tV a n (tN a n p))) (m3.2.2.2 (Or.inr hq2.1)) ?_
        refine ep_astN t55_103 rfl (Nat.le_of_ble_eq_true rfl) (Nat.le_of_ble_eq_true rfl) (by omega) ?_
        have t3 : ToldM ((g_up σ2 34 (20 + (T 3)) (nI (tV a n (tN a n p)))) 34) T := ToldM.up (by rw [k1 34 (by decide)]; exact t2) h8 (Or.inr (Or.inr (Or.inl rfl)))
        refine ep_aln t55_104 rfl ?_
        refine ep_getr (q := 34) t55_105 rfl (Nat.le_of_ble_eq_true rfl) rfl (rfl) ?_
        refine ep_k2 (w := nI 28) t55_108 rfl ?_
        refine ep_iln t55_110 rfl ?_
        refine ep_addN (a := 28) (b := T 3) t55_111 ?_
        refine ep_iln t55_112 rfl ?_
        refine ep_k2 (w := nI 101) t55_113 rfl ?_
        refine ep_ifP t55_115 (ic_ne (by omega) (by omega)) (fun (c115 : ¬ 105 = 101) => ?_) (fun (c115 : ¬ (¬ 105 = 101)) => (by omega))
        refine ep_aln t55_123 rfl ?_
        refine ep_aln t55_124 rfl ?_
        refine ep_k1 (w := nI 0) t55_125 rfl ?_
        refine ep_aln t55_126 rfl ?_
        refine ep_getr (q := 34) t55_127 rfl (Nat.le_of_ble_eq_true rfl) rfl (rfl) ?_
        refine ep_k1 (w := nI 0) t55_130 rfl ?_
        refine ep_aldN t55_131 rfl (Nat.le_of_ble_eq_true rfl) (Nat.ne_of_beq_eq_false rfl) (Nat.le_of_ble_eq_true rfl) (by omega) ?_
        refine ep_val (b := nI (T 0)) (t3.1 0 (by decide)) ?_
        refine ep_k1 (w := nI 1) t55_132 rfl ?_
        refine ep_subN (a := T 0) (b := 1) t55_133 (by omega) ?_
        refine ep_cv t55_134 rfl rfl (Nat.le_of_ble_eq_true rfl) (Nat.le_of_ble_eq_true rfl) (cl_M_isNumber (p := tN a n (tN a n p)) hp3 (k3.u34) (by omega) (by omega)) ?_
        refine ep_bF t55_137 (fun (c137 : (decide (tK a n (tN a n (tN a n p)) = 2 ∧ 0 ≤ tV a n (tN a n (tN a n p)) ∧ tV a n (tN a n (tN a n p)) ≤ (T 0) - 1)) = false) => ?_) (fun (c137 : (decide (tK a n (tN a n (tN a n p)) = 2 ∧ 0 ≤ tV a n (tN a n (tN a n p)) ∧ tV a n (tN a n (tN a n p)) ≤ (T 0) - 1)) = true) => ?_)
        · refine ep_k1 (w := nI 0) t55_160 rfl ?_
          refine ep_val (b := bI false) (rfl) ?_
          refine ep_cv t55_161 rfl rfl (Nat.le_of_ble_eq_true rfl) (Nat.le_of_ble_eq_true rfl) (cl_M_takes_no ((k2 7 (by decide) (by decide) (by decide) (by decide)).trans ((m2 7 (by decide) (by decide) (by decide) (by decide)).trans e7))) ?_
          refine ep_astN t55_164 rfl (Nat.le_of_ble_eq_true rfl) (Nat.le_of_ble_eq_true rfl) (by omega) ?_
          have t4 : ToldM ((g_up (g_up (g_up σ2 34 (20 + (T 3)) (nI (tV a n (tN a n p)))) 31 7 ((g_up σ2 34 (20 + (T 3)) (nI (tV a n (tN a n p)))) 31 5)) 34 (28 + (T 3)) (nI 0)) 34) T := ToldM.up (by rw [g_up_ne (by decide)]; exact t3) h8 (Or.inr (Or.inr (Or.inr rfl)))
          refine ep_aln t55_165 rfl ?_
          refine ep_getr (q := 34) t55_166 rfl (Nat.le_of_ble_eq_true rfl) rfl (rfl) ?_
          refine ep_k1 (w := nI 3) t55_169 rfl ?_
          refine ep_dup2 t55_170 rfl rfl ?_
          refine ep_aldN t55_171 rfl (Nat.le_of_ble_eq_true rfl) (Nat.ne_of_beq_eq_false rfl) (Nat.le_of_ble_eq_true rfl) (by omega) ?_
          refine ep_val (b := nI (T 3)) (t4.1 3 (by decide)) ?_
          refine ep_k1 (w := nI 1) t55_172 rfl ?_
          refine ep_addN (a := T 3) (b := 1) t55_173 ?_
          refine ep_astN t55_174 rfl (Nat.le_of_ble_eq_true rfl) (Nat.le_of_ble_eq_true rfl) (by omega) ?_
          refine ep_rv t55_175 ?_
          refine ⟨rfl, _, rfl, ((FrM.rf.u34.adv m1 m2).u34.adv k1 k2).u34.flt.u34.u34, ?_⟩
          unfold rW
          unfold rW2 rW3
          rw [cif_pos h8, cif_pos hq1, cif_pos hq2, if_neg (by decide), cif_neg hq3]
          exact k3.2.1
        · have hv7 := (of_decide_eq_true c137).2.2
          refine ep_aln t55_140 rfl ?_
          refine ep_get t55_141 rfl (Nat.le_of_ble_eq_true rfl) rfl ?_
          refine ep_val (b := nI (tV a n (tN a n (tN a n p)))) (k3.2.2.2 (Or.inr (of_decide_eq_true c137).1)) ?_
          refine ep_aln t55_144 rfl ?_
          refine ep_getr (q := 34) t55_145 rfl (Nat.le_of_ble_eq_true rfl) rfl (rfl) ?_
          refine ep_k2 (w := nI 20) t55_148 rfl ?_
          refine ep_iln t55_150 rfl ?_
          refine ep_addN (a := 20) (b := T 3) t55_151 ?_
          refine ep_aldN t55_152 rfl (Nat.le_of_ble_eq_true rfl) (Nat.ne_of_beq_eq_false rfl) (Nat.le_of_ble_eq_true rfl) (by omega) ?_
          refine ep_val (b := nI (tV a n (tN a n p))) (g_up_eq) ?_
          refine ep_ifP t55_153 (ic_eq (by omega) (by omega)) (fun (c153 : (tV a n (tN a n (tN a n p))) = (tV a n (tN a n p))) => ?_) (fun (c153 : ¬ ((tV a n (tN a n (tN a n p))) = (tV a n (tN a n p)))) => (by exact absurd ⟨(of_decide_eq_true c137).1, by have := (of_decide_eq_true c137).2.2; omega, c153⟩ hq3))
          refine ep_k1 (w := nI 0) t55_160 rfl ?_
          refine ep_val (b := bI false) (rfl) ?_
          refine ep_cv t55_161 rfl rfl (Nat.le_of_ble_eq_true rfl) (Nat.le_of_ble_eq_true rfl) (cl_M_takes_no ((k2 7 (by decide) (by decide) (by decide) (by decide)).trans ((m2 7 (by decide) (by decide) (by decide) (by decide)).trans e7))) ?_
          refine ep_astN t55_164 rfl (Nat.le_of_ble_eq_true rfl) (Nat.le_of_ble_eq_true rfl) (by omega) ?_
          have t4 : ToldM ((g_up (g_up (g_up σ2 34 (20 + (T 3)) (nI (tV a n (tN a n p)))) 31 7 ((g_up σ2 34 (20 + (T 3)) (nI (tV a n (tN a n p)))) 31 5)) 34 (28 + (T 3)) (nI 0)) 34) T := ToldM.up (by rw [g_up_ne (by decide)]; exact t3) h8 (Or.inr (Or.inr (Or.inr rfl)))
          refine ep_aln t55_165 rfl ?_
          refine ep_getr (q := 34) t55_166 rfl (Nat.le_of_ble_eq_true rfl) rfl (rfl) ?_
          refine ep_k1 (w := nI 3) t55_169 rfl ?_
          refine ep_dup2 t55_170 rfl rfl ?_
          refine ep_aldN t55_171 rfl (Nat.le_of_ble_eq_true rfl) (Nat.ne_of_beq_eq_false rfl) (Nat.le_of_ble_eq_true rfl) (by omega) ?_
          refine ep_val (b := nI (T 3)) (t4.1 3 (by decide)) ?_
          refine ep_k1 (w := nI 1) t55_172 rfl ?_
          refine ep_addN (a := T 3) (b := 1) t55_173 ?_
          refine ep_astN t55_174 rfl (Nat.le_of_ble_eq_true rfl) (Nat.le_of_ble_eq_true rfl) (by omega) ?_
          refine ep_rv t55_175 ?_
          refine ⟨rfl, _, rfl, ((FrM.rf.u34.adv m1 m2).u34.adv k1 k2).u34.flt.u34.u34, ?_⟩
          unfold rW
          unfold rW2 rW3
          rw [cif_pos h8, cif_pos hq1, cif_pos hq2, if_neg (by decide), cif_neg hq3]
          exact k3.2.1
    · refine ep_aln t55_0 rfl ?_
      refine ep_getr (q := 34) t55_1 rfl (Nat.le_of_ble_eq_true rfl) rfl (rfl) ?_
      refine ep_k1 (w := nI 3) t55_4 rfl ?_
      refine ep_aldN t55_5 rfl (Nat.le_of_ble_eq_true rfl) (Nat.ne_of_beq_eq_false rfl) (Nat.le_of_ble_eq_true rfl) (by omega) ?_
      refine ep_val (b := nI (T 3)) (hd.1.1 3 (by decide)) ?_
      refine ep_isn (L' := [some (.ref 31), some (.int (nI 105)), some (.int (nI (T 3)))]) t55_6 rfl (Nat.le_of_ble_eq_true rfl) ?_
      refine ep_aln t55_7 rfl ?_
      refine ep_getr (q := 34) t55_8 rfl (Nat.le_of_ble_eq_true rfl) rfl (rfl) ?_
      refine ep_k1 (w := nI 4) t55_11 rfl ?_
      refine ep_iln t55_12 rfl ?_
      refine ep_addN (a := 4) (b := T 3) t55_13 ?_
      refine ep_iln t55_14 rfl ?_
      refine ep_k2 (w := nI 98) t55_15 rfl ?_
      refine ep_ifP t55_17 (ic_ne (by omega) (by omega)) (fun (c17 : ¬ 105 = 98) => ?_) (fun (c17 : ¬ (¬ 105 = 98)) => (by omega))
      refine ep_iln t55_24 rfl ?_
      refine ep_k2 (w := nI 105) t55_25 rfl ?_
      refine ep_ifP t55_27 (ic_ne (by omega) (by omega)) (fun (c27 : ¬ 105 = 105) => (by omega)) (fun (c27 : ¬ (¬ 105 = 105)) => ?_)
      refine ep_k1 (w := nI 1) t55_30 rfl ?_
      refine ep_gt t55_31 ?_
      refine ep_astN t55_35 rfl (Nat.le_of_ble_eq_true rfl) (Nat.le_of_ble_eq_true rfl) (by omega) ?_
      have t1 : ToldM ((g_up σ 34 (4 + (T 3)) (nI 1)) 34) T := ToldM.up hd.1 h8 (Or.inl rfl)
      refine ep_aln t55_36 rfl ?_
      refine ep_getr (q := 34) t55_37 rfl (Nat.le_of_ble_eq_true rfl) rfl (rfl) ?_
      refine ep_k2 (w := nI 12) t55_40 rfl ?_
      refine ep_iln t55_42 rfl ?_
      refine ep_addN (a := 12) (b := T 3) t55_43 ?_
      refine ep_aln t55_44 rfl ?_
      refine ep_aln t55_45 rfl ?_
      refine ep_get t55_46 rfl (Nat.le_of_ble_eq_true rfl) rfl ?_
      refine ep_val (b := nI (tK a n p)) (ht.2.2.1) ?_
      refine ep_k1 (w := nI 1) t55_49 rfl ?_
      refine ep_ifP t55_50 (ic_ne (by omega) (by omega)) (fun (c50 : ¬ (tK a n p) = 1) => (by exact absurd h1 c50)) (fun (c50 : ¬ (¬ (tK a n p) = 1)) => ?_)
      refine ep_aln t55_53 rfl ?_
      refine ep_getr (q := 34) t55_54 rfl (Nat.le_of_ble_eq_true rfl) rfl (rfl) ?_
      refine ep_aln t55_57 rfl ?_
      refine ep_get t55_58 rfl (Nat.le_of_ble_eq_true rfl) rfl ?_
      refine ep_val (b := nI (tV a n p)) (ht.2.2.2 (Or.inl h1)) ?_
      refine ep_cs t55_61 (Nat.ne_of_beq_eq_false rfl) rfl (Nat.le_of_ble_eq_true rfl) (cl_wn_n t1 hw.1 (by omega) hq1.2) ?_
      refine ep_k2 (w := (-9)) t55_64 rfl ?_
      refine ep_if t55_66 (fun (c66 : ¬ ((-9)) = ((-9))) => (by exact absurd rfl c66)) (fun (c66 : ¬ (¬ ((-9)) = ((-9)))) => ?_)
      refine ep_k1 (w := nI 1) t55_69 rfl ?_
      refine ep_val (b := bI true) (rfl) ?_
      refine ep_gt t55_70 ?_
      obtain ⟨v9, g9, h9, σ1, rfl, rfl, m1, m2, m3⟩ := cl_M_takes_yes (X := X) (q := q) (σ := g_up σ 34 (4 + (T 3)) (nI 1)) (a := a) (n := n) (p := tN a n p) ha hn (FrM.rf.u34.tx hx) (hp2) (ht.1) (e7)
      refine ep_cv t55_74 rfl rfl (Nat.le_of_ble_eq_true rfl) (Nat.le_of_ble_eq_true rfl) (h9) ?_
      refine ep_val (b := nI (tV a n p)) (ht.2.2.2 (Or.inl h1)) ?_
      refine ep_astN t55_77 rfl (Nat.le_of_ble_eq_true rfl) (Nat.le_of_ble_eq_true rfl) (by omega) ?_
      have t2 : ToldM ((g_up σ1 34 (12 + (T 3)) (nI (tV a n p))) 34) T := ToldM.up (by rw [m1 34 (by decide)]; exact t1) h8 (Or.inr (Or.inl rfl))
      refine ep_aln t55_78 rfl ?_
      refine ep_getr (q := 34) t55_79 rfl (Nat.le_of_ble_eq_true rfl) rfl (rfl) ?_
      refine ep_k2 (w := nI 20) t55_82 rfl ?_
      refine ep_iln t55_84 rfl ?_
      refine ep_addN (a := 20) (b := T 3) t55_85 ?_
      refine ep_aln t55_86 rfl ?_
      refine ep_aln t55_87 rfl ?_
      refine ep_k1 (w := nI 0) t55_88 rfl ?_
      refine ep_aln t55_89 rfl ?_
      refine ep_getr (q := 34) t55_90 rfl (Nat.le_of_ble_eq_true rfl) rfl (rfl) ?_
      refine ep_k1 (w := nI 0) t55_93 rfl ?_
      refine ep_aldN t55_94 rfl (Nat.le_of_ble_eq_true rfl) (Nat.ne_of_beq_eq_false rfl) (Nat.le_of_ble_eq_true rfl) (by omega) ?_
      refine ep_val (b := nI (T 0)) (t2.1 0 (by decide)) ?_
      refine ep_k1 (w := nI 1) t55_95 rfl ?_
      refine ep_subN (a := T 0) (b := 1) t55_96 (by omega) ?_
      refine ep_cv t55_97 rfl rfl (Nat.le_of_ble_eq_true rfl) (Nat.le_of_ble_eq_true rfl) (cl_M_isNumber (p := tN a n p) hp2 (m3.u34) (by omega) (by omega)) ?_
      refine ep_val (b := bI false) (congrArg bI (decide_eq_false (fun h => hq2 ⟨h.1, by have := h.2.2; omega⟩))) ?_
      refine ep_cv t55_100 rfl rfl (Nat.le_of_ble_eq_true rfl) (Nat.le_of_ble_eq_true rfl) (cl_M_takes_no ((m2 7 (by decide) (by decide) (by decide) (by decide)).trans e7)) ?_
      refine ep_astN t55_103 rfl (Nat.le_of_ble_eq_true rfl) (Nat.le_of_ble_eq_true rfl) (by omega) ?_
      have t3 : ToldM ((g_up (g_up (g_up σ1 34 (12 + (T 3)) (nI (tV a n p))) 31 7 ((g_up σ1 34 (12 + (T 3)) (nI (tV a n p))) 31 5)) 34 (20 + (T 3)) (nI 0)) 34) T := ToldM.up (by rw [g_up_ne (by decide)]; exact t2) h8 (Or.inr (Or.inr (Or.inl rfl)))
      refine ep_aln t55_104 rfl ?_
      refine ep_getr (q := 34) t55_105 rfl (Nat.le_of_ble_eq_true rfl) rfl (rfl) ?_
      refine ep_k2 (w := nI 28) t55_108 rfl ?_
      refine ep_iln t55_110 rfl ?_
      refine ep_addN (a := 28) (b := T 3) t55_111 ?_
      refine ep_iln t55_112 rfl ?_
      refine ep_k2 (w := nI 101) t55_113 rfl ?_
      refine ep_ifP t55_115 (ic_ne (by omega) (by omega)) (fun (c115 : ¬ 105 = 101) => ?_) (fun (c115 : ¬ (¬ 105 = 101)) => (by omega))
      refine ep_aln t55_123 rfl ?_
      refine ep_aln t55_124 rfl ?_
      refine ep_k1 (w := nI 0) t55_125 rfl ?_
      refine ep_aln t55_126 rfl ?_
      refine ep_getr (q := 34) t55_127 rfl (Nat.le_of_ble_eq_true rfl) rfl (rfl) ?_
      refine ep_k1 (w := nI 0) t55_130 rfl ?_
      refine ep_aldN t55_131 rfl (Nat.le_of_ble_eq_true rfl) (Nat.ne_of_beq_eq_false rfl) (Nat.le_of_ble_eq_true rfl) (by omega) ?_
      refine ep_val (b := nI (T 0)) (t3.1 0 (by decide)) ?_
      refine ep_k1 (w := nI 1) t55_132 rfl ?_
      refine ep_subN (a := T 0) (b := 1) t55_133 (by omega) ?_
      refine ep_cv t55_134 rfl rfl (Nat.le_of_ble_eq_true rfl) (Nat.le_of_ble_eq_true rfl) (cl_M_isNumber (p := tN a n p) hp2 (m3.u34.flt.u34) (by omega) (by omega)) ?_
      refine ep_bF t55_137 (fun (c137 : (decide (tK a n (tN a n p) = 2 ∧ 0 ≤ tV a n (tN a n p) ∧ tV a n (tN a n p) ≤ (T 0) - 1)) = false) => ?_) (fun (c137 : (decide (tK a n (tN a n p) = 2 ∧ 0 ≤ tV a n (tN a n p) ∧ tV a n (tN a n p) ≤ (T 0) - 1)) = true) => ?_)
      · refine ep_k1 (w := nI 0) t55_160 rfl ?_
        refine ep_val (b := bI false) (rfl) ?_
        refine ep_cv t55_161 rfl rfl (Nat.le_of_ble_eq_true rfl) (Nat.le_of_ble_eq_true rfl) (cl_M_takes_f (f := tS a n (tN a n p)) (by omega) (m3.2.1)) ?_
        refine ep_astN t55_164 rfl (Nat.le_of_ble_eq_true rfl) (Nat.le_of_ble_eq_true rfl) (by omega) ?_
        have t4 : ToldM ((g_up (g_up (g_up (g_up σ1 34 (12 + (T 3)) (nI (tV a n p))) 31 7 ((g_up σ1 34 (12 + (T 3)) (nI (tV a n p))) 31 5)) 34 (20 + (T 3)) (nI 0)) 34 (28 + (T 3)) (nI 0)) 34) T := ToldM.up (t3) h8 (Or.inr (Or.inr (Or.inr rfl)))
        refine ep_aln t55_165 rfl ?_
        refine ep_getr (q := 34) t55_166 rfl (Nat.le_of_ble_eq_true rfl) rfl (rfl) ?_
        refine ep_k1 (w := nI 3) t55_169 rfl ?_
        refine ep_dup2 t55_170 rfl rfl ?_
        refine ep_aldN t55_171 rfl (Nat.le_of_ble_eq_true rfl) (Nat.ne_of_beq_eq_false rfl) (Nat.le_of_ble_eq_true rfl) (by omega) ?_
        refine ep_val (b := nI (T 3)) (t4.1 3 (by decide)) ?_
        refine ep_k1 (w := nI 1) t55_172 rfl ?_
        refine ep_addN (a := T 3) (b := 1) t55_173 ?_
        refine ep_astN t55_174 rfl (Nat.le_of_ble_eq_true rfl) (Nat.le_of_ble_eq_true rfl) (by omega) ?_
        refine ep_rv t55_175 ?_
        refine ⟨rfl, _, rfl, (FrM.rf.u34.adv m1 m2).u34.flt.u34.u34.u34, ?_⟩
        unfold rW
        unfold rW2
        rw [cif_pos h8, cif_pos hq1, cif_neg hq2]
        exact m3.2.1
      · have hv7 := (of_decide_eq_true c137).2.2
        refine ep_aln t55_140 rfl ?_
        refine ep_get t55_141 rfl (Nat.le_of_ble_eq_true rfl) rfl ?_
        refine ep_val (b := nI (tV a n (tN a n p))) (m3.2.2.2 (Or.inr (of_decide_eq_true c137).1)) ?_
        refine ep_aln t55_144 rfl ?_
        refine ep_getr (q := 34) t55_145 rfl (Nat.le_of_ble_eq_true rfl) rfl (rfl) ?_
        refine ep_k2 (w := nI 20) t55_148 rfl ?_
        refine ep_iln t55_150 rfl ?_
        refine ep_addN (a := 20) (b := T 3) t55_151 ?_
        refine ep_aldN t55_152 rfl (Nat.le_of_ble_eq_true rfl) (Nat.ne_of_beq_eq_false rfl) (Nat.le_of_ble_eq_true rfl) (by omega) ?_
        refine ep_val (b := nI 0) (g_up_eq) ?_
        refine ep_ifP t55_153 (ic_eq (by omega) (by omega)) (fun (c153 : (tV a n (tN a n p)) = 0) => ?_) (fun (c153 : ¬ ((tV a n (tN a n p)) = 0)) => ?_)
        · refine ep_k1 (w := nI 0) t55_160 rfl ?_
          refine ep_val (b := bI false) (rfl) ?_
          refine ep_cv t55_161 rfl rfl (Nat.le_of_ble_eq_true rfl) (Nat.le_of_ble_eq_true rfl) (cl_M_takes_f (f := tS a n (tN a n p)) (by omega) (m3.2.1)) ?_
          refine ep_astN t55_164 rfl (Nat.le_of_ble_eq_true rfl) (Nat.le_of_ble_eq_true rfl) (by omega) ?_
          have t4 : ToldM ((g_up (g_up (g_up (g_up σ1 34 (12 + (T 3)) (nI (tV a n p))) 31 7 ((g_up σ1 34 (12 + (T 3)) (nI (tV a n p))) 31 5)) 34 (20 + (T 3)) (nI 0)) 34 (28 + (T 3)) (nI 0)) 34) T := ToldM.up (t3) h8 (Or.inr (Or.inr (Or.inr rfl)))
          refine ep_aln t55_165 rfl ?_
          refine ep_getr (q := 34) t55_166 rfl (Nat.le_of_ble_eq_true rfl) rfl (rfl) ?_
          refine ep_k1 (w := nI 3) t55_169 rfl ?_
          refine ep_dup2 t55_170 rfl rfl ?_
          refine ep_aldN t55_171 rfl (Nat.le_of_ble_eq_true rfl) (Nat.ne_of_beq_eq_false rfl) (Nat.le_of_ble_eq_true rfl) (by omega) ?_
          refine ep_val (b := nI (T 3)) (t4.1 3 (by decide)) ?_
          refine ep_k1 (w := nI 1) t55_172 rfl ?_
          refine ep_addN (a := T 3) (b := 1) t55_173 ?_
          refine ep_astN t55_174 rfl (Nat.le_of_ble_eq_true rfl) (Nat.le_of_ble_eq_true rfl) (by omega) ?_
          refine ep_rv t55_175 ?_
          refine ⟨rfl, _, rfl, (FrM.rf.u34.adv m1 m2).u34.flt.u34.u34.u34, ?_⟩
          unfold rW
          unfold rW2
          rw [cif_pos h8, cif_pos hq1, cif_neg hq2]
          exact m3.2.1
        · refine ep_k1 (w := nI 1) t55_156 rfl ?_
          refine ep_val (b := bI true) (rfl) ?_
          refine ep_gt t55_157 ?_
          refine ep_cv t55_161 rfl rfl (Nat.le_of_ble_eq_true rfl) (Nat.le_of_ble_eq_true rfl) (cl_M_takes_f (f := tS a n (tN a n p)) (by omega) (m3.2.1)) ?_
          refine ep_astN t55_164 rfl (Nat.le_of_ble_eq_true rfl) (Nat.le_of_ble_eq_true rfl) (by omega) ?_
          have t4 : ToldM ((g_up (g_up (g_up (g_up σ1 34 (12 + (T 3)) (nI (tV a n p))) 31 7 ((g_up σ1 34 (12 + (T 3)) (nI (tV a n p))) 31 5)) 34 (20 + (T 3)) (nI 0)) 34 (28 + (T 3)) (nI 0)) 34) T := ToldM.up (t3) h8 (Or.inr (Or.inr (Or.inr rfl)))
          refine ep_aln t55_165 rfl ?_
          refine ep_getr (q := 34) t55_166 rfl (Nat.le_of_ble_eq_true rfl) rfl (rfl) ?_
          refine ep_k1 (w := nI 3) t55_169 rfl ?_
          refine ep_dup2 t55_170 rfl rfl ?_
          refine ep_aldN t55_171 rfl (Nat.le_of_ble_eq_true rfl) (Nat.ne_of_beq_eq_false rfl) (Nat.le_of_ble_eq_true rfl) (by omega) ?_
          refine ep_val (b := nI (T 3)) (t4.1 3 (by decide)) ?_
          refine ep_k1 (w := nI 1) t55_172 rfl ?_
          refine ep_addN (a := T 3) (b := 1) t55_173 ?_
          refine ep_astN t55_174 rfl (Nat.le_of_ble_eq_true rfl) (Nat.le_of_ble_eq_true rfl) (by omega) ?_
          refine ep_rv t55_175 ?_
          refine ⟨rfl, _, rfl, (FrM.rf.u34.adv m1 m2).u34.flt.u34.u34.u34, ?_⟩
          unfold rW
          unfold rW2
          rw [cif_pos h8, cif_pos hq1, cif_neg hq2]
          exact m3.2.1
  · by_cases h1 : tK a n p = 1
    · have hv1 := hk9.2.2.1 h1
      obtain ⟨j, hj, ej⟩ : ∃ j, j < T 3 ∧ T (12 + j) = tV a n p := Classical.byContradiction (fun z => hq1 ⟨h1, fun k hk e => z ⟨k, hk, e⟩⟩)
      refine ep_aln t55_0 rfl ?_
      refine ep_getr (q := 34) t55_1 rfl (Nat.le_of_ble_eq_true rfl) rfl (rfl) ?_
      refine ep_k1 (w := nI 3) t55_4 rfl ?_
      refine ep_aldN t55_5 rfl (Nat.le_of_ble_eq_true rfl) (Nat.ne_of_beq_eq_false rfl) (Nat.le_of_ble_eq_true rfl) (by omega) ?_
      refine ep_val (b := nI (T 3)) (hd.1.1 3 (by decide)) ?_
      refine ep_isn (L' := [some (.ref 31), some (.int (nI 105)), some (.int (nI (T 3)))]) t55_6 rfl (Nat.le_of_ble_eq_true rfl) ?_
      refine ep_aln t55_7 rfl ?_
      refine ep_getr (q := 34) t55_8 rfl (Nat.le_of_ble_eq_true rfl) rfl (rfl) ?_
      refine ep_k1 (w := nI 4) t55_11 rfl ?_
      refine ep_iln t55_12 rfl ?_
      refine ep_addN (a := 4) (b := T 3) t55_13 ?_
      refine ep_iln t55_14 rfl ?_
      refine ep_k2 (w := nI 98) t55_15 rfl ?_
      refine ep_ifP t55_17 (ic_ne (by omega) (by omega)) (fun (c17 : ¬ 105 = 98) => ?_) (fun (c17 : ¬ (¬ 105 = 98)) => (by omega))
      refine ep_iln t55_24 rfl ?_
      refine ep_k2 (w := nI 105) t55_25 rfl ?_
      refine ep_ifP t55_27 (ic_ne (by omega) (by omega)) (fun (c27 : ¬ 105 = 105) => (by omega)) (fun (c27 : ¬ (¬ 105 = 105)) => ?_)
      refine ep_k1 (w := nI 1) t55_30 rfl ?_
      refine ep_gt t55_31 ?_
      refine ep_astN t55_35 rfl (Nat.le_of_ble_eq_true rfl) (Nat.le_of_ble_eq_true rfl) (by omega) ?_
      have t1 : ToldM ((g_up σ 34 (4 + (T 3)) (nI 1)) 34) T := ToldM.up hd.1 h8 (Or.inl rfl)
      refine ep_aln t55_36 rfl ?_
      refine ep_getr (q := 34) t55_37 rfl (Nat.le_of_ble_eq_true rfl) rfl (rfl) ?_
      refine ep_k2 (w := nI 12) t55_40 rfl ?_
      refine ep_iln t55_42 rfl ?_
      refine ep_addN (a := 12) (b := T 3) t55_43 ?_
      refine ep_aln t55_44 rfl ?_
      refine ep_aln t55_45 rfl ?_
      refine ep_get t55_46 rfl (Nat.le_of_ble_eq_true rfl) rfl ?_
      refine ep_val (b := nI (tK a n p)) (ht.2.2.1) ?_
      refine ep_k1 (w := nI 1) t55_49 rfl ?_
      refine ep_ifP t55_50 (ic_ne (by omega) (by omega)) (fun (c50 : ¬ (tK a n p) = 1) => (by exact absurd h1 c50)) (fun (c50 : ¬ (¬ (tK a n p) = 1)) => ?_)
      refine ep_aln t55_53 rfl ?_
      refine ep_getr (q := 34) t55_54 rfl (Nat.le_of_ble_eq_true rfl) rfl (rfl) ?_
      refine ep_aln t55_57 rfl ?_
      refine ep_get t55_58 rfl (Nat.le_of_ble_eq_true rfl) rfl ?_
      refine ep_val (b := nI (tV a n p)) (ht.2.2.2 (Or.inl h1)) ?_
      refine ep_cs t55_61 (Nat.ne_of_beq_eq_false rfl) rfl (Nat.le_of_ble_eq_true rfl) (cl_wn_y t1 hw.1 (by omega) hj ej) ?_
      refine ep_k2 (w := (-9)) t55_64 rfl ?_
      refine ep_if t55_66 (fun (c66 : ¬ (nI j) = ((-9))) => ?_) (fun (c66 : ¬ (¬ (nI j) = ((-9)))) => (by exact absurd (nI_m9 (by omega)) c66))
      refine ep_k1 (w := nI 0) t55_73 rfl ?_
      refine ep_val (b := bI false) (rfl) ?_
      refine ep_cv t55_74 rfl rfl (Nat.le_of_ble_eq_true rfl) (Nat.le_of_ble_eq_true rfl) (cl_M_takes_no (e7)) ?_
      refine ep_astN t55_77 rfl (Nat.le_of_ble_eq_true rfl) (Nat.le_of_ble_eq_true rfl) (by omega) ?_
      have t2 : ToldM ((g_up (g_up (g_up σ 34 (4 + (T 3)) (nI 1)) 31 7 ((g_up σ 34 (4 + (T 3)) (nI 1)) 31 5)) 34 (12 + (T 3)) (nI 0)) 34) T := ToldM.up (by rw [g_up_ne (by decide)]; exact t1) h8 (Or.inr (Or.inl rfl))
      refine ep_aln t55_78 rfl ?_
      refine ep_getr (q := 34) t55_79 rfl (Nat.le_of_ble_eq_true rfl) rfl (rfl) ?_
      refine ep_k2 (w := nI 20) t55_82 rfl ?_
      refine ep_iln t55_84 rfl ?_
      refine ep_addN (a := 20) (b := T 3) t55_85 ?_
      refine ep_aln t55_86 rfl ?_
      refine ep_aln t55_87 rfl ?_
      refine ep_k1 (w := nI 0) t55_88 rfl ?_
      refine ep_aln t55_89 rfl ?_
      refine ep_getr (q := 34) t55_90 rfl (Nat.le_of_ble_eq_true rfl) rfl (rfl) ?_
      refine ep_k1 (w := nI 0) t55_93 rfl ?_
      refine ep_aldN t55_94 rfl (Nat.le_of_ble_eq_true rfl) (Nat.ne_of_beq_eq_false rfl) (Nat.le_of_ble_eq_true rfl) (by omega) ?_
      refine ep_val (b := nI (T 0)) (t2.1 0 (by decide)) ?_
      refine ep_k1 (w := nI 1) t55_95 rfl ?_
      refine ep_subN (a := T 0) (b := 1) t55_96 (by omega) ?_
      refine ep_cv t55_97 rfl rfl (Nat.le_of_ble_eq_true rfl) (Nat.le_of_ble_eq_true rfl) (cl_M_isNumber (p := p) hp (ht.u34.flt.u34) (by omega) (by omega)) ?_
      refine ep_cv t55_100 rfl rfl (Nat.le_of_ble_eq_true rfl) (Nat.le_of_ble_eq_true rfl) (cl_M_takes_f (f := tS a n p) (by omega) (ht.2.1)) ?_
      refine ep_astN t55_103 rfl (Nat.le_of_ble_eq_true rfl) (Nat.le_of_ble_eq_true rfl) (by omega) ?_
      have t3 : ToldM ((g_up (g_up (g_up (g_up σ 34 (4 + (T 3)) (nI 1)) 31 7 ((g_up σ 34 (4 + (T 3)) (nI 1)) 31 5)) 34 (12 + (T 3)) (nI 0)) 34 (20 + (T 3)) (nI 0)) 34) T := ToldM.up (t2) h8 (Or.inr (Or.inr (Or.inl rfl)))
      refine ep_aln t55_104 rfl ?_
      refine ep_getr (q := 34) t55_105 rfl (Nat.le_of_ble_eq_true rfl) rfl (rfl) ?_
      refine ep_k2 (w := nI 28) t55_108 rfl ?_
      refine ep_iln t55_110 rfl ?_
      refine ep_addN (a := 28) (b := T 3) t55_111 ?_
      refine ep_iln t55_112 rfl ?_
      refine ep_k2 (w := nI 101) t55_113 rfl ?_
      refine ep_ifP t55_115 (ic_ne (by omega) (by omega)) (fun (c115 : ¬ 105 = 101) => ?_) (fun (c115 : ¬ (¬ 105 = 101)) => (by omega))
      refine ep_aln t55_123 rfl ?_
      refine ep_aln t55_124 rfl ?_
      refine ep_k1 (w := nI 0) t55_125 rfl ?_
      refine ep_aln t55_126 rfl ?_
      refine ep_getr (q := 34) t55_127 rfl (Nat.le_of_ble_eq_true rfl) rfl (rfl) ?_
      refine ep_k1 (w := nI 0) t55_130 rfl ?_
      refine ep_aldN t55_131 rfl (Nat.le_of_ble_eq_true rfl) (Nat.ne_of_beq_eq_false rfl) (Nat.le_of_ble_eq_true rfl) (by omega) ?_
      refine ep_val (b := nI (T 0)) (t3.1 0 (by decide)) ?_
      refine ep_k1 (w := nI 1) t55_132 rfl ?_
      refine ep_subN (a := T 0) (b := 1) t55_133 (by omega) ?_
      refine ep_cv t55_134 rfl rfl (Nat.le_of_ble_eq_true rfl) (Nat.le_of_ble_eq_true rfl) (cl_M_isNumber (p := p) hp (ht.u34.flt.u34.u34) (by omega) (by omega)) ?_
      refine ep_bF t55_137 (fun (c137 : (decide (tK a n p = 2 ∧ 0 ≤ tV a n p ∧ tV a n p ≤ (T 0) - 1)) = false) => ?_) (fun (c137 : (decide (tK a n p = 2 ∧ 0 ≤ tV a n p ∧ tV a n p ≤ (T 0) - 1)) = true) => ?_)
      · refine ep_k1 (w := nI 0) t55_160 rfl ?_
        refine ep_val (b := bI false) (rfl) ?_
        refine ep_cv t55_161 rfl rfl (Nat.le_of_ble_eq_true rfl) (Nat.le_of_ble_eq_true rfl) (cl_M_takes_f (f := tS a n p) (by omega) (ht.2.1)) ?_
        refine ep_astN t55_164 rfl (Nat.le_of_ble_eq_true rfl) (Nat.le_of_ble_eq_true rfl) (by omega) ?_
        have t4 : ToldM ((g_up (g_up (g_up (g_up (g_up σ 34 (4 + (T 3)) (nI 1)) 31 7 ((g_up σ 34 (4 + (T 3)) (nI 1)) 31 5)) 34 (12 + (T 3)) (nI 0)) 34 (20 + (T 3)) (nI 0)) 34 (28 + (T 3)) (nI 0)) 34) T := ToldM.up (t3) h8 (Or.inr (Or.inr (Or.inr rfl)))
        refine ep_aln t55_165 rfl ?_
        refine ep_getr (q := 34) t55_166 rfl (Nat.le_of_ble_eq_true rfl) rfl (rfl) ?_
        refine ep_k1 (w := nI 3) t55_169 rfl ?_
        refine ep_dup2 t55_170 rfl rfl ?_
        refine ep_aldN t55_171 rfl (Nat.le_of_ble_eq_true rfl) (Nat.ne_of_beq_eq_false rfl) (Nat.le_of_ble_eq_true rfl) (by omega) ?_
        refine ep_val (b := nI (T 3)) (t4.1 3 (by decide)) ?_
        refine ep_k1 (w := nI 1) t55_172 rfl ?_
        refine ep_addN (a := T 3) (b := 1) t55_173 ?_
        refine ep_astN t55_174 rfl (Nat.le_of_ble_eq_true rfl) (Nat.le_of_ble_eq_true rfl) (by omega) ?_
        refine ep_rv t55_175 ?_
        refine ⟨rfl, _, rfl, FrM.rf.u34.flt.u34.u34.u34.u34, ?_⟩
        unfold rW
        rw [cif_pos h8, cif_neg hq1]
        exact ht.2.1
      · have hv7 := (of_decide_eq_true c137).2.2
        refine ep_aln t55_140 rfl ?_
        refine ep_get t55_141 rfl (Nat.le_of_ble_eq_true rfl) rfl ?_
        refine ep_val (b := nI (tV a n p)) (ht.2.2.2 (Or.inr (of_decide_eq_true c137).1)) ?_
        refine ep_aln t55_144 rfl ?_
        refine ep_getr (q := 34) t55_145 rfl (Nat.le_of_ble_eq_true rfl) rfl (rfl) ?_
        refine ep_k2 (w := nI 20) t55_148 rfl ?_
        refine ep_iln t55_150 rfl ?_
        refine ep_addN (a := 20) (b := T 3) t55_151 ?_
        refine ep_aldN t55_152 rfl (Nat.le_of_ble_eq_true rfl) (Nat.ne_of_beq_eq_false rfl) (Nat.le_of_ble_eq_true rfl) (by omega) ?_
        refine ep_val (b := nI 0) (g_up_eq) ?_
        refine ep_ifP t55_153 (ic_eq (by omega) (by omega)) (fun (c153 : (tV a n p) = 0) => ?_) (fun (c153 : ¬ ((tV a n p) = 0)) => ?_)
        · refine ep_k1 (w := nI 0) t55_160 rfl ?_
          refine ep_val (b := bI false) (rfl) ?_
          refine ep_cv t55_161 rfl rfl (Nat.le_of_ble_eq_true rfl) (Nat.le_of_ble_eq_true rfl) (cl_M_takes_f (f := tS a n p) (by omega) (ht.2.1)) ?_
          refine ep_astN t55_164 rfl (Nat.le_of_ble_eq_true rfl) (Nat.le_of_ble_eq_true rfl) (by omega) ?_
          have t4 : ToldM ((g_up (g_up (g_up (g_up (g_up σ 34 (4 + (T 3)) (nI 1)) 31 7 ((g_up σ 34 (4 + (T 3)) (nI 1)) 31 5)) 34 (12 + (T 3)) (nI 0)) 34 (20 + (T 3)) (nI 0)) 34 (28 + (T 3)) (nI 0)) 34) T := ToldM.up (t3) h8 (Or.inr (Or.inr (Or.inr rfl)))
          refine ep_aln t55_165 rfl ?_
          refine ep_getr (q := 34) t55_166 rfl (Nat.le_of_ble_eq_true rfl) rfl (rfl) ?_
          refine ep_k1 (w := nI 3) t55_169 rfl ?_
          refine ep_dup2 t55_170 rfl rfl ?_
          refine ep_aldN t55_171 rfl (Nat.le_of_ble_eq_true rfl) (Nat.ne_of_beq_eq_false rfl) (Nat.le_of_ble_eq_true rfl) (by omega) ?_
          refine ep_val (b := nI (T 3)) (t4.1 3 (by decide)) ?_
          refine ep_k1 (w := nI 1) t55_172 rfl ?_
          refine ep_addN (a := T 3) (b := 1) t55_173 ?_
          refine ep_astN t55_174 rfl (Nat.le_of_ble_eq_true rfl) (Nat.le_of_ble_eq_true rfl) (by omega) ?_
          refine ep_rv t55_175 ?_
          refine ⟨rfl, _, rfl, FrM.rf.u34.flt.u34.u34.u34.u34, ?_⟩
          unfold rW
          rw [cif_pos h8, cif_neg hq1]
          exact ht.2.1
        · refine ep_k1 (w := nI 1) t55_156 rfl ?_
          refine ep_val (b := bI true) (rfl) ?_
          refine ep_gt t55_157 ?_
          refine ep_cv t55_161 rfl rfl (Nat.le_of_ble_eq_true rfl) (Nat.le_of_ble_eq_true rfl) (cl_M_takes_f (f := tS a n p) (by omega) (ht.2.1)) ?_
          refine ep_astN t55_164 rfl (Nat.le_of_ble_eq_true rfl) (Nat.le_of_ble_eq_true rfl) (by omega) ?_
          have t4 : ToldM ((g_up (g_up (g_up (g_up (g_up σ 34 (4 + (T 3)) (nI 1)) 31 7 ((g_up σ 34 (4 + (T 3)) (nI 1)) 31 5)) 34 (12 + (T 3)) (nI 0)) 34 (20 + (T 3)) (nI 0)) 34 (28 + (T 3)) (nI 0)) 34) T := ToldM.up (t3) h8 (Or.inr (Or.inr (Or.inr rfl)))
          refine ep_aln t55_165 rfl ?_
          refine ep_getr (q := 34) t55_166 rfl (Nat.le_of_ble_eq_true rfl) rfl (rfl) ?_
          refine ep_k1 (w := nI 3) t55_169 rfl ?_
          refine ep_dup2 t55_170 rfl rfl ?_
          refine ep_aldN t55_171 rfl (Nat.le_of_ble_eq_true rfl) (Nat.ne_of_beq_eq_false rfl) (Nat.le_of_ble_eq_true rfl) (by omega) ?_
          refine ep_val (b := nI (T 3)) (t4.1 3 (by decide)) ?_
          refine ep_k1 (w := nI 1) t55_172 rfl ?_
          refine ep_addN (a := T 3) (b := 1) t55_173 ?_
          refine ep_astN t55_174 rfl (Nat.le_of_ble_eq_true rfl) (Nat.le_of_ble_eq_true rfl) (by omega) ?_
          refine ep_rv t55_175 ?_
          refine ⟨rfl, _, rfl, FrM.rf.u34.flt.u34.u34.u34.u34, ?_⟩
          unfold rW
          rw [cif_pos h8, cif_neg hq1]
          exact ht.2.1
    · refine ep_aln t55_0 rfl ?_
      refine ep_getr (q := 34) t55_1 rfl (Nat.le_of_ble_eq_true rfl) rfl (rfl) ?_
      refine ep_k1 (w := nI 3) t55_4 rfl ?_
      refine ep_aldN t55_5 rfl (Nat.le_of_ble_eq_true rfl) (Nat.ne_of_beq_eq_false rfl) (Nat.le_of_ble_eq_true rfl) (by omega) ?_
      refine ep_val (b := nI (T 3)) (hd.1.1 3 (by decide)) ?_
      refine ep_isn (L' := [some (.ref 31), some (.int (nI 105)), some (.int (nI (T 3)))]) t55_6 rfl (Nat.le_of_ble_eq_true rfl) ?_
      refine ep_aln t55_7 rfl ?_
      refine ep_getr (q := 34) t55_8 rfl (Nat.le_of_ble_eq_true rfl) rfl (rfl) ?_
      refine ep_k1 (w := nI 4) t55_11 rfl ?_
      refine ep_iln t55_12 rfl ?_
      refine ep_addN (a := 4) (b := T 3) t55_13 ?_
      refine ep_iln t55_14 rfl ?_
      refine ep_k2 (w := nI 98) t55_15 rfl ?_
      refine ep_ifP t55_17 (ic_ne (by omega) (by omega)) (fun (c17 : ¬ 105 = 98) => ?_) (fun (c17 : ¬ (¬ 105 = 98)) => (by omega))
      refine ep_iln t55_24 rfl ?_
      refine ep_k2 (w := nI 105) t55_25 rfl ?_
      refine ep_ifP t55_27 (ic_ne (by omega) (by omega)) (fun (c27 : ¬ 105 = 105) => (by omega)) (fun (c27 : ¬ (¬ 105 = 105)) => ?_)
      refine ep_k1 (w := nI 1) t55_30 rfl ?_
      refine ep_gt t55_31 ?_
      refine ep_astN t55_35 rfl (Nat.le_of_ble_eq_true rfl) (Nat.le_of_ble_eq_true rfl) (by omega) ?_
      have t1 : ToldM ((g_up σ 34 (4 + (T 3)) (nI 1)) 34) T := ToldM.up hd.1 h8 (Or.inl rfl)
      refine ep_aln t55_36 rfl ?_
      refine ep_getr (q := 34) t55_37 rfl (Nat.le_of_ble_eq_true rfl) rfl (rfl) ?_
      refine ep_k2 (w := nI 12) t55_40 rfl ?_
      refine ep_iln t55_42 rfl ?_
      refine ep_addN (a := 12) (b := T 3) t55_43 ?_
      refine ep_aln t55_44 rfl ?_
      refine ep_aln t55_45 rfl ?_
      refine ep_get t55_46 rfl (Nat.le_of_ble_eq_true rfl) rfl ?_
      refine ep_val (b := nI (tK a n p)) (ht.2.2.1) ?_
      refine ep_k1 (w := nI 1) t55_49 rfl ?_
      refine ep_ifP t55_50 (ic_ne (by omega) (by omega)) (fun (c50 : ¬ (tK a n p) = 1) => ?_) (fun (c50 : ¬ (¬ (tK a n p) = 1)) => (by exact absurd (Classical.byContradiction c50) h1))
      refine ep_k1 (w := nI 0) t55_73 rfl ?_
      refine ep_val (b := bI false) (rfl) ?_
      refine ep_cv t55_74 rfl rfl (Nat.le_of_ble_eq_true rfl) (Nat.le_of_ble_eq_true rfl) (cl_M_takes_no (e7)) ?_
      refine ep_astN t55_77 rfl (Nat.le_of_ble_eq_true rfl) (Nat.le_of_ble_eq_true rfl) (by omega) ?_
      have t2 : ToldM ((g_up (g_up (g_up σ 34 (4 + (T 3)) (nI 1)) 31 7 ((g_up σ 34 (4 + (T 3)) (nI 1)) 31 5)) 34 (12 + (T 3)) (nI 0)) 34) T := ToldM.up (by rw [g_up_ne (by decide)]; exact t1) h8 (Or.inr (Or.inl rfl))
      refine ep_aln t55_78 rfl ?_
      refine ep_getr (q := 34) t55_79 rfl (Nat.le_of_ble_eq_true rfl) rfl (rfl) ?_
      refine ep_k2 (w := nI 20) t55_82 rfl ?_
      refine ep_iln t55_84 rfl ?_
      refine ep_addN (a := 20) (b := T 3) t55_85 ?_
      refine ep_aln t55_86 rfl ?_
      refine ep_aln t55_87 rfl ?_
      refine ep_k1 (w := nI 0) t55_88 rfl ?_
      refine ep_aln t55_89 rfl ?_
      refine ep_getr (q := 34) t55_90 rfl (Nat.le_of_ble_eq_true rfl) rfl (rfl) ?_
      refine ep_k1 (w := nI 0) t55_93 rfl ?_
      refine ep_aldN t55_94 rfl (Nat.le_of_ble_eq_true rfl) (Nat.ne_of_beq_eq_false rfl) (Nat.le_of_ble_eq_true rfl) (by omega) ?_
      refine ep_val (b := nI (T 0)) (t2.1 0 (by decide)) ?_
      refine ep_k1 (w := nI 1) t55_95 rfl ?_
      refine ep_subN (a := T 0) (b := 1) t55_96 (by omega) ?_
      refine ep_cv t55_97 rfl rfl (Nat.le_of_ble_eq_true rfl) (Nat.le_of_ble_eq_true rfl) (cl_M_isNumber (p := p) hp (ht.u34.flt.u34) (by omega) (by omega)) ?_
      refine ep_cv t55_100 rfl rfl (Nat.le_of_ble_eq_true rfl) (Nat.le_of_ble_eq_true rfl) (cl_M_takes_f (f := tS a n p) (by omega) (ht.2.1)) ?_
      refine ep_astN t55_103 rfl (Nat.le_of_ble_eq_true rfl) (Nat.le_of_ble_eq_true rfl) (by omega) ?_
      have t3 : ToldM ((g_up (g_up (g_up (g_up σ 34 (4 + (T 3)) (nI 1)) 31 7 ((g_up σ 34 (4 + (T 3)) (nI 1)) 31 5)) 34 (12 + (T 3)) (nI 0)) 34 (20 + (T 3)) (nI 0)) 34) T := ToldM.up (t2) h8 (Or.inr (Or.inr (Or.inl rfl)))
      refine ep_aln t55_104 rfl ?_
      refine ep_getr (q := 34) t55_105 rfl (Nat.le_of_ble_eq_true rfl) rfl (rfl) ?_
      refine ep_k2 (w := nI 28) t55_108 rfl ?_
      refine ep_iln t55_110 rfl ?_
      refine ep_addN (a := 28) (b := T 3) t55_111 ?_
      refine ep_iln t55_112 rfl ?_
      refine ep_k2 (w := nI 101) t55_113 rfl ?_
      refine ep_ifP t55_115 (ic_ne (by omega) (by omega)) (fun (c115 : ¬ 105 = 101) => ?_) (fun (c115 : ¬ (¬ 105 = 101)) => (by omega))
      refine ep_aln t55_123 rfl ?_
      refine ep_aln t55_124 rfl ?_
      refine ep_k1 (w := nI 0) t55_125 rfl ?_
      refine ep_aln t55_126 rfl ?_
      refine ep_getr (q := 34) t55_127 rfl (Nat.le_of_ble_eq_true rfl) rfl (rfl) ?_
      refine ep_k1 (w := nI 0) t55_130 rfl ?_
      refine ep_aldN t55_131 rfl (Nat.le_of_ble_eq_true rfl) (Nat.ne_of_beq_eq_false rfl) (Nat.le_of_ble_eq_true rfl) (by omega) ?_
      refine ep_val (b := nI (T 0)) (t3.1 0 (by decide)) ?_
      refine ep_k1 (w := nI 1) t55_132 rfl ?_
      refine ep_subN (a := T 0) (b := 1) t55_133 (by omega) ?_
      refine ep_cv t55_134 rfl rfl (Nat.le_of_ble_eq_true rfl) (Nat.le_of_ble_eq_true rfl) (cl_M_isNumber (p := p) hp (ht.u34.flt.u34.u34) (by omega) (by omega)) ?_
      refine ep_bF t55_137 (fun (c137 : (decide (tK a n p = 2 ∧ 0 ≤ tV a n p ∧ tV a n p ≤ (T 0) - 1)) = false) => ?_) (fun (c137 : (decide (tK a n p = 2 ∧ 0 ≤ tV a n p ∧ tV a n p ≤ (T 0) - 1)) = true) => ?_)
      · refine ep_k1 (w := nI 0) t55_160 rfl ?_
        refine ep_val (b := bI false) (rfl) ?_
        refine ep_cv t55_161 rfl rfl (Nat.le_of_ble_eq_true rfl) (Nat.le_of_ble_eq_true rfl) (cl_M_takes_f (f := tS a n p) (by omega) (ht.2.1)) ?_
        refine ep_astN t55_164 rfl (Nat.le_of_ble_eq_true rfl) (Nat.le_of_ble_eq_true rfl) (by omega) ?_
        have t4 : ToldM ((g_up (g_up (g_up (g_up (g_up σ 34 (4 + (T 3)) (nI 1)) 31 7 ((g_up σ 34 (4 + (T 3)) (nI 1)) 31 5)) 34 (12 + (T 3)) (nI 0)) 34 (20 + (T 3)) (nI 0)) 34 (28 + (T 3)) (nI 0)) 34) T := ToldM.up (t3) h8 (Or.inr (Or.inr (Or.inr rfl)))
        refine ep_aln t55_165 rfl ?_
        refine ep_getr (q := 34) t55_166 rfl (Nat.le_of_ble_eq_true rfl) rfl (rfl) ?_
        refine ep_k1 (w := nI 3) t55_169 rfl ?_
        refine ep_dup2 t55_170 rfl rfl ?_
        refine ep_aldN t55_171 rfl (Nat.le_of_ble_eq_true rfl) (Nat.ne_of_beq_eq_false rfl) (Nat.le_of_ble_eq_true rfl) (by omega) ?_
        refine ep_val (b := nI (T 3)) (t4.1 3 (by decide)) ?_
        refine ep_k1 (w := nI 1) t55_172 rfl ?_
        refine ep_addN (a := T 3) (b := 1) t55_173 ?_
        refine ep_astN t55_174 rfl (Nat.le_of_ble_eq_true rfl) (Nat.le_of_ble_eq_true rfl) (by omega) ?_
        refine ep_rv t55_175 ?_
        refine ⟨rfl, _, rfl, FrM.rf.u34.flt.u34.u34.u34.u34, ?_⟩
        unfold rW
        rw [cif_pos h8, cif_neg hq1]
        exact ht.2.1
      · have hv7 := (of_decide_eq_true c137).2.2
        refine ep_aln t55_140 rfl ?_
        refine ep_get t55_141 rfl (Nat.le_of_ble_eq_true rfl) rfl ?_
        refine ep_val (b := nI (tV a n p)) (ht.2.2.2 (Or.inr (of_decide_eq_true c137).1)) ?_
        refine ep_aln t55_144 rfl ?_
        refine ep_getr (q := 34) t55_145 rfl (Nat.le_of_ble_eq_true rfl) rfl (rfl) ?_
        refine ep_k2 (w := nI 20) t55_148 rfl ?_
        refine ep_iln t55_150 rfl ?_
        refine ep_addN (a := 20) (b := T 3) t55_151 ?_
        refine ep_aldN t55_152 rfl (Nat.le_of_ble_eq_true rfl) (Nat.ne_of_beq_eq_false rfl) (Nat.le_of_ble_eq_true rfl) (by omega) ?_
        refine ep_val (b := nI 0) (g_up_eq) ?_
        refine ep_ifP t55_153 (ic_eq (by omega) (by omega)) (fun (c153 : (tV a n p) = 0) => ?_) (fun (c153 : ¬ ((tV a n p) = 0)) => ?_)
        · refine ep_k1 (w := nI 0) t55_160 rfl ?_
          refine ep_val (b := bI false) (rfl) ?_
          refine ep_cv t55_161 rfl rfl (Nat.le_of_ble_eq_true rfl) (Nat.le_of_ble_eq_true rfl) (cl_M_takes_f (f := tS a n p) (by omega) (ht.2.1)) ?_
          refine ep_astN t55_164 rfl (Nat.le_of_ble_eq_true rfl) (Nat.le_of_ble_eq_true rfl) (by omega) ?_
          have t4 : ToldM ((g_up (g_up (g_up (g_up (g_up σ 34 (4 + (T 3)) (nI 1)) 31 7 ((g_up σ 34 (4 + (T 3)) (nI 1)) 31 5)) 34 (12 + (T 3)) (nI 0)) 34 (20 + (T 3)) (nI 0)) 34 (28 + (T 3)) (nI 0)) 34) T := ToldM.up (t3) h8 (Or.inr (Or.inr (Or.inr rfl)))
          refine ep_aln t55_165 rfl ?_
          refine ep_getr (q := 34) t55_166 rfl (Nat.le_of_ble_eq_true rfl) rfl (rfl) ?_
          refine ep_k1 (w := nI 3) t55_169 rfl ?_
          refine ep_dup2 t55_170 rfl rfl ?_
          refine ep_aldN t55_171 rfl (Nat.le_of_ble_eq_true rfl) (Nat.ne_of_beq_eq_false rfl) (Nat.le_of_ble_eq_true rfl) (by omega) ?_
          refine ep_val (b := nI (T 3)) (t4.1 3 (by decide)) ?_
          refine ep_k1 (w := nI 1) t55_172 rfl ?_
          refine ep_addN (a := T 3) (b := 1) t55_173 ?_
          refine ep_astN t55_174 rfl (Nat.le_of_ble_eq_true rfl) (Nat.le_of_ble_eq_true rfl) (by omega) ?_
          refine ep_rv t55_175 ?_
          refine ⟨rfl, _, rfl, FrM.rf.u34.flt.u34.u34.u34.u34, ?_⟩
          unfold rW
          rw [cif_pos h8, cif_neg hq1]
          exact ht.2.1
        · refine ep_k1 (w := nI 1) t55_156 rfl ?_
          refine ep_val (b := bI true) (rfl) ?_
          refine ep_gt t55_157 ?_
          refine ep_cv t55_161 rfl rfl (Nat.le_of_ble_eq_true rfl) (Nat.le_of_ble_eq_true rfl) (cl_M_takes_f (f := tS a n p) (by omega) (ht.2.1)) ?_
          refine ep_astN t55_164 rfl (Nat.le_of_ble_eq_true rfl) (Nat.le_of_ble_eq_true rfl) (by omega) ?_
          have t4 : ToldM ((g_up (g_up (g_up (g_up (g_up σ 34 (4 + (T 3)) (nI 1)) 31 7 ((g_up σ 34 (4 + (T 3)) (nI 1)) 31 5)) 34 (12 + (T 3)) (nI 0)) 34 (20 + (T 3)) (nI 0)) 34 (28 + (T 3)) (nI 0)) 34) T := ToldM.up (t3) h8 (Or.inr (Or.inr (Or.inr rfl)))
          refine ep_aln t55_165 rfl ?_
          refine ep_getr (q := 34) t55_166 rfl (Nat.le_of_ble_eq_true rfl) rfl (rfl) ?_
          refine ep_k1 (w := nI 3) t55_169 rfl ?_
          refine ep_dup2 t55_170 rfl rfl ?_
          refine ep_aldN t55_171 rfl (Nat.le_of_ble_eq_true rfl) (Nat.ne_of_beq_eq_false rfl) (Nat.le_of_ble_eq_true rfl) (by omega) ?_
          refine ep_val (b := nI (T 3)) (t4.1 3 (by decide)) ?_
          refine ep_k1 (w := nI 1) t55_172 rfl ?_
          refine ep_addN (a := T 3) (b := 1) t55_173 ?_
          refine ep_astN t55_174 rfl (Nat.le_of_ble_eq_true rfl) (Nat.le_of_ble_eq_true rfl) (by omega) ?_
          refine ep_rv t55_175 ?_
          refine ⟨rfl, _, rfl, FrM.rf.u34.flt.u34.u34.u34.u34, ?_⟩
          unfold rW
          rw [cif_pos h8, cif_neg hq1]
          exact ht.2.1

theorem cl_it_105 {X : gX} {q : Bool} {σ : gT1} {a : Nat → Nat} {n : Nat} (ha : ∀ j, a j < 256) (hn : n ≤ 120) (hx : TxM σ a n) {p : Nat} (hp : p ≤ n) {T : Nat → Nat} {c l : Nat} (hw : WFD T c l) (ht : TokM σ a n p) (hd : DrM σ T c l) (e7 : σ 31 7 = -1) {f : Nat} (h8 : T 3 < 8) : ClP X 56 [.ref 31, .int (nI 105)] (47, g_rho q, σ) (fun v g1 => v = none ∧ ∃ σ1, g1 = (47, g_rho q, σ1) ∧ FrM σ σ1 ∧ RMo a n σ1 (rW a n 1 f p T c l)) := by
  refine ClP.of ⟨Nat.le_of_ble_eq_true rfl, rfl⟩ ?_
  show EvP X 56 0 [some (.ref 31), some (.int (nI 105))] [] (47, g_rho q, σ) _
  refine ep_iln t56_0 rfl ?_
  refine ep_k2 (w := nI 110) t56_1 rfl ?_
  refine ep_ifP t56_3 (ic_ne (by omega) (by omega)) (fun (c3 : ¬ 105 = 110) => ?_) (fun (c3 : ¬ (¬ 105 = 110)) => (by omega))
  refine ep_iln t56_26 rfl ?_
  refine ep_k2 (w := nI 115) t56_27 rfl ?_
  refine ep_ifP t56_29 (ic_ne (by omega) (by omega)) (fun (c29 : ¬ 105 = 115) => ?_) (fun (c29 : ¬ (¬ 105 = 115)) => (by omega))
  refine ep_iln t56_52 rfl ?_
  refine ep_k2 (w := nI 100) t56_53 rfl ?_
  refine ep_ifP t56_55 (ic_ne (by omega) (by omega)) (fun (c55 : ¬ 105 = 100) => ?_) (fun (c55 : ¬ (¬ 105 = 100)) => (by omega))
  refine ep_iln t56_78 rfl ?_
  refine ep_k2 (w := nI 99) t56_79 rfl ?_
  refine ep_ifP t56_81 (ic_ne (by omega) (by omega)) (fun (c81 : ¬ 105 = 99) => ?_) (fun (c81 : ¬ (¬ 105 = 99)) => (by omega))
  refine ep_iln t56_104 rfl ?_
  refine ep_k2 (w := nI 107) t56_105 rfl ?_
  refine ep_ifP t56_107 (ic_ne (by omega) (by omega)) (fun (c107 : ¬ 105 = 107) => ?_) (fun (c107 : ¬ (¬ 105 = 107)) => (by omega))
  refine ep_aln t56_130 rfl ?_
  refine ep_iln t56_131 rfl ?_
  obtain ⟨v9, g9, h9, rfl, σ1, rfl, r1, r2⟩ := cl_sw_105 (X := X) (f := f) ha hn hx hp hw ht hd e7 h8
  refine ep_cv t56_132 rfl rfl (Nat.le_of_ble_eq_true rfl) (Nat.le_of_ble_eq_true rfl) (h9) ?_
  refine ep_rv t56_135 ?_
  exact ⟨rfl, σ1, rfl, r1, r2⟩

theorem cl_sw_101 {X : gX} {q : Bool} {σ : gT1} {a : Nat → Nat} {n : Nat} (ha : ∀ j, a j < 256) (hn : n ≤ 120) (hx : TxM σ a n) {p : Nat} (hp : p ≤ n) {T : Nat → Nat} {c l : Nat} (hw : WFD T c l) (ht : TokM σ a n p) (hd : DrM σ T c l) (e7 : σ 31 7 = -1) {f : Nat} (h8 : T 3 < 8) : ClP X 55 [.ref 31, .int (nI 101)] (47, g_rho q, σ) (fun v g1 => v = none ∧ ∃ σ1, g1 = (47, g_rho q, σ1) ∧ FrM σ σ1 ∧ RMo a n σ1 (rW a n 2 f p T c l)) := by
  have h6 := hw.1.1
  have ht3 := hw.1.2.2.1
  have hk9 := tk_all (a := a) hp
  have hp2 := hk9.1.2.2.1
  have hpw := pow_le_256 (m := T 0) (by omega)
  have hpw3 := pow_le_256 (m := T 3) (by omega)
  have hwd := hw.2
  have ht12 := hw.1.2.1
  have hk2 := tk_all (a := a) hp2
  have hp3 := hk2.1.2.2.1
  have hk3 := tk_all (a := a) hp3
  have hp4 := hk3.1.2.2.1
  have hk4 := hk9.2.2.2.2
  refine ClP.of ⟨Nat.le_of_ble_eq_true rfl, rfl⟩ ?_
  show EvP X 55 0 [some (.ref 31), some (.int (nI 101)), none] [] (47, g_rho q, σ) _
  by_cases hq1 : tK a n p = 1 ∧ ∀ k, k < T 3 → ¬ T (12 + k) = tV a n p
  · have h1 := hq1.1
    have hv1 := hk9.2.2.1 h1
    by_cases hq2 : tK a n (tN a n p) = 2 ∧ tV a n (tN a n p) < T 0
    · refine ep_aln t55_0 rfl ?_
      refine ep_getr (q := 34) t55_1 rfl (Nat.le_of_ble_eq_true rfl) rfl (rfl) ?_
      refine ep_k1 (w := nI 3) t55_4 rfl ?_
      refine ep_aldN t55_5 rfl (Nat.le_of_ble_eq_true rfl) (Nat.ne_of_beq_eq_false rfl) (Nat.le_of_ble_eq_true rfl) (by omega) ?_
      refine ep_val (b := nI (T 3)) (hd.1.1 3 (by decide)) ?_
      refine ep_isn (L' := [some (.ref 31), some (.int (nI 101)), some (.int (nI (T 3)))]) t55_6 rfl (Nat.le_of_ble_eq_true rfl) ?_
      refine ep_aln t55_7 rfl ?_
      refine ep_getr (q := 34) t55_8 rfl (Nat.le_of_ble_eq_true rfl) rfl (rfl) ?_
      refine ep_k1 (w := nI 4) t55_11 rfl ?_
      refine ep_iln t55_12 rfl ?_
      refine ep_addN (a := 4) (b := T 3) t55_13 ?_
      refine ep_iln t55_14 rfl ?_
      refine ep_k2 (w := nI 98) t55_15 rfl ?_
      refine ep_ifP t55_17 (ic_ne (by omega) (by omega)) (fun (c17 : ¬ 101 = 98) => ?_) (fun (c17 : ¬ (¬ 101 = 98)) => (by omega))
      refine ep_iln t55_24 rfl ?_
      refine ep_k2 (w := nI 105) t55_25 rfl ?_
      refine ep_ifP t55_27 (ic_ne (by omega) (by omega)) (fun (c27 : ¬ 101 = 105) => ?_) (fun (c27 : ¬ (¬ 101 = 105)) => (by omega))
      refine ep_k1 (w := nI 2) t55_34 rfl ?_
      refine ep_astN t55_35 rfl (Nat.le_of_ble_eq_true rfl) (Nat.le_of_ble_eq_true rfl) (by omega) ?_
      have t1 : ToldM ((g_up σ 34 (4 + (T 3)) (nI 2)) 34) T := ToldM.up hd.1 h8 (Or.inl rfl)
      refine ep_aln t55_36 rfl ?_
      refine ep_getr (q := 34) t55_37 rfl (Nat.le_of_ble_eq_true rfl) rfl (rfl) ?_
      refine ep_k2 (w := nI 12) t55_40 rfl ?_
      refine ep_iln t55_42 rfl ?_
      refine ep_addN (a := 12) (b := T 3) t55_43 ?_
      refine ep_aln t55_44 rfl ?_
      refine ep_aln t55_45 rfl ?_
      refine ep_get t55_46 rfl (Nat.le_of_ble_eq_true rfl) rfl ?_
      refine ep_val (b := nI (tK a n p)) (ht.2.2.1) ?_
      refine ep_k1 (w := nI 1) t55_49 rfl ?_
      refine ep_ifP t55_50 (ic_ne (by omega) (by omega)) (fun (c50 : ¬ (tK a n p) = 1) => (by exact absurd h1 c50)) (fun (c50 : ¬ (¬ (tK a n p) = 1)) => ?_)
      refine ep_aln t55_53 rfl ?_
      refine ep_getr (q := 34) t55_54 rfl (Nat.le_of_ble_eq_true rfl) rfl (rfl) ?_
      refine ep_aln t55_57 rfl ?_
      refine ep_get t55_58 rfl (Nat.le_of_ble_eq_true rfl) rfl ?_
      refine ep_val (b := nI (tV a n p)) (ht.2.2.2 (Or.inl h1)) ?_
      refine ep_cs t55_61 (Nat.ne_of_beq_eq_false rfl) rfl (Nat.le_of_ble_eq_true rfl) (cl_wn_n t1 hw.1 (by omega) hq1.2) ?_
      refine ep_k2 (w := (-9)) t55_64 rfl ?_
      refine ep_if t55_66 (fun (c66 : ¬ ((-9)) = ((-9))) => (by exact absurd rfl c66)) (fun (c66 : ¬ (¬ ((-9)) = ((-9)))) => ?_)
      refine ep_k1 (w := nI 1) t55_69 rfl ?_
      refine ep_val (b := bI true) (rfl) ?_
      refine ep_gt t55_70 ?_
      obtain ⟨v9, g9, h9, σ1, rfl, rfl, m1, m2, m3⟩ := cl_M_takes_yes (X := X) (q := q) (σ := g_up σ 34 (4 + (T 3)) (nI 2)) (a := a) (n := n) (p := tN a n p) ha hn (FrM.rf.u34.tx hx) (hp2) (ht.1) (e7)
      refine ep_cv t55_74 rfl rfl (Nat.le_of_ble_eq_true rfl) (Nat.le_of_ble_eq_true rfl) (h9) ?_
      refine ep_val (b := nI (tV a n p)) (ht.2.2.2 (Or.inl h1)) ?_
      refine ep_astN t55_77 rfl (Nat.le_of_ble_eq_true rfl) (Nat.le_of_ble_eq_true rfl) (by omega) ?_
      have t2 : ToldM ((g_up σ1 34 (12 + (T 3)) (nI (tV a n p))) 34) T := ToldM.up (by rw [m1 34 (by decide)]; exact t1) h8 (Or.inr (Or.inl rfl))
      refine ep_aln t55_78 rfl ?_
      refine ep_getr (q := 34) t55_79 rfl (Nat.le_of_ble_eq_true rfl) rfl (rfl) ?_
      refine ep_k2 (w := nI 20) t55_82 rfl ?_
      refine ep_iln t55_84 rfl ?_
      refine ep_addN (a := 20) (b := T 3) t55_85 ?_
      refine ep_aln t55_86 rfl ?_
      refine ep_aln t55_87 rfl ?_
      refine ep_k1 (w := nI 0) t55_88 rfl ?_
      refine ep_aln t55_89 rfl ?_
      refine ep_getr (q := 34) t55_90 rfl (Nat.le_of_ble_eq_true rfl) rfl (rfl) ?_
      refine ep_k1 (w := nI 0) t55_93 rfl ?_
      refine ep_aldN t55_94 rfl (Nat.le_of_ble_eq_true rfl) (Nat.ne_of_beq_eq_false rfl) (Nat.le_of_ble_eq_true rfl) (by omega) ?_
      refine ep_val (b := nI (T 0)) (t2.1 0 (by decide)) ?_
      refine ep_k1 (w := nI 1) t55_95 rfl ?_
      refine ep_subN (a := T 0) (b := 1) t55_96 (by omega) ?_
      refine ep_cv t55_97 rfl rfl (Nat.le_of_ble_eq_true rfl) (Nat.le_of_ble_eq_true rfl) (cl_M_isNumber (p := tN a n p) hp2 (m3.u34) (by omega) (by omega)) ?_
      refine ep_val (b := bI true) (congrArg bI (decide_eq_true ⟨hq2.1, Nat.zero_le _, by omega⟩)) ?_
      obtain ⟨v9, g9, h9, σ2, rfl, rfl, k1, k2, k3⟩ := cl_M_takes_yes (X := X) (q := q) (σ := g_up σ1 34 (12 + (T 3)) (nI (tV a n p))) (a := a) (n := n) (p := tN a n (tN a n p)) ha hn ((FrM.rf.u34.adv m1 m2).u34.tx hx) (hp3) (m3.1) ((m2 7 (by decide) (by decide) (by decide) (by decide)).trans e7)
      refine ep_cv t55_100 rfl rfl (Nat.le_of_ble_eq_true rfl) (Nat.le_of_ble_eq_true rfl) (h9) ?_
      refine ep_val (b := nI (tV a n (tN a n p))) (m3.2.2.2 (Or.inr hq2.1)) ?_
      refine ep_astN t55_103 rfl (Nat.le_of_ble_eq_true rfl) (Nat.le_of_ble_eq_true rfl) (by omega) ?_
      have t3 : ToldM ((g_up σ2 34 (20 + (T 3)) (nI (tV a n (tN a n p)))) 34) T := ToldM.up (by rw [k1 34 (by decide)]; exact t2) h8 (Or.inr (Or.inr (Or.inl rfl)))
      refine ep_aln t55_104 rfl ?_
      refine ep_getr (q := 34) t55_105 rfl (Nat.le_of_ble_eq_true rfl) rfl (rfl) ?_
      refine ep_k2 (w := nI 28) t55_108 rfl ?_
      refine ep_iln t55_110 rfl ?_
      refine ep_addN (a := 28) (b := T 3) t55_111 ?_
      refine ep_iln t55_112 rfl ?_
      refine ep_k2 (w := nI 101) t55_113 rfl ?_
      refine ep_ifP t55_115 (ic_ne (by omega) (by omega)) (fun (c115 : ¬ 101 = 101) => (by omega)) (fun (c115 : ¬ (¬ 101 = 101)) => ?_)
      refine ep_k2 (w := (-9)) t55_118 rfl ?_
      refine ep_gt t55_120 ?_
      refine ep_astN t55_164 rfl (Nat.le_of_ble_eq_true rfl) (Nat.le_of_ble_eq_true rfl) (by omega) ?_
      have t4 : ToldM ((g_up (g_up σ2 34 (20 + (T 3)) (nI (tV a n (tN a n p)))) 34 (28 + (T 3)) ((-9))) 34) T := ToldM.up (t3) h8 (Or.inr (Or.inr (Or.inr rfl)))
      refine ep_aln t55_165 rfl ?_
      refine ep_getr (q := 34) t55_166 rfl (Nat.le_of_ble_eq_true rfl) rfl (rfl) ?_
      refine ep_k1 (w := nI 3) t55_169 rfl ?_
      refine ep_dup2 t55_170 rfl rfl ?_
      refine ep_aldN t55_171 rfl (Nat.le_of_ble_eq_true rfl) (Nat.ne_of_beq_eq_false rfl) (Nat.le_of_ble_eq_true rfl) (by omega) ?_
      refine ep_val (b := nI (T 3)) (t4.1 3 (by decide)) ?_
      refine ep_k1 (w := nI 1) t55_172 rfl ?_
      refine ep_addN (a := T 3) (b := 1) t55_173 ?_
      refine ep_astN t55_174 rfl (Nat.le_of_ble_eq_true rfl) (Nat.le_of_ble_eq_true rfl) (by omega) ?_
      refine ep_rv t55_175 ?_
      have hF : ∀ j, (g_up (g_up (g_up σ2 34 (20 + (T 3)) (nI (tV a n (tN a n p)))) 34 (28 + (T 3)) ((-9))) 34 3 (nI ((T 3) + 1))) 34 j = if j = 3 then nI (T 3 + 1) else if j = 28 + T 3 then -9 else if j = 20 + T 3 then nI (tV a n (tN a n p)) else if j = 12 + T 3 then nI (tV a n p) else if j = 4 + T 3 then nI 2 else σ 34 j := fun j => by rw [g_up_at, g_up_at, g_up_at, k1 34 (by decide), g_up_at, m1 34 (by decide), g_up_at]
      have h35 : (g_up (g_up (g_up σ2 34 (20 + (T 3)) (nI (tV a n (tN a n p)))) 34 (28 + (T 3)) ((-9))) 34 3 (nI ((T 3) + 1))) 35 = σ 35 := by rw [g_up_ne (by decide), g_up_ne (by decide), g_up_ne (by decide), k1 35 (by decide), g_up_ne (by decide), m1 35 (by decide), g_up_ne (by decide)]
      refine ⟨rfl, _, rfl, ((FrM.rf.u34.adv m1 m2).u34.adv k1 k2).u34.u34.u34, ?_⟩
      unfold rW rW2
      rw [cif_pos h8, cif_pos hq1, cif_pos hq2, if_pos rfl]
      refine ⟨(k2 7 (by decide) (by decide) (by decide) (by decide)).trans ((m2 7 (by decide) (by decide) (by decide) (by decide)).trans e7), k3, ?_, ?_⟩
      · exact ToldM.add hd.1 h8 ((hF 3).trans (if_pos rfl)) (by rw [hF, if_neg (by omega), if_neg (by omega), if_neg (by omega), if_neg (by omega), if_pos rfl]) (by rw [hF, if_neg (by omega), if_neg (by omega), if_neg (by omega), if_pos rfl]) (by rw [hF, if_neg (by omega), if_neg (by omega), if_pos rfl]) (by rw [hF, if_neg (by omega), if_pos rfl]; rfl) (fun i i1 i2 i3 i4 i5 => by rw [hF, if_neg i1, if_neg i5, if_neg i4, if_neg i3, if_neg i2])
      · rw [h35]; exact hd.2
    · refine ep_aln t55_0 rfl ?_
      refine ep_getr (q := 34) t55_1 rfl (Nat.le_of_ble_eq_true rfl) rfl (rfl) ?_
      refine ep_k1 (w := nI 3) t55_4 rfl ?_
      refine ep_aldN t55_5 rfl (Nat.le_of_ble_eq_true rfl) (Nat.ne_of_beq_eq_false rfl) (Nat.le_of_ble_eq_true rfl) (by omega) ?_
      refine ep_val (b := nI (T 3)) (hd.1.1 3 (by decide)) ?_
      refine ep_isn (L' := [some (.ref 31), some (.int (nI 101)), some (.int (nI (T 3)))]) t55_6 rfl (Nat.le_of_ble_eq_true rfl) ?_
      refine ep_aln t55_7 rfl ?_
      refine ep_getr (q := 34) t55_8 rfl (Nat.le_of_ble_eq_true rfl) rfl (rfl) ?_
      refine ep_k1 (w := nI 4) t55_11 rfl ?_
      refine ep_iln t55_12 rfl ?_
      refine ep_addN (a := 4) (b := T 3) t55_13 ?_
      refine ep_iln t55_14 rfl ?_
      refine ep_k2 (w := nI 98) t55_15 rfl ?_
      refine ep_ifP t55_17 (ic_ne (by omega) (by omega)) (fun (c17 : ¬ 101 = 98) => ?_) (fun (c17 : ¬ (¬ 101 = 98)) => (by omega))
      refine ep_iln t55_24 rfl ?_
      refine ep_k2 (w := nI 105) t55_25 rfl ?_
      refine ep_ifP t55_27 (ic_ne (by omega) (by omega)) (fun (c27 : ¬ 101 = 105) => ?_) (fun (c27 : ¬ (¬ 101 = 105)) => (by omega))
      refine ep_k1 (w := nI 2) t55_34 rfl ?_
      refine ep_astN t55_35 rfl (Nat.le_of_ble_eq_true rfl) (Nat.le_of_ble_eq_true rfl) (by omega) ?_
      have t1 : ToldM ((g_up σ 34 (4 + (T 3)) (nI 2)) 34) T := ToldM.up hd.1 h8 (Or.inl rfl)
      refine ep_aln t55_36 rfl ?_
      refine ep_getr (q := 34) t55_37 rfl (Nat.le_of_ble_eq_true rfl) rfl (rfl) ?_
      refine ep_k2 (w := nI 12) t55_40 rfl ?_
      refine ep_iln t55_42 rfl ?_
      refine ep_addN (a := 12) (b := T 3) t55_43 ?_
      refine ep_aln t55_44 rfl ?_
      refine ep_aln t55_45 rfl ?_
      refine ep_get t55_46 rfl (Nat.le_of_ble_eq_true rfl) rfl ?_
      refine ep_val (b := nI (tK a n p)) (ht.2.2.1) ?_
      refine ep_k1 (w := nI 1) t55_49 rfl ?_
      refine ep_ifP t55_50 (ic_ne (by omega) (by omega)) (fun (c50 : ¬ (tK a n p) = 1) => (by exact absurd h1 c50)) (fun (c50 : ¬ (¬ (tK a n p) = 1)) => ?_)
      refine ep_aln t55_53 rfl ?_
      refine ep_getr (q := 34) t55_54 rfl (Nat.le_of_ble_eq_true rfl) rfl (rfl) ?_
      refine ep_aln t55_57 rfl ?_
      refine ep_get t55_58 rfl (Nat.le_of_ble_eq_true rfl) rfl ?_
      refine ep_val (b := nI (tV a n p)) (ht.2.2.2 (Or.inl h1)) ?_
      refine ep_cs t55_61 (Nat.ne_of_beq_eq_false rfl) rfl (Nat.le_of_ble_eq_true rfl) (cl_wn_n t1 hw.1 (by omega) hq1.2) ?_
      refine ep_k2 (w := (-9)) t55_64 rfl ?_
      refine ep_if t55_66 (fun (c66 : ¬ ((-9)) = ((-9))) => (by exact absurd rfl c66)) (fun (c66 : ¬ (¬ ((-9)) = ((-9)))) => ?_)
      refine ep_k1 (w := nI 1) t55_69 rfl ?_
      refine ep_val (b := bI true) (rfl) ?_
      refine ep_gt t55_70 ?_
      obtain ⟨v9, g9, h9, σ1, rfl, rfl, m1, m2, m3⟩ := cl_M_takes_yes (X := X) (q := q) (σ := g_up σ 34 (4 + (T 3)) (nI 2)) (a := a) (n := n) (p := tN a n p) ha hn (FrM.rf.u34.tx hx) (hp2) (ht.1) (e7)
      refine ep_cv t55_74 rfl rfl (Nat.le_of_ble_eq_true rfl) (Nat.le_of_ble_eq_true rfl) (h9) ?_
      refine ep_val (b := nI (tV a n p)) (ht.2.2.2 (Or.inl h1)) ?_
      refine ep_astN t55_77 rfl (Nat.le_of_ble_eq_true rfl) (Nat.le_of_ble_eq_true rfl) (by omega) ?_
      have t2 : ToldM ((g_up σ1 34 (12 + (T 3)) (nI (tV a n p))) 34) T := ToldM.up (by rw [m1 34 (by decide)]; exact t1) h8 (Or.inr (Or.inl rfl))
      refine ep_aln t55_78 rfl ?_
      refine ep_getr (q := 34) t55_79 rfl (Nat.le_of_ble_eq_true rfl) rfl (rfl) ?_
      refine ep_k2 (w := nI 20) t55_82 rfl ?_
      refine ep_iln t55_84 rfl ?_
      refine ep_addN (a := 20) (b := T 3) t55_85 ?_
      refine ep_aln t55_86 rfl ?_
      refine ep_aln t55_87 rfl ?_
      refine ep_k1 (w := nI 0) t55_88 rfl ?_
      refine ep_aln t55_89 rfl ?_
      refine ep_getr (q := 34) t55_90 rfl (Nat.le_of_ble_eq_true rfl) rfl (rfl) ?_
      refine ep_k1 (w := nI 0) t55_93 rfl ?_
      refine ep_aldN t55_94 rfl (Nat.le_of_ble_eq_true rfl) (Nat.ne_of_beq_eq_false rfl) (Nat.le_of_ble_eq_true rfl) (by omega) ?_
      refine ep_val (b := nI (T 0)) (t2.1 0 (by decide)) ?_
      refine ep_k1 (w := nI 1) t55_95 rfl ?_
      refine ep_subN (a := T 0) (b := 1) t55_96 (by omega) ?_
      refine ep_cv t55_97 rfl rfl (Nat.le_of_ble_eq_true rfl) (Nat.le_of_ble_eq_true rfl) (cl_M_isNumber (p := tN a n p) hp2 (m3.u34) (by omega) (by omega)) ?_
      refine ep_val (b := bI false) (congrArg bI (decide_eq_false (fun h => hq2 ⟨h.1, by have := h.2.2; omega⟩))) ?_
      refine ep_cv t55_100 rfl rfl (Nat.le_of_ble_eq_true rfl) (Nat.le_of_ble_eq_true rfl) (cl_M_takes_no ((m2 7 (by decide) (by decide) (by decide) (by decide)).trans e7)) ?_
      refine ep_astN t55_103 rfl (Nat.le_of_ble_eq_true rfl) (Nat.le_of_ble_eq_true rfl) (by omega) ?_
      have t3 : ToldM ((g_up (g_up (g_up σ1 34 (12 + (T 3)) (nI (tV a n p))) 31 7 ((g_up σ1 34 (12 + (T 3)) (nI (tV a n p))) 31 5)) 34 (20 + (T 3)) (nI 0)) 34) T := ToldM.up (by rw [g_up_ne (by decide)]; exact t2) h8 (Or.inr (Or.inr (Or.inl rfl)))
      refine ep_aln t55_104 rfl ?_
      refine ep_getr (q := 34) t55_105 rfl (Nat.le_of_ble_eq_true rfl) rfl (rfl) ?_
      refine ep_k2 (w := nI 28) t55_108 rfl ?_
      refine ep_iln t55_110 rfl ?_
      refine ep_addN (a := 28) (b := T 3) t55_111 ?_
      refine ep_iln t55_112 rfl ?_
      refine ep_k2 (w := nI 101) t55_113 rfl ?_
      refine ep_ifP t55_115 (ic_ne (by omega) (by omega)) (fun (c115 : ¬ 101 = 101) => (by omega)) (fun (c115 : ¬ (¬ 101 = 101)) => ?_)
      refine ep_k2 (w := (-9)) t55_118 rfl ?_
      refine ep_gt t55_120 ?_
      refine ep_astN t55_164 rfl (Nat.le_of_ble_eq_true rfl) (Nat.le_of_ble_eq_true rfl) (by omega) ?_
      have t4 : ToldM ((g_up (g_up (g_up (g_up σ1 34 (12 + (T 3)) (nI (tV a n p))) 31 7 ((g_up σ1 34 (12 + (T 3)) (nI (tV a n p))) 31 5)) 34 (20 + (T 3)) (nI 0)) 34 (28 + (T 3)) ((-9))) 34) T := ToldM.up (t3) h8 (Or.inr (Or.inr (Or.inr rfl)))
      refine ep_aln t55_165 rfl ?_
      refine ep_getr (q := 34) t55_166 rfl (Nat.le_of_ble_eq_true rfl) rfl (rfl) ?_
      refine ep_k1 (w := nI 3) t55_169 rfl ?_
      refine ep_dup2 t55_170 rfl rfl ?_
      refine ep_aldN t55_171 rfl (Nat.le_of_ble_eq_true rfl) (Nat.ne_of_beq_eq_false rfl) (Nat.le_of_ble_eq_true rfl) (by omega) ?_
      refine ep_val (b := nI (T 3)) (t4.1 3 (by decide)) ?_
      refine ep_k1 (w := nI 1) t55_172 rfl ?_
      refine ep_addN (a := T 3) (b := 1) t55_173 ?_
      refine ep_astN t55_174 rfl (Nat.le_of_ble_eq_true rfl) (Nat.le_of_ble_eq_true rfl) (by omega) ?_
      refine ep_rv t55_175 ?_
      refine ⟨rfl, _, rfl, (FrM.rf.u34.adv m1 m2).u34.flt.u34.u34.u34, ?_⟩
      unfold rW
      unfold rW2
      rw [cif_pos h8, cif_pos hq1, cif_neg hq2]
      exact m3.2.1
  · by_cases h1 : tK a n p = 1
    · have hv1 := hk9.2.2.1 h1
      obtain ⟨j, hj, ej⟩ : ∃ j, j < T 3 ∧ T (12 + j) = tV a n p := Classical.byContradiction (fun z => hq1 ⟨h1, fun k hk e => z ⟨k, hk, e⟩⟩)
      refine ep_aln t55_0 rfl ?_
      refine ep_getr (q := 34) t55_1 rfl (Nat.le_of_ble_eq_true rfl) rfl (rfl) ?_
      refine ep_k1 (w := nI 3) t55_4 rfl ?_
      refine ep_aldN t55_5 rfl (Nat.le_of_ble_eq_true rfl) (Nat.ne_of_beq_eq_false rfl) (Nat.le_of_ble_eq_true rfl) (by omega) ?_
      refine ep_val (b := nI (T 3)) (hd.1.1 3 (by decide)) ?_
      refine ep_isn (L' := [some (.ref 31), some (.int (nI 101)), some (.int (nI (T 3)))]) t55_6 rfl (Nat.le_of_ble_eq_true rfl) ?_
      refine ep_aln t55_7 rfl ?_
      refine ep_getr (q := 34) t55_8 rfl (Nat.le_of_ble_eq_true rfl) rfl (rfl) ?_
      refine ep_k1 (w := nI 4) t55_11 rfl ?_
      refine ep_iln t55_12 rfl ?_
      refine ep_addN (a := 4) (b := T 3) t55_13 ?_
      refine ep_iln t55_14 rfl ?_
      refine ep_k2 (w := nI 98) t55_15 rfl ?_
      refine ep_ifP t55_17 (ic_ne (by omega) (by omega)) (fun (c17 : ¬ 101 = 98) => ?_) (fun (c17 : ¬ (¬ 101 = 98)) => (by omega))
      refine ep_iln t55_24 rfl ?_
      refine ep_k2 (w := nI 105) t55_25 rfl ?_
      refine ep_ifP t55_27 (ic_ne (by omega) (by omega)) (fun (c27 : ¬ 101 = 105) => ?_) (fun (c27 : ¬ (¬ 101 = 105)) => (by omega))
      refine ep_k1 (w := nI 2) t55_34 rfl ?_
      refine ep_astN t55_35 rfl (Nat.le_of_ble_eq_true rfl) (Nat.le_of_ble_eq_true rfl) (by omega) ?_
      have t1 : ToldM ((g_up σ 34 (4 + (T 3)) (nI 2)) 34) T := ToldM.up hd.1 h8 (Or.inl rfl)
      refine ep_aln t55_36 rfl ?_
      refine ep_getr (q := 34) t55_37 rfl (Nat.le_of_ble_eq_true rfl) rfl (rfl) ?_
      refine ep_k2 (w := nI 12) t55_40 rfl ?_
      refine ep_iln t55_42 rfl ?_
      refine ep_addN (a := 12) (b := T 3) t55_43 ?_
      refine ep_aln t55_44 rfl ?_
      refine ep_aln t55_45 rfl ?_
      refine ep_get t55_46 rfl (Nat.le_of_ble_eq_true rfl) rfl ?_
      refine ep_val (b := nI (tK a n p)) (ht.2.2.1) ?_
      refine ep_k1 (w := nI 1) t55_49 rfl ?_
      refine ep_ifP t55_50 (ic_ne (by omega) (by omega)) (fun (c50 : ¬ (tK a n p) = 1) => (by exact absurd h1 c50)) (fun (c50 : ¬ (¬ (tK a n p) = 1)) => ?_)
      refine ep_aln t55_53 rfl ?_
      refine ep_getr (q := 34) t55_54 rfl (Nat.le_of_ble_eq_true rfl) rfl (rfl) ?_
      refine ep_aln t55_57 rfl ?_
      refine ep_get t55_58 rfl (Nat.le_of_ble_eq_true rfl) rfl ?_
      refine ep_val (b := nI (tV a n p)) (ht.2.2.2 (Or.inl h1)) ?_
      refine ep_cs t55_61 (Nat.ne_of_beq_eq_false rfl) rfl (Nat.le_of_ble_eq_true rfl) (cl_wn_y t1 hw.1 (by omega) hj ej) ?_
      refine ep_k2 (w := (-9)) t55_64 rfl ?_
      refine ep_if t55_66 (fun (c66 : ¬ (nI j) = ((-9))) => ?_) (fun (c66 : ¬ (¬ (nI j) = ((-9)))) => (by exact absurd (nI_m9 (by omega)) c66))
      refine ep_k1 (w := nI 0) t55_73 rfl ?_
      refine ep_val (b := bI false) (rfl) ?_
      refine ep_cv t55_74 rfl rfl (Nat.le_of_ble_eq_true rfl) (Nat.le_of_ble_eq_true rfl) (cl_M_takes_no (e7)) ?_
      refine ep_astN t55_77 rfl (Nat.le_of_ble_eq_true rfl) (Nat.le_of_ble_eq_true rfl) (by omega) ?_
      have t2 : ToldM ((g_up (g_up (g_up σ 34 (4 + (T 3)) (nI 2)) 31 7 ((g_up σ 34 (4 + (T 3)) (nI 2)) 31 5)) 34 (12 + (T 3)) (nI 0)) 34) T := ToldM.up (by rw [g_up_ne (by decide)]; exact t1) h8 (Or.inr (Or.inl rfl))
      refine ep_aln t55_78 rfl ?_
      refine ep_getr (q := 34) t55_79 rfl (Nat.le_of_ble_eq_true rfl) rfl (rfl) ?_
      refine ep_k2 (w := nI 20) t55_82 rfl ?_
      refine ep_iln t55_84 rfl ?_
      refine ep_addN (a := 20) (b := T 3) t55_85 ?_
      refine ep_aln t55_86 rfl ?_
      refine ep_aln t55_87 rfl ?_
      refine ep_k1 (w := nI 0) t55_88 rfl ?_
      refine ep_aln t55_89 rfl ?_
      refine ep_getr (q := 34) t55_90 rfl (Nat.le_of_ble_eq_true rfl) rfl (rfl) ?_
      refine ep_k1 (w := nI 0) t55_93 rfl ?_
      refine ep_aldN t55_94 rfl (Nat.le_of_ble_eq_true rfl) (Nat.ne_of_beq_eq_false rfl) (Nat.le_of_ble_eq_true rfl) (by omega) ?_
      refine ep_val (b := nI (T 0)) (t2.1 0 (by decide)) ?_
      refine ep_k1 (w := nI 1) t55_95 rfl ?_
      refine ep_subN (a := T 0) (b := 1) t55_96 (by omega) ?_
      refine ep_cv t55_97 rfl rfl (Nat.le_of_ble_eq_true rfl) (Nat.le_of_ble_eq_true rfl) (cl_M_isNumber (p := p) hp (ht.u34.flt.u34) (by omega) (by omega)) ?_
      refine ep_cv t55_100 rfl rfl (Nat.le_of_ble_eq_true rfl) (Nat.le_of_ble_eq_true rfl) (cl_M_takes_f (f := tS a n p) (by omega) (ht.2.1)) ?_
      refine ep_astN t55_103 rfl (Nat.le_of_ble_eq_true rfl) (Nat.le_of_ble_eq_true rfl) (by omega) ?_
      have t3 : ToldM ((g_up (g_up (g_up (g_up σ 34 (4 + (T 3)) (nI 2)) 31 7 ((g_up σ 34 (4 + (T 3)) (nI 2)) 31 5)) 34 (12 + (T 3)) (nI 0)) 34 (20 + (T 3)) (nI 0)) 34) T := ToldM.up (t2) h8 (Or.inr (Or.inr (Or.inl rfl)))
      refine ep_aln t55_104 rfl ?_
      refine ep_getr (q := 34) t55_105 rfl (Nat.le_of_ble_eq_true rfl) rfl (rfl) ?_
      refine ep_k2 (w := nI 28) t55_108 rfl ?_
      refine ep_iln t55_110 rfl ?_
      refine ep_addN (a := 28) (b := T 3) t55_111 ?_
      refine ep_iln t55_112 rfl ?_
      refine ep_k2 (w := nI 101) t55_113 rfl ?_
      refine ep_ifP t55_115 (ic_ne (by omega) (by omega)) (fun (c115 : ¬ 101 = 101) => (by omega)) (fun (c115 : ¬ (¬ 101 = 101)) => ?_)
      refine ep_k2 (w := (-9)) t55_118 rfl ?_
      refine ep_gt t55_120 ?_
      refine ep_astN t55_164 rfl (Nat.le_of_ble_eq_true rfl) (Nat.le_of_ble_eq_true rfl) (by omega) ?_
      have t4 : ToldM ((g_up (g_up (g_up (g_up (g_up σ 34 (4 + (T 3)) (nI 2)) 31 7 ((g_up σ 34 (4 + (T 3)) (nI 2)) 31 5)) 34 (12 + (T 3)) (nI 0)) 34 (20 + (T 3)) (nI 0)) 34 (28 + (T 3)) ((-9))) 34) T := ToldM.up (t3) h8 (Or.inr (Or.inr (Or.inr rfl)))
      refine ep_aln t55_165 rfl ?_
      refine ep_getr (q := 34) t55_166 rfl (Nat.le_of_ble_eq_true rfl) rfl (rfl) ?_
      refine ep_k1 (w := nI 3) t55_169 rfl ?_
      refine ep_dup2 t55_170 rfl rfl ?_
      refine ep_aldN t55_171 rfl (Nat.le_of_ble_eq_true rfl) (Nat.ne_of_beq_eq_false rfl) (Nat.le_of_ble_eq_true rfl) (by omega) ?_
      refine ep_val (b := nI (T 3)) (t4.1 3 (by decide)) ?_
      refine ep_k1 (w := nI 1) t55_172 rfl ?_
      refine ep_addN (a := T 3) (b := 1) t55_173 ?_
      refine ep_astN t55_174 rfl (Nat.le_of_ble_eq_true rfl) (Nat.le_of_ble_eq_true rfl) (by omega) ?_
      refine ep_rv t55_175 ?_
      refine ⟨rfl, _, rfl, FrM.rf.u34.flt.u34.u34.u34.u34, ?_⟩
      unfold rW
      rw [cif_pos h8, cif_neg hq1]
      exact ht.2.1
    · refine ep_aln t55_0 rfl ?_
      refine ep_getr (q := 34) t55_1 rfl (Nat.le_of_ble_eq_true rfl) rfl (rfl) ?_
      refine ep_k1 (w := nI 3) t55_4 rfl ?_
      refine ep_aldN t55_5 rfl (Nat.le_of_ble_eq_true rfl) (Nat.ne_of_beq_eq_false rfl) (Nat.le_of_ble_eq_true rfl) (by omega) ?_
      refine ep_val (b := nI (T 3)) (hd.1.1 3 (by decide)) ?_
      refine ep_isn (L' := [some (.ref 31), some (.int (nI 101)), some (.int (nI (T 3)))]) t55_6 rfl (Nat.le_of_ble_eq_true rfl) ?_
      refine ep_aln t55_7 rfl ?_
      refine ep_getr (q := 34) t55_8 rfl (Nat.le_of_ble_eq_true rfl) rfl (rfl) ?_
      refine ep_k1 (w := nI 4) t55_11 rfl ?_
      refine ep_iln t55_12 rfl ?_
      refine ep_addN (a := 4) (b := T 3) t55_13 ?_
      refine ep_iln t55_14 rfl ?_
      refine ep_k2 (w := nI 98) t55_15 rfl ?_
      refine ep_ifP t55_17 (ic_ne (by omega) (by omega)) (fun (c17 : ¬ 101 = 98) => ?_) (fun (c17 : ¬ (¬ 101 = 98)) => (by omega))
      refine ep_iln t55_24 rfl ?_
      refine ep_k2 (w := nI 105) t55_25 rfl ?_
      refine ep_ifP t55_27 (ic_ne (by omega) (by omega)) (fun (c27 : ¬ 101 = 105) => ?_) (fun (c27 : ¬ (¬ 101 = 105)) => (by omega))
      refine ep_k1 (w := nI 2) t55_34 rfl ?_
      refine ep_astN t55_35 rfl (Nat.le_of_ble_eq_true rfl) (Nat.le_of_ble_eq_true rfl) (by omega) ?_
      have t1 : ToldM ((g_up σ 34 (4 + (T 3)) (nI 2)) 34) T := ToldM.up hd.1 h8 (Or.inl rfl)
      refine ep_aln t55_36 rfl ?_
      refine ep_getr (q := 34) t55_37 rfl (Nat.le_of_ble_eq_true rfl) rfl (rfl) ?_
      refine ep_k2 (w := nI 12) t55_40 rfl ?_
      refine ep_iln t55_42 rfl ?_
      refine ep_addN (a := 12) (b := T 3) t55_43 ?_
      refine ep_aln t55_44 rfl ?_
      refine ep_aln t55_45 rfl ?_
      refine ep_get t55_46 rfl (Nat.le_of_ble_eq_true rfl) rfl ?_
      refine ep_val (b := nI (tK a n p)) (ht.2.2.1) ?_
      refine ep_k1 (w := nI 1) t55_49 rfl ?_
      refine ep_ifP t55_50 (ic_ne (by omega) (by omega)) (fun (c50 : ¬ (tK a n p) = 1) => ?_) (fun (c50 : ¬ (¬ (tK a n p) = 1)) => (by exact absurd (Classical.byContradiction c50) h1))
      refine ep_k1 (w := nI 0) t55_73 rfl ?_
      refine ep_val (b := bI false) (rfl) ?_
      refine ep_cv t55_74 rfl rfl (Nat.le_of_ble_eq_true rfl) (Nat.le_of_ble_eq_true rfl) (cl_M_takes_no (e7)) ?_
      refine ep_astN t55_77 rfl (Nat.le_of_ble_eq_true rfl) (Nat.le_of_ble_eq_true rfl) (by omega) ?_
      have t2 : ToldM ((g_up (g_up (g_up σ 34 (4 + (T 3)) (nI 2)) 31 7 ((g_up σ 34 (4 + (T 3)) (nI 2)) 31 5)) 34 (12 + (T 3)) (nI 0)) 34) T := ToldM.up (by rw [g_up_ne (by decide)]; exact t1) h8 (Or.inr (Or.inl rfl))
      refine ep_aln t55_78 rfl ?_
      refine ep_getr (q := 34) t55_79 rfl (Nat.le_of_ble_eq_true rfl) rfl (rfl) ?_
      refine ep_k2 (w := nI 20) t55_82 rfl ?_
      refine ep_iln t55_84 rfl ?_
      refine ep_addN (a := 20) (b := T 3) t55_85 ?_
      refine ep_aln t55_86 rfl ?_
      refine ep_aln t55_87 rfl ?_
      refine ep_k1 (w := nI 0) t55_88 rfl ?_
      refine ep_aln t55_89 rfl ?_
      refine ep_getr (q := 34) t55_90 rfl (Nat.le_of_ble_eq_true rfl) rfl (rfl) ?_
      refine ep_k1 (w := nI 0) t55_93 rfl ?_
      refine ep_aldN t55_94 rfl (Nat.le_of_ble_eq_true rfl) (Nat.ne_of_beq_eq_false rfl) (Nat.le_of_ble_eq_true rfl) (by omega) ?_
      refine ep_val (b := nI (T 0)) (t2.1 0 (by decide)) ?_
      refine ep_k1 (w := nI 1) t55_95 rfl ?_
      refine ep_subN (a := T 0) (b := 1) t55_96 (by omega) ?_
      refine ep_cv t55_97 rfl rfl (Nat.le_of_ble_eq_true rfl) (Nat.le_of_ble_eq_true rfl) (cl_M_isNumber (p := p) hp (ht.u34.flt.u34) (by omega) (by omega)) ?_
      refine ep_cv t55_100 rfl rfl (Nat.le_of_ble_eq_true rfl) (Nat.le_of_ble_eq_true rfl) (cl_M_takes_f (f := tS a n p) (by omega) (ht.2.1)) ?_
      refine ep_astN t55_103 rfl (Nat.le_of_ble_eq_true rfl) (Nat.le_of_ble_eq_true rfl) (by omega) ?_
      have t3 : ToldM ((g_up (g_up (g_up (g_up σ 34 (4 + (T 3)) (nI 2)) 31 7 ((g_up σ 34 (4 + (T 3)) (nI 2)) 31 5)) 34 (12 + (T 3)) (nI 0)) 34 (20 + (T 3)) (nI 0)) 34) T := ToldM.up (t2) h8 (Or.inr (Or.inr (Or.inl rfl)))
      refine ep_aln t55_104 rfl ?_
      refine ep_getr (q := 34) t55_105 rfl (Nat.le_of_ble_eq_true rfl) rfl (rfl) ?_
      refine ep_k2 (w := nI 28) t55_108 rfl ?_
      refine ep_iln t55_110 rfl ?_
      refine ep_addN (a := 28) (b := T 3) t55_111 ?_
      refine ep_iln t55_112 rfl ?_
      refine ep_k2 (w := nI 101) t55_113 rfl ?_
      refine ep_ifP t55_115 (ic_ne (by omega) (by omega)) (fun (c115 : ¬ 101 = 101) => (by omega)) (fun (c115 : ¬ (¬ 101 = 101)) => ?_)
      refine ep_k2 (w := (-9)) t55_118 rfl ?_
      refine ep_gt t55_120 ?_
      refine ep_astN t55_164 rfl (Nat.le_of_ble_eq_true rfl) (Nat.le_of_ble_eq_true rfl) (by omega) ?_
      have t4 : ToldM ((g_up (g_up (g_up (g_up (g_up σ 34 (4 + (T 3)) (nI 2)) 31 7 ((g_up σ 34 (4 + (T 3)) (nI 2)) 31 5)) 34 (12 + (T 3)) (nI 0)) 34 (20 + (T 3)) (nI 0)) 34 (28 + (T 3)) ((-9))) 34) T := ToldM.up (t3) h8 (Or.inr (Or.inr (Or.inr rfl)))
      refine ep_aln t55_165 rfl ?_
      refine ep_getr (q := 34) t55_166 rfl (Nat.le_of_ble_eq_true rfl) rfl (rfl) ?_
      refine ep_k1 (w := nI 3) t55_169 rfl ?_
      refine ep_dup2 t55_170 rfl rfl ?_
      refine ep_aldN t55_171 rfl (Nat.le_of_ble_eq_true rfl) (Nat.ne_of_beq_eq_false rfl) (Nat.le_of_ble_eq_true rfl) (by omega) ?_
      refine ep_val (b := nI (T 3)) (t4.1 3 (by decide)) ?_
      refine ep_k1 (w := nI 1) t55_172 rfl ?_
      refine ep_addN (a := T 3) (b := 1) t55_173 ?_
      refine ep_astN t55_174 rfl (Nat.le_of_ble_eq_true rfl) (Nat.le_of_ble_eq_true rfl) (by omega) ?_
      refine ep_rv t55_175 ?_
      refine ⟨rfl, _, rfl, FrM.rf.u34.flt.u34.u34.u34.u34, ?_⟩
      unfold rW
      rw [cif_pos h8, cif_neg hq1]
      exact ht.2.1

theorem cl_it_101 {X : gX} {q : Bool} {σ : gT1} {a : Nat → Nat} {n : Nat} (ha : ∀ j, a j < 256) (hn : n ≤ 120) (hx : TxM σ a n) {p : Nat} (hp : p ≤ n) {T : Nat → Nat} {c l : Nat} (hw : WFD T c l) (ht : TokM σ a n p) (hd : DrM σ T c l) (e7 : σ 31 7 = -1) {f : Nat} (h8 : T 3 < 8) : ClP X 56 [.ref 31, .int (nI 101)] (47, g_rho q, σ) (fun v g1 => v = none ∧ ∃ σ1, g1 = (47, g_rho q, σ1) ∧ FrM σ σ1 ∧ RMo a n σ1 (rW a n 2 f p T c l)) := by
  refine ClP.of ⟨Nat.le_of_ble_eq_true rfl, rfl⟩ ?_
  show EvP X 56 0 [some (.ref 31), some (.int (nI 101))] [] (47, g_rho q, σ) _
  refine ep_iln t56_0 rfl ?_
  refine ep_k2 (w := nI 110) t56_1 rfl ?_
  refine ep_ifP t56_3 (ic_ne (by omega) (by omega)) (fun (c3 : ¬ 101 = 110) => ?_) (fun (c3 : ¬ (¬ 101 = 110)) => (by omega))
  refine ep_iln t56_26 rfl ?_
  refine ep_k2 (w := nI 115) t56_27 rfl ?_
  refine ep_ifP t56_29 (ic_ne (by omega) (by omega)) (fun (c29 : ¬ 101 = 115) => ?_) (fun (c29 : ¬ (¬ 101 = 115)) => (by omega))
  refine ep_iln t56_52 rfl ?_
  refine ep_k2 (w := nI 100) t56_53 rfl ?_
  refine ep_ifP t56_55 (ic_ne (by omega) (by omega)) (fun (c55 : ¬ 101 = 100) => ?_) (fun (c55 : ¬ (¬ 101 = 100)) => (by omega))
  refine ep_iln t56_78 rfl ?_
  refine ep_k2 (w := nI 99) t56_79 rfl ?_
  refine ep_ifP t56_81 (ic_ne (by omega) (by omega)) (fun (c81 : ¬ 101 = 99) => ?_) (fun (c81 : ¬ (¬ 101 = 99)) => (by omega))
  refine ep_iln t56_104 rfl ?_
  refine ep_k2 (w := nI 107) t56_105 rfl ?_
  refine ep_ifP t56_107 (ic_ne (by omega) (by omega)) (fun (c107 : ¬ 101 = 107) => ?_) (fun (c107 : ¬ (¬ 101 = 107)) => (by omega))
  refine ep_aln t56_130 rfl ?_
  refine ep_iln t56_131 rfl ?_
  obtain ⟨v9, g9, h9, rfl, σ1, rfl, r1, r2⟩ := cl_sw_101 (X := X) (f := f) ha hn hx hp hw ht hd e7 h8
  refine ep_cv t56_132 rfl rfl (Nat.le_of_ble_eq_true rfl) (Nat.le_of_ble_eq_true rfl) (h9) ?_
  refine ep_rv t56_135 ?_
  exact ⟨rfl, σ1, rfl, r1, r2⟩

