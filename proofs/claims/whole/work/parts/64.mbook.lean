/-! The model books. -/
def FrB (σ σ2 : gT1) : Prop := (∀ r, r ≠ 31 → r ≠ 34 → r ≠ 35 → r ≠ 43 → σ2 r = σ r) ∧ ∀ k, k ≠ 0 → k ≠ 3 → k ≠ 4 → k ≠ 5 → k ≠ 6 → k ≠ 7 → σ2 31 k = σ 31 k
def StB (σ σ2 : gT1) (T : Nat → Nat) (c l : Nat) : Prop := (∀ r, r ≠ 31 → r ≠ 33 → r ≠ 34 → r ≠ 35 → r ≠ 36 → r ≠ 39 → r ≠ 43 → σ2 r = σ r) ∧ ToldM (σ2 33) T ∧ (σ2 36 0 = nI c ∧ σ2 36 1 = nI l ∧ σ2 36 2 = nI 1 ∧ σ2 36 3 = nI 2 ∧ σ2 36 4 = nI 3) ∧ (σ2 31 2 = nI 0 ∧ σ2 31 17 = nI 0 ∧ σ2 31 20 = nI 0 ∧ σ2 31 13 = nI 0) ∧ σ2 39 0 = 0 ∧ σ2 39 1 = 0
def RBk (σ σ2 : gT1) (n : Nat) (v : Option Value) : Sum Nat (Nat × (Nat → Nat) × Nat × Nat) → Prop
  | .inl f => v = some (.int (-10 - nI f)) ∧ FrB σ σ2
  | .inr (it, T, c, l) => (¬ sound (so_T T) (so_C T c) ∧ v = some (.int (-10 - nI n)) ∧ FrB σ σ2) ∨ (sound (so_T T) (so_C T c) ∧ v = some (.int (nI it)) ∧ StB σ σ2 (so_T T) (so_C T c) (so_C T l))
theorem FrM.b {σ σk : gT1} (h : FrM (g_up σ 31 0 (nI 0)) σk) : FrB σ σk := ⟨fun r a b c _ => (h.1 r a b c).trans (g_up_ne a), fun k z a b c d e => (h.2 k a b c d e).trans (g_up_j z)⟩
theorem E_bf {X : gX} {q : Bool} {σ : gT1} {f it : Nat} (hf : f ≤ 120) (ef : σ 31 7 = nI f) {o2 : Option Value} {P : Option Value → gS → Prop} (K : P (some (.int (-10 - nI f))) (47, g_rho q, σ)) : EvP X 63 101 [some (.ref 31), some (.int (nI it)), o2] [] (47, g_rho q, σ) P := by
  refine ep_aln t63_101 rfl ?_
  refine ep_cv t63_102 rfl rfl (Nat.le_of_ble_eq_true rfl) (Nat.le_of_ble_eq_true rfl) (cl_M_well_f (f := f) (hf) (ef)) ?_
  refine ep_bF t63_105 (fun (c105 : false = false) => ?_) (fun (c105 : false = true) => (by exact absurd c105 (by decide)))
  refine ep_aln t63_159 rfl ?_
  refine ep_cv t63_160 rfl rfl (Nat.le_of_ble_eq_true rfl) (Nat.le_of_ble_eq_true rfl) (cl_M_well_f (f := f) (hf) (ef)) ?_
  refine ep_bT t63_163 (fun (c163 : false = true) => (by exact absurd c163 (by decide))) (fun (c163 : false = false) => ?_)
  refine ep_k2 (w := (-10)) t63_166 rfl ?_
  refine ep_aln t63_168 rfl ?_
  refine ep_get t63_169 rfl (Nat.le_of_ble_eq_true rfl) rfl ?_
  refine ep_val (b := nI f) (ef) ?_
  refine ep_sub t63_172 ?_
  refine ep_ri t63_173 (fun h => absurd h (by decide)) ?_
  exact K
theorem E_bw {X : gX} {q : Bool} {σ : gT1} {n it : Nat} {T : Nat → Nat} {c l : Nat} (hn : n ≤ 120) (e2 : σ 31 2 = nI n) (e7 : σ 31 7 = -1) (hw : WFD T c l) (hd : DrM σ T c l) {o2 : Option Value} {P : Option Value → gS → Prop} (K1 : ∀ σ2 : gT1, ¬ sound (so_T T) (so_C T c) → ((∀ r, r ≠ 31 → r ≠ 34 → r ≠ 35 → r ≠ 43 → σ2 r = σ r) ∧ ∀ k, k ≠ 0 → k ≠ 3 → k ≠ 4 → k ≠ 5 → k ≠ 6 → k ≠ 7 → σ2 31 k = σ 31 k) → P (some (.int (-10 - nI n))) (47, g_rho q, σ2)) (K2 : ∀ σ2 : gT1, sound (so_T T) (so_C T c) → StB σ σ2 (so_T T) (so_C T c) (so_C T l) → P (some (.int (nI it))) (47, g_rho q, σ2)) : EvP X 63 101 [some (.ref 31), some (.int (nI it)), o2] [] (47, g_rho q, σ) P := by
  have hws := so_wf hw.1
  have hs0 := hws.w0
  have h8 := hw.1.2.2.1
  have hs1 : so_T T 1 < 2147483648 := lt31 hws.2.1.1 (by have := hws.1.2; omega)
  have hs2 : so_C T c < 2147483648 := lt31 (mk_lt _ _) (by omega)
  refine ep_aln t63_101 rfl ?_
  refine ep_cv t63_102 rfl rfl (Nat.le_of_ble_eq_true rfl) (Nat.le_of_ble_eq_true rfl) (cl_M_well e7) ?_
  refine ep_bF t63_105 (fun (c105 : true = false) => (by exact absurd c105 (by decide))) (fun (c105 : true = true) => ?_)
  refine ep_aln t63_108 rfl ?_
  obtain ⟨v1, g1, h1, rfl, σ1, rfl, m1, m2⟩ := cl_M_sorts (X := X) (q := q) (σ := σ) (T := T) (c := c) (l := l) hw hd
  have e71 : σ1 31 7 = -1 := (congrFun (m1 31 (by decide) (by decide)) 7).trans e7
  refine ep_cv t63_109 rfl rfl (Nat.le_of_ble_eq_true rfl) (Nat.le_of_ble_eq_true rfl) (h1) ?_
  refine ep_aln t63_112 rfl ?_
  refine ep_aln t63_113 rfl ?_
  refine ep_aln t63_114 rfl ?_
  refine ep_getr (q := 34) t63_115 rfl (Nat.le_of_ble_eq_true rfl) rfl (rfl) ?_
  refine ep_aln t63_118 rfl ?_
  refine ep_getr (q := 35) t63_119 rfl (Nat.le_of_ble_eq_true rfl) rfl (rfl) ?_
  refine ep_k1 (w := nI 0) t63_122 rfl ?_
  refine ep_aldN t63_123 rfl (Nat.le_of_ble_eq_true rfl) (Nat.ne_of_beq_eq_false rfl) (Nat.le_of_ble_eq_true rfl) (by omega) ?_
  refine ep_val (b := nI (so_C T c)) (m2.2.1) ?_
  obtain ⟨v2, g2, h2, σ2, lab2, rfl, rfl, p1, p2, p3⟩ := cl_M_liveBy_34 (X := X) (q := q) (σ := σ1) (T := so_T T) (c := so_C T c) m2.1 hs0 hs1 hs2
  refine ep_cv t63_124 rfl rfl (Nat.le_of_ble_eq_true rfl) (Nat.le_of_ble_eq_true rfl) (h2) ?_
  refine ep_aln t63_127 rfl ?_
  refine ep_aln t63_128 rfl ?_
  refine ep_getr (q := 34) t63_129 rfl (Nat.le_of_ble_eq_true rfl) rfl (rfl) ?_
  refine ep_aln t63_132 rfl ?_
  refine ep_getr (q := 35) t63_133 rfl (Nat.le_of_ble_eq_true rfl) rfl (rfl) ?_
  refine ep_k1 (w := nI 0) t63_136 rfl ?_
  refine ep_aldN t63_137 rfl (Nat.le_of_ble_eq_true rfl) (Nat.ne_of_beq_eq_false rfl) (Nat.le_of_ble_eq_true rfl) (by omega) ?_
  refine ep_val (b := nI (so_C T c)) ((congrFun (p1 35 (by decide)) 0).trans m2.2.1) ?_
  obtain ⟨v3, g3, h3, σ3, lab3, rfl, rfl, q1, q2, q3⟩ := cl_M_earthedBy_34 (X := X) (q := q) (σ := σ2) (T := so_T T) (c := so_C T c) (by rw [p1 34 (by decide)]; exact m2.1) hs0 hs2
  have hfr : ∀ r, r ≠ 34 → r ≠ 35 → r ≠ 43 → σ3 r = σ r := fun r a b d => (q1 r d).trans ((p1 r d).trans (m1 r a b))
  have f31 : σ3 31 = σ 31 := hfr 31 (by decide) (by decide) (by decide)
  have e73 : σ3 31 7 = -1 := (congrFun f31 7).trans e7
  refine ep_cv t63_138 rfl rfl (Nat.le_of_ble_eq_true rfl) (Nat.le_of_ble_eq_true rfl) (h3) ?_
  have f34 : σ3 34 = σ1 34 := (q1 34 (by decide)).trans (p1 34 (by decide))
  have f35 : σ3 35 = σ1 35 := (q1 35 (by decide)).trans (p1 35 (by decide))
  have hla := live_lt hs0.1 (so_C T c)
  have hlb := and_lt (b := earthM (so_T T) (so_C T c)) hla
  refine ep_andN (a := liveM (so_T T) (so_C T c)) (b := earthM (so_T T) (so_C T c)) t63_141 ?_
  refine ep_if0P t63_142 (ic0_ne (by omega)) (fun (c142 : ¬ ((liveM (so_T T) (so_C T c)) &&& (earthM (so_T T) (so_C T c))) = 0) => ?_) (fun (c142 : ¬ (¬ ((liveM (so_T T) (so_C T c)) &&& (earthM (so_T T) (so_C T c))) = 0)) => ?_)
  · refine ep_aln t63_152 rfl ?_
    refine ep_get t63_153 rfl (Nat.le_of_ble_eq_true rfl) rfl ?_
    refine ep_val (b := nI n) ((congrFun f31 2).trans e2) ?_
    refine ep_put t63_156 rfl (Nat.le_of_ble_eq_true rfl) rfl ?_
    refine ep_aln t63_159 rfl ?_
    refine ep_cv t63_160 rfl rfl (Nat.le_of_ble_eq_true rfl) (Nat.le_of_ble_eq_true rfl) (cl_M_well_f (f := n) hn rfl) ?_
    refine ep_bT t63_163 (fun (c163 : false = true) => (by exact absurd c163 (by decide))) (fun (c163 : false = false) => ?_)
    refine ep_k2 (w := (-10)) t63_166 rfl ?_
    refine ep_aln t63_168 rfl ?_
    refine ep_get t63_169 rfl (Nat.le_of_ble_eq_true rfl) rfl ?_
    refine ep_val (b := nI n) (rfl) ?_
    refine ep_sub t63_172 ?_
    refine ep_ri t63_173 (fun h => absurd h (by decide)) ?_
    exact K1 _ c142 ⟨fun r a b c d => (g_up_ne a).trans (hfr r b c d), fun k a b c d e f => (g_up_j f).trans (congrFun f31 k)⟩
  · refine ep_aln t63_145 rfl ?_
    refine ep_get t63_146 rfl (Nat.le_of_ble_eq_true rfl) rfl ?_
    refine ep_val (b := (-1)) (e73) ?_
    refine ep_gt t63_149 ?_
    refine ep_put t63_156 rfl (Nat.le_of_ble_eq_true rfl) rfl ?_
    refine ep_aln t63_159 rfl ?_
    refine ep_cv t63_160 rfl rfl (Nat.le_of_ble_eq_true rfl) (Nat.le_of_ble_eq_true rfl) (cl_M_well rfl) ?_
    refine ep_bT t63_163 (fun (c163 : true = true) => ?_) (fun (c163 : true = false) => (by exact absurd c163 (by decide)))
    refine ep_aln t63_174 rfl ?_
    obtain ⟨v4, ⟨n4, ρ4, σ4⟩, h4, rfl, ⟨s1, s2⟩, s3, s4, s5, s6, s7, s8, s9⟩ := cl_M_settles (X := X) (ρ := g_rho q) (σ := g_up σ3 31 7 ((-1))) (RM_rho q)
    dsimp only at s1 s2 s3 s4 s5 s6 s7 s8 s9
    subst s1; subst s2
    refine ep_cv t63_175 rfl rfl (Nat.le_of_ble_eq_true rfl) (Nat.le_of_ble_eq_true rfl) (h4) ?_
    refine ep_iln t63_178 rfl ?_
    refine ep_ri t63_179 (fun h => absurd h (by decide)) ?_
    refine K2 σ4 (Classical.byContradiction c142) ⟨fun r a b c d e f g => ?_, ⟨fun j hj => ?_, fun k hk => ?_⟩, ⟨?_, ?_, ?_, ?_, ?_⟩, s6, s8, s9⟩
    · exact (s3 r b e a f).trans ((g_up_ne a).trans (hfr r c d g))
    · exact (s4 j (by omega)).trans ((congrFun f34 j).trans (m2.1.1 j hj))
    · have hk2 := hk
      rw [so_T3] at hk2
      have z := m2.1.2 k hk
      refine ⟨?_, ?_, ?_, ?_⟩
      · exact (s4 (4 + k) (by omega)).trans ((congrFun f34 (4 + k)).trans z.1)
      · exact (s4 (12 + k) (by omega)).trans ((congrFun f34 (12 + k)).trans z.2.1)
      · exact (s4 (20 + k) (by omega)).trans ((congrFun f34 (20 + k)).trans z.2.2.1)
      · exact (s4 (28 + k) (by omega)).trans ((congrFun f34 (28 + k)).trans z.2.2.2)
    · exact (s5 0 (by decide)).trans ((congrFun f35 0).trans m2.2.1)
    · exact (s5 1 (by decide)).trans ((congrFun f35 1).trans m2.2.2.1)
    · exact (s5 2 (by decide)).trans ((congrFun f35 2).trans m2.2.2.2.1)
    · exact (s5 3 (by decide)).trans ((congrFun f35 3).trans m2.2.2.2.2.1)
    · exact (s5 4 (by decide)).trans ((congrFun f35 4).trans m2.2.2.2.2.2)
theorem cl_M_book {X : gX} {q : Bool} {σ : gT1} {a : Nat → Nat} {n : Nat} (ha : ∀ j, a j < 256) (hn : n ≤ 120) (hx : TxM σ a n) : ClP X 63 [.ref 31] (47, g_rho q, σ) (fun v g1 => ∃ σ2, g1 = (47, g_rho q, σ2) ∧ RBk σ σ2 n v (prs a n (n + 1) 0 0 T_0 0 0)) := by
  have hok := prs_ok (a := a) (n := n) (n + 1) 0 0 T_0 0 0 (Nat.zero_le _) (by omega) WFD_0 (fun _ => ⟨rfl, rfl, rfl⟩)
  refine ClP.of ⟨Nat.le_of_ble_eq_true rfl, rfl⟩ ?_
  show EvP X 63 0 [some (.ref 31), none, none] [] (47, g_rho q, σ) _
  refine ep_aln t63_0 rfl ?_
  refine ep_k1 (w := nI 0) t63_1 rfl ?_
  refine ep_put t63_2 rfl (Nat.le_of_ble_eq_true rfl) rfl ?_
  refine ep_aln t63_5 rfl ?_
  refine ep_k1 (w := (-1)) t63_6 rfl ?_
  refine ep_put t63_7 rfl (Nat.le_of_ble_eq_true rfl) rfl ?_
  refine ep_aln t63_10 rfl ?_
  refine ep_k1 (w := nI 0) t63_11 rfl ?_
  refine ep_put t63_12 rfl (Nat.le_of_ble_eq_true rfl) rfl ?_
  refine ep_aln t63_15 rfl ?_
  obtain ⟨v1, ⟨n1, ρ1, σ1⟩, hb, rfl, ⟨hb1, hb2⟩, hb3, hb4, hb5, hb6, hb7, hb8, hb9⟩ := cl_M_begins (X := X) (ρ := g_rho q) (σ := g_up (g_up (g_up σ 31 0 (nI 0)) 31 7 ((-1))) 31 3 (nI 0)) (RM_rho q)
  dsimp only at hb1 hb2 hb3 hb4 hb5 hb6 hb7 hb8 hb9
  subst hb1; subst hb2
  have f31 : σ1 31 = (g_up (g_up (g_up σ 31 0 (nI 0)) 31 7 ((-1))) 31 3 (nI 0)) 31 := hb3 31 (by decide) (by decide)
  refine ep_cv t63_16 rfl rfl (Nat.le_of_ble_eq_true rfl) (Nat.le_of_ble_eq_true rfl) (hb) ?_
  refine ep_k1 (w := nI 0) t63_19 rfl ?_
  refine ep_isn (L' := [some (.ref 31), some (.int (nI 0)), none]) t63_20 rfl (Nat.le_of_ble_eq_true rfl) ?_
  refine ep_aln t63_21 rfl ?_
  obtain ⟨v2, g2, h2, rfl, σ2, rfl, m1, m2, m3⟩ := cl_M_advances (X := X) (q := q) (σ := σ1) (a := a) (n := n) (p := 0) ha hn ⟨(congrFun f31 2).trans hx.1, fun j hj => (congrFun (hb3 32 (by decide) (by decide)) j).trans (hx.2 j hj)⟩ (Nat.zero_le _) (congrFun f31 3)
  refine ep_cv t63_22 rfl rfl (Nat.le_of_ble_eq_true rfl) (Nat.le_of_ble_eq_true rfl) (h2) ?_
  refine L_mbook (σ := g_up σ 31 0 (nI 0)) ha hn hx (n + 1) 0 0 T_0 0 0 σ2 none (fun σk it o2 hf hq => ?_) (by omega) (Nat.zero_le _) (Nat.le_refl _) WFD_0 (fun _ => ⟨rfl, rfl, rfl⟩) ⟨fun r a b c => (m1 r a).trans ((hb3 r b c).trans ((g_up_ne a).trans (g_up_ne a))), fun k a b c d e => (m2 k a b c d).trans ((congrFun f31 k).trans ((g_up_j a).trans (g_up_j e)))⟩ m3 ⟨⟨fun j hj => ?_, fun k hk => absurd hk (Nat.not_lt_zero k)⟩, ?_, ?_, ?_, ?_, ?_⟩ ((m2 7 (by decide) (by decide) (by decide) (by decide)).trans (congrFun f31 7))
  · revert hok hq
    cases prs a n (n + 1) 0 0 T_0 0 0 with
    | inl f =>
      intro hok hq
      exact E_bf (Nat.le_trans hok hn) hq ⟨σk, rfl, rfl, hf.b⟩
    | inr r =>
      obtain ⟨it', T, c, l⟩ := r
      intro hok hq
      obtain ⟨rfl, hq7, hqd⟩ := hq
      have hfb := hf.b
      refine E_bw hn ((hf.2 2 (by decide) (by decide) (by decide) (by decide) (by decide)).trans hx.1) hq7 hok hqd (fun σ2 h1 h2 => ⟨σ2, rfl, Or.inl ⟨h1, rfl, fun r a b c d => (h2.1 r a b c d).trans (hfb.1 r a b c d), fun k z a b c d e => (h2.2 k z a b c d e).trans (hfb.2 k z a b c d e)⟩⟩) (fun σ2 h1 h2 => ⟨σ2, rfl, Or.inr ⟨h1, rfl, fun r a b c d e f g => (h2.1 r a b c d e f g).trans (hfb.1 r a c d g), h2.2⟩⟩)
  · rw [m1 34 (by decide), hb4 j (by omega)]
    match j, hj with
    | 0, _ => rfl
    | 1, _ => rfl
    | 2, _ => rfl
    | 3, _ => rfl
  · exact (congrFun (m1 35 (by decide)) 0).trans hb5
  · exact (congrFun (m1 35 (by decide)) 1).trans hb6
  · exact (congrFun (m1 35 (by decide)) 2).trans hb7
  · exact (congrFun (m1 35 (by decide)) 3).trans hb8
  · exact (congrFun (m1 35 (by decide)) 4).trans hb9

