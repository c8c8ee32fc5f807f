/-! Pair book. -/
theorem Rel.bk {q : Bool} {σ σ' : gT1} (h : Rel q σ) (m : ∀ r, (r = 0 ∨ r = 2 ∨ (np q ≤ r ∧ r ≤ np q + 7) ∨ (25 ≤ r ∧ r ≤ 29) ∨ r = 32 ∨ r = 33 ∨ (36 ≤ r ∧ r ≤ 42)) → σ' r = σ r) (m1 : σ' 1 1 = σ 1 1) (n2 : σ' 31 2 = σ 31 2) (n13 : σ' 31 13 = σ 31 13) (n17 : σ' 31 17 = σ 31 17) (n20 : σ' 31 20 = σ 31 20) : Rel q σ' := by
  obtain ⟨T, c, l, pr, hN, hW, hT, hO, hU, hI, hS⟩ := h
  have f : ∀ k, σ' 0 k = σ 0 k := fun k => congrFun (m 0 (by omega)) k
  have hN' : R_net q T σ' := by
    obtain ⟨h1, h2, h3⟩ := hN
    refine ⟨h1, ?_, by rw [m 33 (by omega)]; exact h3⟩
    unfold NetC at *
    rw [m (np q) (by omega), m (np q + 1) (by omega), m (np q + 2) (by omega), m (np q + 3) (by omega), m (np q + 4) (by omega), m (np q + 5) (by omega), m (np q + 6) (by omega), m (np q + 7) (by omega)]
    exact h2
  exact ⟨T, c, l, pr, hN', hW.fr (f 4) (f 5) (m 25 (by omega)) (m 36 (by omega)), hT.fr m1 (m 2 (by omega)) n2 (m 32 (by omega)), hO.fr (f 8) (m 26 (by omega)) n17 (m 40 (by omega)), hU.fr (f 10) (m 27 (by omega)) n13 (m 37 (by omega)), hI.fr (f 12) (m 28 (by omega)) (m 39 (by omega)) (m 38 (by omega)), hS.fr (f 14) (m 29 (by omega)) n20 (m 41 (by omega)) (m 42 (by omega))⟩
theorem R_txt.ex {σ : gT1} (h : R_txt σ) : ∃ (a : Nat → Nat) (n : Nat), (∀ j, a j < 256) ∧ n ≤ 120 ∧ TxC σ a n ∧ TxM σ a n := by
  obtain ⟨n, hn, e1, e2, e3⟩ := h
  have hc : ∀ j : Nat, ∃ y : Nat, y < 256 ∧ (j < n → σ 2 j = nI y) := fun j => by
    by_cases hj : j < n
    · obtain ⟨y, h1, h2⟩ := (e3 j hj).2
      exact ⟨y, h1, fun _ => h2⟩
    · exact ⟨0, by decide, fun z => absurd z hj⟩
  obtain ⟨a, ha⟩ := Classical.axiomOfChoice hc
  exact ⟨a, n, fun j => (ha j).1, hn, ⟨e1, fun j hj => (ha j).2 hj⟩, e2, fun j hj => (e3 j hj).1.trans ((ha j).2 hj)⟩
theorem Rel_book {q : Bool} {σ : gT1} {T : Nat → Nat} {c l : Nat} (hw : WFT T) (hc : c < 2 ^ T 3) (hl : l < 2 ^ T 3) (hs : sound T c) (hN : NetC σ (np q) T) (hM : ToldM (σ 33) T) (e4 : σ 0 4 = nI c) (e5 : σ 0 5 = nI l) (e25 : σ 25 0 = nI 1 ∧ σ 25 1 = nI 2 ∧ σ 25 2 = nI 3) (e36 : σ 36 0 = nI c ∧ σ 36 1 = nI l ∧ σ 36 2 = nI 1 ∧ σ 36 3 = nI 2 ∧ σ 36 4 = nI 3) (b1 : σ 1 1 = nI 0) (b8 : σ 0 8 = nI 0) (b10 : σ 0 10 = nI 0) (b12 : σ 0 12 = nI 0) (b14 : σ 0 14 = nI 0) (h4 : σ 31 2 = nI 0 ∧ σ 31 17 = nI 0 ∧ σ 31 20 = nI 0 ∧ σ 31 13 = nI 0) (h5 : σ 39 0 = 0 ∧ σ 39 1 = 0) : Rel q σ := by
  refine ⟨T, c, l, fun i => i + 1, ⟨hw, hN, hM⟩, ⟨⟨hc, hl, hs, fun i hi => ⟨by show 1 ≤ i + 1; omega, by show i + 1 ≤ 9; omega⟩⟩, e4, e5, fun i hi => ?_, fun i hi => ?_⟩, ⟨0, by decide, b1, h4.1, fun j hj => absurd hj (Nat.not_lt_zero j)⟩, ⟨0, by decide, b8, h4.2.1, fun j hj => absurd hj (Nat.not_lt_zero j)⟩, ⟨0, by decide, b10, h4.2.2.2, fun j hj => absurd hj (Nat.not_lt_zero j)⟩, ⟨0, by decide, b12, fun i hi => ?_⟩, ⟨0, by decide, b14, h4.2.2.1, fun j hj => absurd hj (Nat.not_lt_zero j)⟩⟩
  · match i, hi with
    | 0, _ => exact e25.1
    | 1, _ => exact e25.2.1
    | 2, _ => exact e25.2.2
  · match i, hi with
    | 0, _ => exact e36.1
    | 1, _ => exact e36.2.1
    | 2, _ => exact e36.2.2.1
    | 3, _ => exact e36.2.2.2.1
    | 4, _ => exact e36.2.2.2.2
  · match i, hi with
    | 0, _ => exact ⟨h5.1, fun h => by simp at h⟩
    | 1, _ => exact ⟨h5.2, fun h => by simp at h⟩
theorem pr_book_7 {X : gX} {σ : gT1} (hR : Rel false σ) : Pair X 45 63 [] false σ := by
  have hR0 := hR
  obtain ⟨T', c', l', pr, hN, hW, hT, hO, hU, hI, hS⟩ := hR
  obtain ⟨a, n, ha, hn, hxC, hxM⟩ := hT.ex
  have hok := prs_ok (a := a) (n := n) (n + 1) 0 0 T_0 0 0 (Nat.zero_le _) (by omega) WFD_0 (fun _ => ⟨rfl, rfl, rfl⟩)
  have relF : ∀ (σ1 σ2 : gT1), (∀ r, (r = 0 ∨ r = 2 ∨ (7 ≤ r ∧ r ≤ 7 + 7) ∨ (25 ≤ r ∧ r ≤ 42)) → σ1 r = σ r) → σ1 1 1 = σ 1 1 → FrB σ1 σ2 → Rel false σ2 := fun σ1 σ2 h1 h2 fb => by
    have hnp : np false = 7 := rfl
    have g31 : σ1 31 = σ 31 := h1 31 (by omega)
    refine hR0.bk (fun r hr => ?_) ((congrFun (fb.1 1 (by decide) (by decide) (by decide) (by decide)) 1).trans h2) ?_ ?_ ?_ ?_
    · rw [hnp] at hr
      exact (fb.1 r (by omega) (by omega) (by omega) (by omega)).trans (h1 r (by omega))
    · exact (fb.2 2 (by decide) (by decide) (by decide) (by decide) (by decide) (by decide)).trans (congrFun g31 2)
    · exact (fb.2 13 (by decide) (by decide) (by decide) (by decide) (by decide) (by decide)).trans (congrFun g31 13)
    · exact (fb.2 17 (by decide) (by decide) (by decide) (by decide) (by decide) (by decide)).trans (congrFun g31 17)
    · exact (fb.2 20 (by decide) (by decide) (by decide) (by decide) (by decide) (by decide)).trans (congrFun g31 20)
  refine Pair.of (ClP.of ⟨Nat.le_of_ble_eq_true rfl, rfl⟩ ?_)
  show EvP X 45 0 [some (.ref 0), none, none] [] (47, g_rho false, σ) _
  obtain ⟨v1, g1, k1, σ1, rfl, f1, r1⟩ := cl_read (X := X) (q := false) (σ := σ) (a := a) (n := n) ha hn hxC
  have hxM1 : TxM σ1 a n := ⟨(congrFun (f1.1 31 (by decide) (by decide) (by decide) (by decide) (by decide)) 2).trans hxM.1, fun j hj => (congrFun (f1.1 32 (by decide) (by decide) (by decide) (by decide) (by decide)) j).trans (hxM.2 j hj)⟩
  cases hr : prs a n (n + 1) 0 0 T_0 0 0 with
  | inl f =>
    rw [hr] at hok r1
    obtain ⟨rfl, r1⟩ := r1
    refine ep_aln t45_0 rfl ?_
    refine ep_getr (q := 3) t45_1 rfl (Nat.le_of_ble_eq_true rfl) rfl (rfl) ?_
    refine ep_aln t45_4 rfl ?_
    refine ep_getr (q := 1) t45_5 rfl (Nat.le_of_ble_eq_true rfl) rfl (rfl) ?_
    refine ep_cv t45_8 rfl rfl (Nat.le_of_ble_eq_true rfl) (Nat.le_of_ble_eq_true rfl) (k1) ?_
    refine ep_isn (L' := [some (.ref 0), some (.int ((-1))), none]) t45_11 rfl (Nat.le_of_ble_eq_true rfl) ?_
    refine ep_iln t45_12 rfl ?_
    refine ep_if0 t45_13 (fun (c13 : 0 ≤ ((-1))) => (by exact absurd c13 (by decide))) (fun (c13 : ¬ (0 ≤ ((-1)))) => ?_)
    refine ep_k2 (w := (-10)) t45_16 rfl ?_
    refine ep_aln t45_18 rfl ?_
    refine ep_getr (q := 1) t45_19 rfl (Nat.le_of_ble_eq_true rfl) rfl (rfl) ?_
    refine ep_get t45_22 rfl (Nat.le_of_ble_eq_true rfl) rfl ?_
    refine ep_val (b := nI f) (r1) ?_
    refine ep_sub t45_25 ?_
    refine ep_ri t45_26 (fun h => absurd h (by decide)) ?_
    refine ⟨_, false, σ1, rfl, rfl, ?_⟩
    obtain ⟨v2, g2, k2, σ2, rfl, r2⟩ := cl_M_book (X := X) (q := false) (σ := σ1) (a := a) (n := n) ha hn hxM1
    rw [hr] at r2
    obtain ⟨rfl, fb⟩ := r2
    exact ⟨_, _, k2, σ2, rfl, rfl, relF σ1 σ2 (fun r hr1 => f1.1 r (by omega) (by omega) (by omega) (by omega) (by omega)) f1.2 fb⟩
  | inr r =>
    obtain ⟨it, T, c, l⟩ := r
    rw [hr] at hok r1
    obtain ⟨rfl, hit, r1⟩ := r1
    have hok : WFD T c l := hok
    have hws := so_wf hok.1
    have hcs : so_C T c < 2 ^ so_T T 3 := by rw [so_T3]; exact mk_lt _ _
    have hls : so_C T l < 2 ^ so_T T 3 := by rw [so_T3]; exact mk_lt _ _
    refine ep_aln t45_0 rfl ?_
    refine ep_getr (q := 3) t45_1 rfl (Nat.le_of_ble_eq_true rfl) rfl (rfl) ?_
    refine ep_aln t45_4 rfl ?_
    refine ep_getr (q := 1) t45_5 rfl (Nat.le_of_ble_eq_true rfl) rfl (rfl) ?_
    refine ep_cv t45_8 rfl rfl (Nat.le_of_ble_eq_true rfl) (Nat.le_of_ble_eq_true rfl) (k1) ?_
    refine ep_isn (L' := [some (.ref 0), some (.int (nI it)), none]) t45_11 rfl (Nat.le_of_ble_eq_true rfl) ?_
    refine ep_iln t45_12 rfl ?_
    refine ep_if0P t45_13 (ic0_ge (by omega)) (fun (c13 : 0 ≤ it) => ?_) (fun (c13 : ¬ (0 ≤ it)) => (by exact absurd (Nat.zero_le _) c13))
    refine ep_aln t45_27 rfl ?_
    refine ep_getr (q := 16) t45_28 rfl (Nat.le_of_ble_eq_true rfl) rfl (rfl) ?_
    refine ep_aln t45_31 rfl ?_
    refine ep_getr (q := 3) t45_32 rfl (Nat.le_of_ble_eq_true rfl) rfl (rfl) ?_
    obtain ⟨v3, g3, k3, rfl, σ2, rfl, d1, d2, d3, d4⟩ := cl_Net_draw_16 (X := X) (q := false) (σ := σ1) (T := T) (c := c) (l := l) hok r1
    refine ep_cv t45_35 rfl rfl (Nat.le_of_ble_eq_true rfl) (Nat.le_of_ble_eq_true rfl) (k3) ?_
    refine ep_aln t45_38 rfl ?_
    refine ep_getr (q := 16) t45_39 rfl (Nat.le_of_ble_eq_true rfl) rfl (rfl) ?_
    refine ep_aln t45_42 rfl ?_
    refine ep_getr (q := 16) t45_43 rfl (Nat.le_of_ble_eq_true rfl) rfl (rfl) ?_
    refine ep_get t45_46 rfl (Nat.le_of_ble_eq_true rfl) rfl ?_
    refine ep_val (b := nI (so_C T c)) (d3) ?_
    refine ep_cv t45_49 rfl rfl (Nat.le_of_ble_eq_true rfl) (Nat.le_of_ble_eq_true rfl) (cl_Net_sound_16 (T := so_T T) (c := so_C T c) d2 hws.1.2 hws.2.2.1 hcs) ?_
    refine ep_bT t45_52 (fun (c52 : (decide (liveM (so_T T) (so_C T c) &&& earthM (so_T T) (so_C T c) = 0)) = true) => ?_) (fun (c52 : (decide (liveM (so_T T) (so_C T c) &&& earthM (so_T T) (so_C T c) = 0)) = false) => ?_)
    · refine ep_aln t45_66 rfl ?_
      refine ep_getr (q := 7) t45_67 rfl (Nat.le_of_ble_eq_true rfl) rfl (rfl) ?_
      refine ep_asn (L' := [some (.ref 0), some (.int (nI it)), some (.ref 7)]) t45_70 rfl (Nat.le_of_ble_eq_true rfl) ?_
      refine ep_aln t45_71 rfl ?_
      refine ep_aln t45_72 rfl ?_
      refine ep_getr (q := 16) t45_73 rfl (Nat.le_of_ble_eq_true rfl) rfl (rfl) ?_
      refine ep_putr t45_76 rfl (Nat.le_of_ble_eq_true rfl) rfl (Nat.le_of_ble_eq_true rfl) ?_
      refine ep_aln t45_79 rfl ?_
      refine ep_aln t45_80 rfl ?_
      refine ep_putr t45_81 rfl (Nat.le_of_ble_eq_true rfl) rfl (Nat.le_of_ble_eq_true rfl) ?_
      rw [show g_ur (g_ur (g_rho false) 0 2 (some 16)) 0 3 (some 7) = g_rho true from g_rho_swap false]
      refine ep_aln t45_84 rfl ?_
      refine ep_getr (q := 1) t45_85 rfl (Nat.le_of_ble_eq_true rfl) rfl (rfl) ?_
      refine ep_k1 (w := nI 0) t45_88 rfl ?_
      refine ep_put t45_89 rfl (Nat.le_of_ble_eq_true rfl) rfl ?_
      refine ep_aln t45_92 rfl ?_
      obtain ⟨σ3, e3⟩ : ∃ σ3 : gT1, σ3 = g_up σ2 1 1 (nI 0) := ⟨_, rfl⟩
      rw [← e3]
      have k4 := cl_B_startAnew_16 (X := X) (n := 47) (ρ := g_rho true) (σ := σ3) (by decide) rfl rfl
      obtain ⟨σ4, e4⟩ : ∃ σ4 : gT1, σ4 = g_up (g_up (g_up (g_up (g_up (g_up (g_up (g_up (g_up σ3 0 4 (σ3 16 4)) 0 5 (σ3 16 5)) 25 0 (nI 1)) 25 1 (nI 2)) 25 2 (nI 3)) 0 8 (nI 0)) 0 10 (nI 0)) 0 14 (nI 0)) 0 12 (nI 0) := ⟨_, rfl⟩
      rw [← e4] at k4
      have m3 : ∀ r, r ≠ 1 → σ3 r = σ2 r := fun r hr => by rw [e3]; exact g_up_ne hr
      have m4 : ∀ r, r ≠ 0 → r ≠ 25 → σ4 r = σ3 r := fun r a b => by rw [e4]; (repeat rw [g_up_ne (by assumption)])
      refine ep_cv t45_93 rfl rfl (Nat.le_of_ble_eq_true rfl) (Nat.le_of_ble_eq_true rfl) (k4) ?_
      refine ep_iln t45_96 rfl ?_
      refine ep_ri t45_97 (fun h => absurd h (by decide)) ?_
      refine ⟨_, true, σ4, rfl, rfl, ?_⟩
      have f31 : σ4 31 = σ 31 := (m4 31 (by decide) (by decide)).trans ((m3 31 (by decide)).trans ((d1 31 (by decide)).trans (f1.1 31 (by decide) (by decide) (by decide) (by decide) (by decide))))
      have f32 : σ4 32 = σ 32 := (m4 32 (by decide) (by decide)).trans ((m3 32 (by decide)).trans ((d1 32 (by decide)).trans (f1.1 32 (by decide) (by decide) (by decide) (by decide) (by decide))))
      obtain ⟨v5, g5, k5, σ5, rfl, r2⟩ := cl_M_book (X := X) (q := true) (σ := σ4) (a := a) (n := n) ha hn ⟨(congrFun f31 2).trans hxM.1, fun j hj => (congrFun f32 j).trans (hxM.2 j hj)⟩
      rw [hr] at r2
      have hsd : sound (so_T T) (so_C T c) := (of_decide_eq_true c52 : liveM (so_T T) (so_C T c) &&& earthM (so_T T) (so_C T c) = 0)
      obtain ⟨z, _⟩ | ⟨_, rfl, sb⟩ := r2
      · exact absurd hsd z
      · refine ⟨_, _, k5, σ5, rfl, rfl, ?_⟩
        obtain ⟨s1, s2, s3, s4, s5⟩ := sb
        have w0 : σ5 0 = σ4 0 := s1 0 (by decide) (by decide) (by decide) (by decide) (by decide) (by decide) (by decide)
        have w1 : σ5 1 = σ3 1 := (s1 1 (by decide) (by decide) (by decide) (by decide) (by decide) (by decide) (by decide)).trans (m4 1 (by decide) (by decide))
        have w25 : σ5 25 = σ4 25 := s1 25 (by decide) (by decide) (by decide) (by decide) (by decide) (by decide) (by decide)
        have wn : ∀ r, 7 ≤ r → r ≤ 24 → σ5 r = σ2 r := fun r a b => (s1 r (by omega) (by omega) (by omega) (by omega) (by omega) (by omega) (by omega)).trans ((m4 r (by omega) (by omega)).trans (m3 r (by omega)))
        refine Rel_book (T := so_T T) (c := so_C T c) (l := so_C T l) hws hcs hls hsd ?_ s2 ?_ ?_ ?_ s3 ?_ ?_ ?_ ?_ ?_ s4 s5
        · show NetC σ5 16 (so_T T)
          unfold NetC at *
          rw [wn 16 (by decide) (by decide), wn (16 + 1) (by decide) (by decide), wn (16 + 2) (by decide) (by decide), wn (16 + 3) (by decide) (by decide), wn (16 + 4) (by decide) (by decide), wn (16 + 5) (by decide) (by decide), wn (16 + 6) (by decide) (by decide), wn (16 + 7) (by decide) (by decide)]
          exact d2
        · rw [w0, e4]
          exact (congrFun (m3 16 (by decide)) 4).trans d3
        · rw [w0, e4]
          exact (congrFun (m3 16 (by decide)) 5).trans d4
        · rw [w25, e4]
          exact ⟨rfl, rfl, rfl⟩
        · rw [w1, e3]
          rfl
        · rw [w0, e4]
          rfl
        · rw [w0, e4]
          rfl
        · rw [w0, e4]
          rfl
        · rw [w0, e4]
          rfl
    · refine ep_k2 (w := (-10)) t45_55 rfl ?_
      refine ep_aln t45_57 rfl ?_
      refine ep_getr (q := 1) t45_58 rfl (Nat.le_of_ble_eq_true rfl) rfl (rfl) ?_
      refine ep_get t45_61 rfl (Nat.le_of_ble_eq_true rfl) rfl ?_
      refine ep_val (b := nI n) ((congrFun (d1 1 (by decide)) 1).trans (f1.2.trans hxC.1)) ?_
      refine ep_sub t45_64 ?_
      refine ep_ri t45_65 (fun h => absurd h (by decide)) ?_
      refine ⟨_, false, σ2, rfl, rfl, ?_⟩
      have f31 : σ2 31 = σ 31 := (d1 31 (by decide)).trans (f1.1 31 (by decide) (by decide) (by decide) (by decide) (by decide))
      have f32 : σ2 32 = σ 32 := (d1 32 (by decide)).trans (f1.1 32 (by decide) (by decide) (by decide) (by decide) (by decide))
      obtain ⟨v5, g5, k5, σ5, rfl, r2⟩ := cl_M_book (X := X) (q := false) (σ := σ2) (a := a) (n := n) ha hn ⟨(congrFun f31 2).trans hxM.1, fun j hj => (congrFun f32 j).trans (hxM.2 j hj)⟩
      rw [hr] at r2
      have hsd : ¬ sound (so_T T) (so_C T c) := (of_decide_eq_false c52 : ¬ (liveM (so_T T) (so_C T c) &&& earthM (so_T T) (so_C T c) = 0))
      obtain ⟨_, rfl, fb⟩ | ⟨z, _⟩ := r2
      · exact ⟨_, _, k5, σ5, rfl, rfl, relF σ2 σ5 (fun r hr1 => (d1 r (by omega)).trans (f1.1 r (by omega) (by omega) (by omega) (by omega) (by omega))) ((congrFun (d1 1 (by decide)) 1).trans f1.2) fb⟩
      · exact absurd z hsd
theorem pr_book_16 {X : gX} {σ : gT1} (hR : Rel true σ) : Pair X 45 63 [] true σ := by
  have hR0 := hR
  obtain ⟨T', c', l', pr, hN, hW, hT, hO, hU, hI, hS⟩ := hR
  obtain ⟨a, n, ha, hn, hxC, hxM⟩ := hT.ex
  have hok := prs_ok (a := a) (n := n) (n + 1) 0 0 T_0 0 0 (Nat.zero_le _) (by omega) WFD_0 (fun _ => ⟨rfl, rfl, rfl⟩)
  have relF : ∀ (σ1 σ2 : gT1), (∀ r, (r = 0 ∨ r = 2 ∨ (16 ≤ r ∧ r ≤ 16 + 7) ∨ (25 ≤ r ∧ r ≤ 42)) → σ1 r = σ r) → σ1 1 1 = σ 1 1 → FrB σ1 σ2 → Rel true σ2 := fun σ1 σ2 h1 h2 fb => by
    have hnp : np true = 16 := rfl
    have g31 : σ1 31 = σ 31 := h1 31 (by omega)
    refine hR0.bk (fun r hr => ?_) ((congrFun (fb.1 1 (by decide) (by decide) (by decide) (by decide)) 1).trans h2) ?_ ?_ ?_ ?_
    · rw [hnp] at hr
      exact (fb.1 r (by omega) (by omega) (by omega) (by omega)).trans (h1 r (by omega))
    · exact (fb.2 2 (by decide) (by decide) (by decide) (by decide) (by decide) (by decide)).trans (congrFun g31 2)
    · exact (fb.2 13 (by decide) (by decide) (by decide) (by decide) (by decide) (by decide)).trans (congrFun g31 13)
    · exact (fb.2 17 (by decide) (by decide) (by decide) (by decide) (by decide) (by decide)).trans (congrFun g31 17)
    · exact (fb.2 20 (by decide) (by decide) (by decide) (by decide) (by decide) (by decide)).trans (congrFun g31 20)
  refine Pair.of (ClP.of ⟨Nat.le_of_ble_eq_true rfl, rfl⟩ ?_)
  show EvP X 45 0 [some (.ref 0), none, none] [] (47, g_rho true, σ) _
  obtain ⟨v1, g1, k1, σ1, rfl, f1, r1⟩ := cl_read (X := X) (q := true) (σ := σ) (a := a) (n := n) ha hn hxC
  have hxM1 : TxM σ1 a n := ⟨(congrFun (f1.1 31 (by decide) (by decide) (by decide) (by decide) (by decide)) 2).trans hxM.1, fun j hj => (congrFun (f1.1 32 (by decide) (by decide) (by decide) (by decide) (by decide)) j).trans (hxM.2 j hj)⟩
  cases hr : prs a n (n + 1) 0 0 T_0 0 0 with
  | inl f =>
    rw [hr] at hok r1
    obtain ⟨rfl, r1⟩ := r1
    refine ep_aln t45_0 rfl ?_
    refine ep_getr (q := 3) t45_1 rfl (Nat.le_of_ble_eq_true rfl) rfl (rfl) ?_
    refine ep_aln t45_4 rfl ?_
    refine ep_getr (q := 1) t45_5 rfl (Nat.le_of_ble_eq_true rfl) rfl (rfl) ?_
    refine ep_cv t45_8 rfl rfl (Nat.le_of_ble_eq_true rfl) (Nat.le_of_ble_eq_true rfl) (k1) ?_
    refine ep_isn (L' := [some (.ref 0), some (.int ((-1))), none]) t45_11 rfl (Nat.le_of_ble_eq_true rfl) ?_
    refine ep_iln t45_12 rfl ?_
    refine ep_if0 t45_13 (fun (c13 : 0 ≤ ((-1))) => (by exact absurd c13 (by decide))) (fun (c13 : ¬ (0 ≤ ((-1)))) => ?_)
    refine ep_k2 (w := (-10)) t45_16 rfl ?_
    refine ep_aln t45_18 rfl ?_
    refine ep_getr (q := 1) t45_19 rfl (Nat.le_of_ble_eq_true rfl) rfl (rfl) ?_
    refine ep_get t45_22 rfl (Nat.le_of_ble_eq_true rfl) rfl ?_
    refine ep_val (b := nI f) (r1) ?_
    refine ep_sub t45_25 ?_
    refine ep_ri t45_26 (fun h => absurd h (by decide)) ?_
    refine ⟨_, true, σ1, rfl, rfl, ?_⟩
    obtain ⟨v2, g2, k2, σ2, rfl, r2⟩ := cl_M_book (X := X) (q := true) (σ := σ1) (a := a) (n := n) ha hn hxM1
    rw [hr] at r2
    obtain ⟨rfl, fb⟩ := r2
    exact ⟨_, _, k2, σ2, rfl, rfl, relF σ1 σ2 (fun r hr1 => f1.1 r (by omega) (by omega) (by omega) (by omega) (by omega)) f1.2 fb⟩
  | inr r =>
    obtain ⟨it, T, c, l⟩ := r
    rw [hr] at hok r1
    obtain ⟨rfl, hit, r1⟩ := r1
    have hok : WFD T c l := hok
    have hws := so_wf hok.1
    have hcs : so_C T c < 2 ^ so_T T 3 := by rw [so_T3]; exact mk_lt _ _
    have hls : so_C T l < 2 ^ so_T T 3 := by rw [so_T3]; exact mk_lt _ _
    refine ep_aln t45_0 rfl ?_
    refine ep_getr (q := 3) t45_1 rfl (Nat.le_of_ble_eq_true rfl) rfl (rfl) ?_
    refine ep_aln t45_4 rfl ?_
    refine ep_getr (q := 1) t45_5 rfl (Nat.le_of_ble_eq_true rfl) rfl (rfl) ?_
    refine ep_cv t45_8 rfl rfl (Nat.le_of_ble_eq_true rfl) (Nat.le_of_ble_eq_true rfl) (k1) ?_
    refine ep_isn (L' := [some (.ref 0), some (.int (nI it)), none]) t45_11 rfl (Nat.le_of_ble_eq_true rfl) ?_
    refine ep_iln t45_12 rfl ?_
    refine ep_if0P t45_13 (ic0_ge (by omega)) (fun (c13 : 0 ≤ it) => ?_) (fun (c13 : ¬ (0 ≤ it)) => (by exact absurd (Nat.zero_le _) c13))
    refine ep_aln t45_27 rfl ?_
    refine ep_getr (q := 7) t45_28 rfl (Nat.le_of_ble_eq_true rfl) rfl (rfl) ?_
    refine ep_aln t45_31 rfl ?_
    refine ep_getr (q := 3) t45_32 rfl (Nat.le_of_ble_eq_true rfl) rfl (rfl) ?_
    obtain ⟨v3, g3, k3, rfl, σ2, rfl, d1, d2, d3, d4⟩ := cl_Net_draw_7 (X := X) (q := true) (σ := σ1) (T := T) (c := c) (l := l) hok r1
    refine ep_cv t45_35 rfl rfl (Nat.le_of_ble_eq_true rfl) (Nat.le_of_ble_eq_true rfl) (k3) ?_
    refine ep_aln t45_38 rfl ?_
    refine ep_getr (q := 7) t45_39 rfl (Nat.le_of_ble_eq_true rfl) rfl (rfl) ?_
    refine ep_aln t45_42 rfl ?_
    refine ep_getr (q := 7) t45_43 rfl (Nat.le_of_ble_eq_true rfl) rfl (rfl) ?_
    refine ep_get t45_46 rfl (Nat.le_of_ble_eq_true rfl) rfl ?_
    refine ep_val (b := nI (so_C T c)) (d3) ?_
    refine ep_cv t45_49 rfl rfl (Nat.le_of_ble_eq_true rfl) (Nat.le_of_ble_eq_true rfl) (cl_Net_sound_7 (T := so_T T) (c := so_C T c) d2 hws.1.2 hws.2.2.1 hcs) ?_
    refine ep_bT t45_52 (fun (c52 : (decide (liveM (so_T T) (so_C T c) &&& earthM (so_T T) (so_C T c) = 0)) = true) => ?_) (fun (c52 : (decide (liveM (so_T T) (so_C T c) &&& earthM (so_T T) (so_C T c) = 0)) = false) => ?_)
    · refine ep_aln t45_66 rfl ?_
      refine ep_getr (q := 16) t45_67 rfl (Nat.le_of_ble_eq_true rfl) rfl (rfl) ?_
      refine ep_asn (L' := [some (.ref 0), some (.int (nI it)), some (.ref 16)]) t45_70 rfl (Nat.le_of_ble_eq_true rfl) ?_
      refine ep_aln t45_71 rfl ?_
      refine ep_aln t45_72 rfl ?_
      refine ep_getr (q := 7) t45_73 rfl (Nat.le_of_ble_eq_true rfl) rfl (rfl) ?_
      refine ep_putr t45_76 rfl (Nat.le_of_ble_eq_true rfl) rfl (Nat.le_of_ble_eq_true rfl) ?_
      refine ep_aln t45_79 rfl ?_
      refine ep_aln t45_80 rfl ?_
      refine ep_putr t45_81 rfl (Nat.le_of_ble_eq_true rfl) rfl (Nat.le_of_ble_eq_true rfl) ?_
      rw [show g_ur (g_ur (g_rho true) 0 2 (some 7)) 0 3 (some 16) = g_rho false from g_rho_swap true]
      refine ep_aln t45_84 rfl ?_
      refine ep_getr (q := 1) t45_85 rfl (Nat.le_of_ble_eq_true rfl) rfl (rfl) ?_
      refine ep_k1 (w := nI 0) t45_88 rfl ?_
      refine ep_put t45_89 rfl (Nat.le_of_ble_eq_true rfl) rfl ?_
      refine ep_aln t45_92 rfl ?_
      obtain ⟨σ3, e3⟩ : ∃ σ3 : gT1, σ3 = g_up σ2 1 1 (nI 0) := ⟨_, rfl⟩
      rw [← e3]
      have k4 := cl_B_startAnew_7 (X := X) (n := 47) (ρ := g_rho false) (σ := σ3) (by decide) rfl rfl
      obtain ⟨σ4, e4⟩ : ∃ σ4 : gT1, σ4 = g_up (g_up (g_up (g_up (g_up (g_up (g_up (g_up (g_up σ3 0 4 (σ3 7 4)) 0 5 (σ3 7 5)) 25 0 (nI 1)) 25 1 (nI 2)) 25 2 (nI 3)) 0 8 (nI 0)) 0 10 (nI 0)) 0 14 (nI 0)) 0 12 (nI 0) := ⟨_, rfl⟩
      rw [← e4] at k4
      have m3 : ∀ r, r ≠ 1 → σ3 r = σ2 r := fun r hr => by rw [e3]; exact g_up_ne hr
      have m4 : ∀ r, r ≠ 0 → r ≠ 25 → σ4 r = σ3 r := fun r a b => by rw [e4]; (repeat rw [g_up_ne (by assumption)])
      refine ep_cv t45_93 rfl rfl (Nat.le_of_ble_eq_true rfl) (Nat.le_of_ble_eq_true rfl) (k4) ?_
      refine ep_iln t45_96 rfl ?_
      refine ep_ri t45_97 (fun h => absurd h (by decide)) ?_
      refine ⟨_, false, σ4, rfl, rfl, ?_⟩
      have f31 : σ4 31 = σ 31 := (m4 31 (by decide) (by decide)).trans ((m3 31 (by decide)).trans ((d1 31 (by decide)).trans (f1.1 31 (by decide) (by decide) (by decide) (by decide) (by decide))))
      have f32 : σ4 32 = σ 32 := (m4 32 (by decide) (by decide)).trans ((m3 32 (by decide)).trans ((d1 32 (by decide)).trans (f1.1 32 (by decide) (by decide) (by decide) (by decide) (by decide))))
      obtain ⟨v5, g5, k5, σ5, rfl, r2⟩ := cl_M_book (X := X) (q := false) (σ := σ4) (a := a) (n := n) ha hn ⟨(congrFun f31 2).trans hxM.1, fun j hj => (congrFun f32 j).trans (hxM.2 j hj)⟩
      rw [hr] at r2
      have hsd : sound (so_T T) (so_C T c) := (of_decide_eq_true c52 : liveM (so_T T) (so_C T c) &&& earthM (so_T T) (so_C T c) = 0)
      obtain ⟨z, _⟩ | ⟨_, rfl, sb⟩ := r2
      · exact absurd hsd z
      · refine ⟨_, _, k5, σ5, rfl, rfl, ?_⟩
        obtain ⟨s1, s2, s3, s4, s5⟩ := sb
        have w0 : σ5 0 = σ4 0 := s1 0 (by decide) (by decide) (by decide) (by decide) (by decide) (by decide) (by decide)
        have w1 : σ5 1 = σ3 1 := (s1 1 (by decide) (by decide) (by decide) (by decide) (by decide) (by decide) (by decide)).trans (m4 1 (by decide) (by decide))
        have w25 : σ5 25 = σ4 25 := s1 25 (by decide) (by decide) (by decide) (by decide) (by decide) (by decide) (by decide)
        have wn : ∀ r, 7 ≤ r → r ≤ 24 → σ5 r = σ2 r := fun r a b => (s1 r (by omega) (by omega) (by omega) (by omega) (by omega) (by omega) (by omega)).trans ((m4 r (by omega) (by omega)).trans (m3 r (by omega)))
        refine Rel_book (T := so_T T) (c := so_C T c) (l := so_C T l) hws hcs hls hsd ?_ s2 ?_ ?_ ?_ s3 ?_ ?_ ?_ ?_ ?_ s4 s5
        · show NetC σ5 7 (so_T T)
          unfold NetC at *
          rw [wn 7 (by decide) (by decide), wn (7 + 1) (by decide) (by decide), wn (7 + 2) (by decide) (by decide), wn (7 + 3) (by decide) (by decide), wn (7 + 4) (by decide) (by decide), wn (7 + 5) (by decide) (by decide), wn (7 + 6) (by decide) (by decide), wn (7 + 7) (by decide) (by decide)]
          exact d2
        · rw [w0, e4]
          exact (congrFun (m3 7 (by decide)) 4).trans d3
        · rw [w0, e4]
          exact (congrFun (m3 7 (by decide)) 5).trans d4
        · rw [w25, e4]
          exact ⟨rfl, rfl, rfl⟩
        · rw [w1, e3]
          rfl
        · rw [w0, e4]
          rfl
        · rw [w0, e4]
          rfl
        · rw [w0, e4]
          rfl
        · rw [w0, e4]
          rfl
    · refine ep_k2 (w := (-10)) t45_55 rfl ?_
      refine ep_aln t45_57 rfl ?_
      refine ep_getr (q := 1) t45_58 rfl (Nat.le_of_ble_eq_true rfl) rfl (rfl) ?_
      refine ep_get t45_61 rfl (Nat.le_of_ble_eq_true rfl) rfl ?_
      refine ep_val (b := nI n) ((congrFun (d1 1 (by decide)) 1).trans (f1.2.trans hxC.1)) ?_
      refine ep_sub t45_64 ?_
      refine ep_ri t45_65 (fun h => absurd h (by decide)) ?_
      refine ⟨_, true, σ2, rfl, rfl, ?_⟩
      have f31 : σ2 31 = σ 31 := (d1 31 (by decide)).trans (f1.1 31 (by decide) (by decide) (by decide) (by decide) (by decide))
      have f32 : σ2 32 = σ 32 := (d1 32 (by decide)).trans (f1.1 32 (by decide) (by decide) (by decide) (by decide) (by decide))
      obtain ⟨v5, g5, k5, σ5, rfl, r2⟩ := cl_M_book (X := X) (q := true) (σ := σ2) (a := a) (n := n) ha hn ⟨(congrFun f31 2).trans hxM.1, fun j hj => (congrFun f32 j).trans (hxM.2 j hj)⟩
      rw [hr] at r2
      have hsd : ¬ sound (so_T T) (so_C T c) := (of_decide_eq_false c52 : ¬ (liveM (so_T T) (so_C T c) &&& earthM (so_T T) (so_C T c) = 0))
      obtain ⟨_, rfl, fb⟩ | ⟨z, _⟩ := r2
      · exact ⟨_, _, k5, σ5, rfl, rfl, relF σ2 σ5 (fun r hr1 => (d1 r (by omega)).trans (f1.1 r (by omega) (by omega) (by omega) (by omega) (by omega))) ((congrFun (d1 1 (by decide)) 1).trans f1.2) fb⟩
      · exact absurd z hsd
theorem pr_book {X : gX} {q : Bool} {σ : gT1} (hR : Rel q σ) : Pair X 45 63 [] q σ := by
  cases q with
  | false => exact pr_book_7 hR
  | true => exact pr_book_16 hR
