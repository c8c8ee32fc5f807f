/-! The model: what can be come to; pair now. -/
theorem L_al {X : gX} {q : Bool} {σ : gT1} {T : Nat → Nat} {c l : Nat} (hT : ToldM (σ 33) T) (hw : WF0 T) (h31 : T 1 < 2147483648) (h32 : T 2 < 2147483648) (e1 : σ 36 1 = nI l) (hl : l < 2147483648) (hc : c < 2 ^ T 3) (e0 : σ 36 0 = nI c) : ∀ (d k : Nat) (σ' : gT1), k + d = T 3 → (∀ r, r ≠ 43 → σ' r = σ r) → EvP X 87 4 [some (.ref 31), some (.int (nI (mk k (fun k => why T l c k = 0)))), some (.int (nI k))] [] (47, g_rho q, σ') (fun v g1 => ∃ σ1, v = some (.int (nI (mk (T 3) (fun k => why T l c k = 0)))) ∧ g1 = (47, g_rho q, σ1) ∧ ∀ r, r ≠ 43 → σ1 r = σ r)
  | 0, k, σ', hk, h1 => by
    obtain rfl : k = T 3 := by omega
    refine ep_iln t87_4 rfl ?_
    refine ep_aln t87_5 rfl ?_
    refine ep_getr (q := 33) t87_6 rfl (Nat.le_of_ble_eq_true rfl) rfl (rfl) ?_
    refine ep_k1 (w := nI 3) t87_9 rfl ?_
    refine ep_aldN t87_10 rfl (Nat.le_of_ble_eq_true rfl) (Nat.ne_of_beq_eq_false rfl) (Nat.le_of_ble_eq_true rfl) (by have := hw.2.1; omega) ?_
    refine ep_val (b := nI (T 3)) ((congrFun (h1 33 (by decide)) 3).trans (hT.1 3 (by decide))) ?_
    refine ep_ifP t87_11 (ic_ge (by have := hw.2.1; omega) (by have := hw.2.1; omega)) (fun (c11 : (T 3) ≤ (T 3)) => ?_) (fun (c11 : ¬ ((T 3) ≤ (T 3))) => (by exact absurd (Nat.le_refl _) c11))
    refine ep_iln t87_44 rfl ?_
    refine ep_ri t87_45 (fun h => absurd h (by decide)) ?_
    exact ⟨σ', rfl, rfl, h1⟩
  | d + 1, k, σ', hk, h1 => by
    have hk3 : k < T 3 := by omega
    refine ep_iln t87_4 rfl ?_
    refine ep_aln t87_5 rfl ?_
    refine ep_getr (q := 33) t87_6 rfl (Nat.le_of_ble_eq_true rfl) rfl (rfl) ?_
    refine ep_k1 (w := nI 3) t87_9 rfl ?_
    refine ep_aldN t87_10 rfl (Nat.le_of_ble_eq_true rfl) (Nat.ne_of_beq_eq_false rfl) (Nat.le_of_ble_eq_true rfl) (by have := why_le T l c k; have := hw.2.1; omega) ?_
    refine ep_val (b := nI (T 3)) ((congrFun (h1 33 (by decide)) 3).trans (hT.1 3 (by decide))) ?_
    refine ep_ifP t87_11 (ic_ge (by have := why_le T l c k; have := hw.2.1; omega) (by have := why_le T l c k; have := hw.2.1; omega)) (fun (c11 : (T 3) ≤ k) => (by omega)) (fun (c11 : ¬ ((T 3) ≤ k)) => ?_)
    refine ep_iln t87_14 rfl ?_
    refine ep_aln t87_15 rfl ?_
    refine ep_iln t87_16 rfl ?_
    refine ep_aln t87_17 rfl ?_
    refine ep_getr (q := 36) t87_18 rfl (Nat.le_of_ble_eq_true rfl) rfl (rfl) ?_
    refine ep_k1 (w := nI 0) t87_21 rfl ?_
    refine ep_aldN t87_22 rfl (Nat.le_of_ble_eq_true rfl) (Nat.ne_of_beq_eq_false rfl) (Nat.le_of_ble_eq_true rfl) (by have := why_le T l c k; have := hw.2.1; omega) ?_
    refine ep_val (b := nI c) ((congrFun (h1 36 (by decide)) 0).trans e0) ?_
    obtain ⟨v9, g9, hm9, σw, rfl, rfl, m1⟩ := cl_M_whyNot (X := X) (q := q) (σ := σ') (T := T) (c := c) (l := l) (k := k) (by rw [h1 33 (by decide)]; exact hT) hw h31 h32 ((congrFun (h1 36 (by decide)) 1).trans e1) hl hc hk3
    refine ep_cv t87_23 rfl rfl (Nat.le_of_ble_eq_true rfl) (Nat.le_of_ble_eq_true rfl) (hm9) ?_
    refine ep_if0P t87_26 (ic0_ne (by have := why_le T l c k; have := hw.2.1; omega)) (fun (c26 : ¬ (why T l c k) = 0) => ?_) (fun (c26 : ¬ (¬ (why T l c k) = 0)) => ?_)
    · refine ep_k1 (w := nI 0) t87_35 rfl ?_
      refine ep_orN (a := mk k (fun k => why T l c k = 0)) (b := 0) t87_36 ?_
      refine ep_isn (L' := [some (.ref 31), some (.int (nI ((mk k (fun k => why T l c k = 0)) ||| 0))), some (.int (nI k))]) t87_37 rfl (Nat.le_of_ble_eq_true rfl) ?_
      refine ep_inc (b := nI (k + 1)) (L' := [some (.ref 31), some (.int (nI ((mk k (fun k => why T l c k = 0)) ||| 0))), some (.int (nI (k + 1)))]) t87_38 rfl (nI_add k 1) rfl (Nat.le_of_ble_eq_true rfl) ?_
      refine ep_gt t87_41 ?_
      rw [Nat.or_zero, mk_no (P := fun k => why T l c k = 0) c26]
      exact L_al hT hw h31 h32 e1 hl hc e0 d (k + 1) σw (by omega) (fun r hr => (m1 r hr).trans (h1 r hr))
    · refine ep_k1 (w := nI 1) t87_29 rfl ?_
      refine ep_iln t87_30 rfl ?_
      refine ep_oneN (b := k) t87_31 (by have := why_le T l c k; have := hw.2.1; omega) ?_
      refine ep_gt t87_32 ?_
      refine ep_orN (a := mk k (fun k => why T l c k = 0)) (b := 2 ^ k) t87_36 ?_
      refine ep_isn (L' := [some (.ref 31), some (.int (nI ((mk k (fun k => why T l c k = 0)) ||| (2 ^ k)))), some (.int (nI k))]) t87_37 rfl (Nat.le_of_ble_eq_true rfl) ?_
      refine ep_inc (b := nI (k + 1)) (L' := [some (.ref 31), some (.int (nI ((mk k (fun k => why T l c k = 0)) ||| (2 ^ k)))), some (.int (nI (k + 1)))]) t87_38 rfl (nI_add k 1) rfl (Nat.le_of_ble_eq_true rfl) ?_
      refine ep_gt t87_41 ?_
      rw [mk_yes (P := fun k => why T l c k = 0) (Classical.byContradiction c26)]
      exact L_al hT hw h31 h32 e1 hl hc e0 d (k + 1) σw (by omega) (fun r hr => (m1 r hr).trans (h1 r hr))
theorem cl_M_allLawful {X : gX} {q : Bool} {σ : gT1} {T : Nat → Nat} {c l : Nat} (hT : ToldM (σ 33) T) (hw : WF0 T) (h31 : T 1 < 2147483648) (h32 : T 2 < 2147483648) (e1 : σ 36 1 = nI l) (hl : l < 2147483648) (hc : c < 2 ^ T 3) (e0 : σ 36 0 = nI c)  : ClP X 87 [.ref 31] (47, g_rho q, σ) (fun v g1 => ∃ σ1, v = some (.int (nI (mk (T 3) (fun k => why T l c k = 0)))) ∧ g1 = (47, g_rho q, σ1) ∧ ∀ r, r ≠ 43 → σ1 r = σ r) := by
  refine ClP.of ⟨Nat.le_of_ble_eq_true rfl, rfl⟩ ?_
  show EvP X 87 0 [some (.ref 31), none, none] [] (47, g_rho q, σ) _
  refine ep_k1 (w := nI 0) t87_0 rfl ?_
  refine ep_isn (L' := [some (.ref 31), some (.int (nI 0)), none]) t87_1 rfl (Nat.le_of_ble_eq_true rfl) ?_
  refine ep_k1 (w := nI 0) t87_2 rfl ?_
  refine ep_isn (L' := [some (.ref 31), some (.int (nI 0)), some (.int (nI 0))]) t87_3 rfl (Nat.le_of_ble_eq_true rfl) ?_
  exact L_al hT hw h31 h32 e1 hl hc e0 (T 3) 0 σ (by omega) (fun _ _ => rfl)

theorem L_mp {X : gX} {q : Bool} {σ σ' : gT1} {T : Nat → Nat} {c : Nat} {lab : Nat → Nat} (hT : ToldM (σ 33) T) (hw : WF0 T) (b1 : ∀ r, r ≠ 43 → σ' r = σ r) (b2 : ∀ u, u < T 0 → σ' 43 u = nI (lab u)) (b3 : POK T c lab) : ∀ (d u : Nat), u + d = T 0 → EvP X 88 18 [some (.ref 31), some (.int (nI (rtC T c u))), some (.int (nI u))] [] (47, g_rho q, σ') (fun v g1 => ∃ σ1, v = some (.int (nI (rtC T c (T 0)))) ∧ g1 = (47, g_rho q, σ1) ∧ ∀ r, r ≠ 43 → σ1 r = σ r)
  | 0, u, hk => by
    obtain rfl : u = T 0 := by omega
    refine ep_iln t88_18 rfl ?_
    refine ep_aln t88_19 rfl ?_
    refine ep_getr (q := 33) t88_20 rfl (Nat.le_of_ble_eq_true rfl) rfl (rfl) ?_
    refine ep_k1 (w := nI 0) t88_23 rfl ?_
    refine ep_aldN t88_24 rfl (Nat.le_of_ble_eq_true rfl) (Nat.ne_of_beq_eq_false rfl) (Nat.le_of_ble_eq_true rfl) (by have := hw.1; omega) ?_
    refine ep_val (b := nI (T 0)) ((congrFun (b1 33 (by decide)) 0).trans (hT.1 0 (by decide))) ?_
    refine ep_ifP t88_25 (ic_ge (by have := hw.1; omega) (by have := hw.1; omega)) (fun (c25 : (T 0) ≤ (T 0)) => ?_) (fun (c25 : ¬ ((T 0) ≤ (T 0))) => (by exact absurd (Nat.le_refl _) c25))
    refine ep_iln t88_52 rfl ?_
    refine ep_ri t88_53 (fun h => absurd h (by decide)) ?_
    exact ⟨σ', rfl, rfl, b1⟩
  | d + 1, u, hk => by
    have hu : u < T 0 := by omega
    refine ep_iln t88_18 rfl ?_
    refine ep_aln t88_19 rfl ?_
    refine ep_getr (q := 33) t88_20 rfl (Nat.le_of_ble_eq_true rfl) rfl (rfl) ?_
    refine ep_k1 (w := nI 0) t88_23 rfl ?_
    refine ep_aldN t88_24 rfl (Nat.le_of_ble_eq_true rfl) (Nat.ne_of_beq_eq_false rfl) (Nat.le_of_ble_eq_true rfl) (by have := hw.1; omega) ?_
    refine ep_val (b := nI (T 0)) ((congrFun (b1 33 (by decide)) 0).trans (hT.1 0 (by decide))) ?_
    refine ep_ifP t88_25 (ic_ge (by have := hw.1; omega) (by have := hw.1; omega)) (fun (c25 : (T 0) ≤ u) => (by omega)) (fun (c25 : ¬ ((T 0) ≤ u)) => ?_)
    have hl1 := (b3 u hu).1.1
    have hl2 := (b3 u hu).2 u hu Cn.rf
    refine ep_iln t88_28 rfl ?_
    refine ep_aln t88_29 rfl ?_
    refine ep_getr (q := 43) t88_30 rfl (Nat.le_of_ble_eq_true rfl) rfl (rfl) ?_
    refine ep_iln t88_33 rfl ?_
    refine ep_aldN t88_34 rfl (Nat.le_of_ble_eq_true rfl) (Nat.ne_of_beq_eq_false rfl) (Nat.le_of_ble_eq_true rfl) (by have := hw.1; omega) ?_
    refine ep_val (b := nI (lab u)) (b2 u hu) ?_
    refine ep_iln t88_35 rfl ?_
    refine ep_ifP t88_36 (ic_ne (by have := hw.1; omega) (by have := hw.1; omega)) (fun (c36 : ¬ (lab u) = u) => ?_) (fun (c36 : ¬ (¬ (lab u) = u)) => ?_)
    · refine ep_k1 (w := nI 0) t88_43 rfl ?_
      refine ep_addN (a := rtC T c u) (b := 0) t88_44 ?_
      refine ep_isn (L' := [some (.ref 31), some (.int (nI ((rtC T c u) + 0))), some (.int (nI u))]) t88_45 rfl (Nat.le_of_ble_eq_true rfl) ?_
      refine ep_inc (b := nI (u + 1)) (L' := [some (.ref 31), some (.int (nI ((rtC T c u) + 0))), some (.int (nI (u + 1)))]) t88_46 rfl (nI_add u 1) rfl (Nat.le_of_ble_eq_true rfl) ?_
      refine ep_gt t88_49 ?_
      rw [Nat.add_zero, show rtC T c u = rtC T c (u + 1) from cnt_no (P := fun u => ∀ j, j < u → ¬ Cn T c u j) (fun h => h (lab u) (by omega) (b3 u hu).1.2)]
      exact L_mp hT hw b1 b2 b3 d (u + 1) (by omega)
    · refine ep_k1 (w := nI 1) t88_39 rfl ?_
      refine ep_gt t88_40 ?_
      refine ep_addN (a := rtC T c u) (b := 1) t88_44 ?_
      refine ep_isn (L' := [some (.ref 31), some (.int (nI ((rtC T c u) + 1))), some (.int (nI u))]) t88_45 rfl (Nat.le_of_ble_eq_true rfl) ?_
      refine ep_inc (b := nI (u + 1)) (L' := [some (.ref 31), some (.int (nI ((rtC T c u) + 1))), some (.int (nI (u + 1)))]) t88_46 rfl (nI_add u 1) rfl (Nat.le_of_ble_eq_true rfl) ?_
      refine ep_gt t88_49 ?_
      rw [show rtC T c u + 1 = rtC T c (u + 1) from cnt_yes (P := fun u => ∀ j, j < u → ¬ Cn T c u j) (fun j hj hq => by have := (b3 u hu).2 j (by omega) hq; have := Classical.byContradiction c36; omega)]
      exact L_mp hT hw b1 b2 b3 d (u + 1) (by omega)
theorem cl_M_parts {X : gX} {q : Bool} {σ : gT1} {T : Nat → Nat} {c : Nat} (hT : ToldM (σ 33) T) (hw : WF0 T) (hc : c < 2147483648) (e0 : σ 36 0 = nI c)  : ClP X 88 [.ref 31] (47, g_rho q, σ) (fun v g1 => ∃ σ1, v = some (.int (nI (rtC T c (T 0)))) ∧ g1 = (47, g_rho q, σ1) ∧ ∀ r, r ≠ 43 → σ1 r = σ r) := by
  refine ClP.of ⟨Nat.le_of_ble_eq_true rfl, rfl⟩ ?_
  show EvP X 88 0 [some (.ref 31), none, none] [] (47, g_rho q, σ) _
  refine ep_aln t88_0 rfl ?_
  refine ep_aln t88_1 rfl ?_
  refine ep_getr (q := 33) t88_2 rfl (Nat.le_of_ble_eq_true rfl) rfl (rfl) ?_
  refine ep_aln t88_5 rfl ?_
  refine ep_getr (q := 36) t88_6 rfl (Nat.le_of_ble_eq_true rfl) rfl (rfl) ?_
  refine ep_k1 (w := nI 0) t88_9 rfl ?_
  refine ep_aldN t88_10 rfl (Nat.le_of_ble_eq_true rfl) (Nat.ne_of_beq_eq_false rfl) (Nat.le_of_ble_eq_true rfl) (by omega) ?_
  refine ep_val (b := nI c) (e0) ?_
  obtain ⟨v9, g9, hm9, rfl, σ2, lab, rfl, b1, b2, b3⟩ := cl_M_partsBy_33 (X := X) (q := q) (σ := σ) (T := T) (c := c) hT hw hc
  refine ep_cv t88_11 rfl rfl (Nat.le_of_ble_eq_true rfl) (Nat.le_of_ble_eq_true rfl) (hm9) ?_
  refine ep_k1 (w := nI 0) t88_14 rfl ?_
  refine ep_isn (L' := [some (.ref 31), some (.int (nI 0)), none]) t88_15 rfl (Nat.le_of_ble_eq_true rfl) ?_
  refine ep_k1 (w := nI 0) t88_16 rfl ?_
  refine ep_isn (L' := [some (.ref 31), some (.int (nI 0)), some (.int (nI 0))]) t88_17 rfl (Nat.le_of_ble_eq_true rfl) ?_
  exact L_mp hT hw b1 b2 b3 (T 0) 0 (by omega)

theorem L_rd4 {X : gX} {s S0 : Nat} {P : Option Value → gS → Prop} {q : Bool} {σ : gT1} {T pr : Nat → Nat} {l : Nat} {W : Nat → Prop} {o1 : Option Value} (hT : ToldM (σ 33) T) (hw : WF0 T) (ep2 : ∀ i, i < 3 → σ 36 (2 + i) = nI (pr i)) (hpr : ∀ i, i < 3 → 1 ≤ pr i ∧ pr i ≤ 9) (hla : LAWS σ T l) (hs : s < 2 ^ T 3) (K : ∀ (σ' : gT1) (E : Nat → Nat) (b : Bool) (o5 : Option Value), (∀ r, r ≠ 44 → σ' r = σ r) → (∀ t, t < 2 ^ T 3 → σ' 44 t = nI (E t)) → NI (lw T l) (pcs T pr) W (sound T) (2 ^ T 3) E → (b = false → RY T pr l E (s + 1) 0) → (b = true → sm E (2 ^ T 3) < S0) → sm E (2 ^ T 3) ≤ S0 → EvP X 92 195 [some (.ref 31), o1, some (.int (bI b)), some (.int (nI s)), some (.int (nI (T 3))), o5] [] (47, g_rho q, σ') P) : ∀ (d k : Nat) (σ' : gT1) (E : Nat → Nat) (b : Bool) (o5 : Option Value), k + d = T 3 → (∀ r, r ≠ 44 → σ' r = σ r) → (∀ t, t < 2 ^ T 3 → σ' 44 t = nI (E t)) → NI (lw T l) (pcs T pr) W (sound T) (2 ^ T 3) E → (b = false → RY T pr l E s k) → (b = true → sm E (2 ^ T 3) < S0) → sm E (2 ^ T 3) ≤ S0 → EvP X 92 63 [some (.ref 31), o1, some (.int (bI b)), some (.int (nI s)), some (.int (nI k)), o5] [] (47, g_rho q, σ') P
  | 0, k, σ', E, b, o5, hk, h1, h44, mi, hrx, hbt, hle => by
    obtain rfl : k = T 3 := by omega
    refine ep_il t92_63 rfl ?_
    refine ep_aln t92_65 rfl ?_
    refine ep_getr (q := 33) t92_66 rfl (Nat.le_of_ble_eq_true rfl) rfl (rfl) ?_
    refine ep_k1 (w := nI 3) t92_69 rfl ?_
    refine ep_aldN t92_70 rfl (Nat.le_of_ble_eq_true rfl) (Nat.ne_of_beq_eq_false rfl) (Nat.le_of_ble_eq_true rfl) (by have := hw.2.1; omega) ?_
    refine ep_val (b := nI (T 3)) ((congrFun (h1 33 (by decide)) 3).trans (hT.1 3 (by decide))) ?_
    refine ep_ifP t92_71 (ic_ge (by have := hw.2.1; omega) (by have := hw.2.1; omega)) (fun (c71 : (T 3) ≤ (T 3)) => ?_) (fun (c71 : ¬ ((T 3) ≤ (T 3))) => (by exact absurd (Nat.le_refl _) c71))
    exact K σ' E b _ h1 h44 mi (fun hb => RY_row (hrx hb)) hbt hle
  | d + 1, k, σ', E, b, o5, hk, h1, h44, mi, hrx, hbt, hle => by
    have hk3 : k < T 3 := by omega
    have h38 := hw.2.1
    refine ep_il t92_63 rfl ?_
    refine ep_aln t92_65 rfl ?_
    refine ep_getr (q := 33) t92_66 rfl (Nat.le_of_ble_eq_true rfl) rfl (rfl) ?_
    refine ep_k1 (w := nI 3) t92_69 rfl ?_
    refine ep_aldN t92_70 rfl (Nat.le_of_ble_eq_true rfl) (Nat.ne_of_beq_eq_false rfl) (Nat.le_of_ble_eq_true rfl) (by omega) ?_
    refine ep_val (b := nI (T 3)) ((congrFun (h1 33 (by decide)) 3).trans (hT.1 3 (by decide))) ?_
    refine ep_ifP t92_71 (ic_ge (by omega) (by omega)) (fun (c71 : (T 3) ≤ k) => (by omega)) (fun (c71 : ¬ ((T 3) ≤ k)) => ?_)
    have hsk := xor_lt hs hk3
    have hm1 := (mi s hs).1
    have hm2 := (mi _ hsk).1
    have hpk2 : 1 ≤ pcs T pr k ∧ pcs T pr k ≤ 9 := hpr _ (hw.2.2.2 k hk3)
    have hx8 := pow_le_256 hw.2.1
    have h38 := hw.2.1
    refine ep_aln t92_74 rfl ?_
    refine ep_getr (q := 44) t92_75 rfl (Nat.le_of_ble_eq_true rfl) rfl (rfl) ?_
    refine ep_iln t92_78 rfl ?_
    refine ep_aldN t92_79 rfl (Nat.le_of_ble_eq_true rfl) (Nat.ne_of_beq_eq_false rfl) (Nat.le_of_ble_eq_true rfl) (by omega) ?_
    refine ep_val (b := nI (E s)) (h44 s hs) ?_
    refine ep_k4 (w := nI 99999) t92_80 rfl ?_
    refine ep_ifP t92_82 (ic_ge (by omega) (by omega)) (fun (c82 : 99999 ≤ (E s)) => ?_) (fun (c82 : ¬ (99999 ≤ (E s))) => ?_)
    · refine ep_k4 (w := nI 99999) t92_116 rfl ?_
      refine ep_is (L' := [some (.ref 31), o1, some (.int (bI b)), some (.int (nI s)), some (.int (nI k)), some (.int (nI 99999))]) t92_118 rfl (Nat.le_of_ble_eq_true rfl) ?_
      refine ep_iln t92_120 rfl ?_
      refine ep_bT t92_121 (fun (c121 : b = true) => ?_) (fun (c121 : b = false) => ?_)
      · refine ep_k1 (w := nI 1) t92_140 rfl ?_
        refine ep_gt t92_141 ?_
        refine ep_isn (L' := [some (.ref 31), o1, some (.int (nI 1)), some (.int (nI s)), some (.int (nI k)), some (.int (nI 99999))]) t92_145 rfl (Nat.le_of_ble_eq_true rfl) ?_
        refine ep_aln t92_146 rfl ?_
        refine ep_getr (q := 44) t92_147 rfl (Nat.le_of_ble_eq_true rfl) rfl (rfl) ?_
        refine ep_iln t92_150 rfl ?_
        refine ep_k1 (w := nI 1) t92_151 rfl ?_
        refine ep_il t92_152 rfl ?_
        refine ep_oneN (b := k) t92_154 (by omega) ?_
        refine ep_xorN (a := s) (b := 2 ^ k) t92_155 ?_
        refine ep_il t92_156 rfl ?_
        refine ep_aln t92_158 rfl ?_
        refine ep_getr (q := 44) t92_159 rfl (Nat.le_of_ble_eq_true rfl) rfl (rfl) ?_
        refine ep_iln t92_162 rfl ?_
        refine ep_k1 (w := nI 1) t92_163 rfl ?_
        refine ep_il t92_164 rfl ?_
        refine ep_oneN (b := k) t92_166 (by omega) ?_
        refine ep_xorN (a := s) (b := 2 ^ k) t92_167 ?_
        refine ep_aldN t92_168 rfl (Nat.le_of_ble_eq_true rfl) (Nat.ne_of_beq_eq_false rfl) (Nat.le_of_ble_eq_true rfl) (by omega) ?_
        refine ep_val (b := nI (E (s ^^^ 2 ^ k))) (h44 _ hsk) ?_
        refine ep_ifP t92_169 (ic_ge (by omega) (by omega)) (fun (c169 : (E (s ^^^ 2 ^ k)) ≤ 99999) => ?_) (fun (c169 : ¬ ((E (s ^^^ 2 ^ k)) ≤ 99999)) => ?_)
        · refine ep_aln t92_177 rfl ?_
          refine ep_getr (q := 44) t92_178 rfl (Nat.le_of_ble_eq_true rfl) rfl (rfl) ?_
          refine ep_iln t92_181 rfl ?_
          refine ep_k1 (w := nI 1) t92_182 rfl ?_
          refine ep_il t92_183 rfl ?_
          refine ep_oneN (b := k) t92_185 (by omega) ?_
          refine ep_xorN (a := s) (b := 2 ^ k) t92_186 ?_
          refine ep_aldN t92_187 rfl (Nat.le_of_ble_eq_true rfl) (Nat.ne_of_beq_eq_false rfl) (Nat.le_of_ble_eq_true rfl) (by omega) ?_
          refine ep_val (b := nI (E (s ^^^ 2 ^ k))) (h44 _ hsk) ?_
          refine ep_astN t92_188 rfl (Nat.le_of_ble_eq_true rfl) (Nat.le_of_ble_eq_true rfl) (by omega) ?_
          refine ep_lv (L' := [some (.ref 31), o1, some (.int (bI true)), some (.int (nI s)), some (.int (nI k)), some (.int (nI 99999))]) rfl ?_
          refine ep_inc (b := nI (k + 1)) (L' := [some (.ref 31), o1, some (.int (bI true)), some (.int (nI s)), some (.int (nI (k + 1))), some (.int (nI 99999))]) t92_189 rfl (nI_add k 1) rfl (Nat.le_of_ble_eq_true rfl) ?_
          refine ep_gt t92_192 ?_
          refine L_rd4 hT hw ep2 hpr hla hs K d (k + 1) _ E true _ (by omega) (fun r hr => (g_up_ne hr).trans (h1 r hr)) (fun t ht => ?_) mi (fun hb => ?_) (fun hb => ?_) (by omega)
          · by_cases e : t = s ^^^ 2 ^ k
            · subst e; rw [g_up_eq]
            · rw [g_up_j e]; exact h44 t ht
          · exact absurd hb (by decide)
          · first
            | exact hbt c121
            | (exfalso; omega)
        · refine ep_il t92_172 rfl ?_
          refine ep_gt t92_174 ?_
          refine ep_astN t92_188 rfl (Nat.le_of_ble_eq_true rfl) (Nat.le_of_ble_eq_true rfl) (by omega) ?_
          exact absurd (mi _ hsk).1 (by omega)
      · refine ep_il t92_124 rfl ?_
        refine ep_aln t92_126 rfl ?_
        refine ep_getr (q := 44) t92_127 rfl (Nat.le_of_ble_eq_true rfl) rfl (rfl) ?_
        refine ep_iln t92_130 rfl ?_
        refine ep_k1 (w := nI 1) t92_131 rfl ?_
        refine ep_il t92_132 rfl ?_
        refine ep_oneN (b := k) t92_134 (by omega) ?_
        refine ep_xorN (a := s) (b := 2 ^ k) t92_135 ?_
        refine ep_aldN t92_136 rfl (Nat.le_of_ble_eq_true rfl) (Nat.ne_of_beq_eq_false rfl) (Nat.le_of_ble_eq_true rfl) (by omega) ?_
        refine ep_val (b := nI (E (s ^^^ 2 ^ k))) (h44 _ hsk) ?_
        refine ep_ifP t92_137 (ic_ge (by omega) (by omega)) (fun (c137 : (E (s ^^^ 2 ^ k)) ≤ 99999) => ?_) (fun (c137 : ¬ ((E (s ^^^ 2 ^ k)) ≤ 99999)) => ?_)
        · refine ep_k1 (w := nI 0) t92_144 rfl ?_
          refine ep_isn (L' := [some (.ref 31), o1, some (.int (nI 0)), some (.int (nI s)), some (.int (nI k)), some (.int (nI 99999))]) t92_145 rfl (Nat.le_of_ble_eq_true rfl) ?_
          refine ep_aln t92_146 rfl ?_
          refine ep_getr (q := 44) t92_147 rfl (Nat.le_of_ble_eq_true rfl) rfl (rfl) ?_
          refine ep_iln t92_150 rfl ?_
          refine ep_k1 (w := nI 1) t92_151 rfl ?_
          refine ep_il t92_152 rfl ?_
          refine ep_oneN (b := k) t92_154 (by omega) ?_
          refine ep_xorN (a := s) (b := 2 ^ k) t92_155 ?_
          refine ep_il t92_156 rfl ?_
          refine ep_aln t92_158 rfl ?_
          refine ep_getr (q := 44) t92_159 rfl (Nat.le_of_ble_eq_true rfl) rfl (rfl) ?_
          refine ep_iln t92_162 rfl ?_
          refine ep_k1 (w := nI 1) t92_163 rfl ?_
          refine ep_il t92_164 rfl ?_
          refine ep_oneN (b := k) t92_166 (by omega) ?_
          refine ep_xorN (a := s) (b := 2 ^ k) t92_167 ?_
          refine ep_aldN t92_168 rfl (Nat.le_of_ble_eq_true rfl) (Nat.ne_of_beq_eq_false rfl) (Nat.le_of_ble_eq_true rfl) (by omega) ?_
          refine ep_val (b := nI (E (s ^^^ 2 ^ k))) (h44 _ hsk) ?_
          refine ep_ifP t92_169 (ic_ge (by omega) (by omega)) (fun (c169 : (E (s ^^^ 2 ^ k)) ≤ 99999) => ?_) (fun (c169 : ¬ ((E (s ^^^ 2 ^ k)) ≤ 99999)) => ?_)
          · refine ep_aln t92_177 rfl ?_
            refine ep_getr (q := 44) t92_178 rfl (Nat.le_of_ble_eq_true rfl) rfl (rfl) ?_
            refine ep_iln t92_181 rfl ?_
            refine ep_k1 (w := nI 1) t92_182 rfl ?_
            refine ep_il t92_183 rfl ?_
            refine ep_oneN (b := k) t92_185 (by omega) ?_
            refine ep_xorN (a := s) (b := 2 ^ k) t92_186 ?_
            refine ep_aldN t92_187 rfl (Nat.le_of_ble_eq_true rfl) (Nat.ne_of_beq_eq_false rfl) (Nat.le_of_ble_eq_true rfl) (by omega) ?_
            refine ep_val (b := nI (E (s ^^^ 2 ^ k))) (h44 _ hsk) ?_
            refine ep_astN t92_188 rfl (Nat.le_of_ble_eq_true rfl) (Nat.le_of_ble_eq_true rfl) (by omega) ?_
            refine ep_lv (L' := [some (.ref 31), o1, some (.int (bI false)), some (.int (nI s)), some (.int (nI k)), some (.int (nI 99999))]) rfl ?_
            refine ep_inc (b := nI (k + 1)) (L' := [some (.ref 31), o1, some (.int (bI false)), some (.int (nI s)), some (.int (nI (k + 1))), some (.int (nI 99999))]) t92_189 rfl (nI_add k 1) rfl (Nat.le_of_ble_eq_true rfl) ?_
            refine ep_gt t92_192 ?_
            refine L_rd4 hT hw ep2 hpr hla hs K d (k + 1) _ E false _ (by omega) (fun r hr => (g_up_ne hr).trans (h1 r hr)) (fun t ht => ?_) mi (fun hb => ?_) (fun hb => ?_) (by omega)
            · by_cases e : t = s ^^^ 2 ^ k
              · subst e; rw [g_up_eq]
              · rw [g_up_j e]; exact h44 t ht
            · refine RY_next (hrx c121) (fun hf hq => ?_)
              first
              | omega
              | exact absurd hq.2 (of_decide_eq_false c97)
            · exact absurd hb (by decide)
          · refine ep_il t92_172 rfl ?_
            refine ep_gt t92_174 ?_
            refine ep_astN t92_188 rfl (Nat.le_of_ble_eq_true rfl) (Nat.le_of_ble_eq_true rfl) (by omega) ?_
            exact absurd (mi _ hsk).1 (by omega)
        · refine ep_k1 (w := nI 1) t92_140 rfl ?_
          refine ep_gt t92_141 ?_
          refine ep_isn (L' := [some (.ref 31), o1, some (.int (nI 1)), some (.int (nI s)), some (.int (nI k)), some (.int (nI 99999))]) t92_145 rfl (Nat.le_of_ble_eq_true rfl) ?_
          refine ep_aln t92_146 rfl ?_
          refine ep_getr (q := 44) t92_147 rfl (Nat.le_of_ble_eq_true rfl) rfl (rfl) ?_
          refine ep_iln t92_150 rfl ?_
          refine ep_k1 (w := nI 1) t92_151 rfl ?_
          refine ep_il t92_152 rfl ?_
          refine ep_oneN (b := k) t92_154 (by omega) ?_
          refine ep_xorN (a := s) (b := 2 ^ k) t92_155 ?_
          refine ep_il t92_156 rfl ?_
          refine ep_aln t92_158 rfl ?_
          refine ep_getr (q := 44) t92_159 rfl (Nat.le_of_ble_eq_true rfl) rfl (rfl) ?_
          refine ep_iln t92_162 rfl ?_
          refine ep_k1 (w := nI 1) t92_163 rfl ?_
          refine ep_il t92_164 rfl ?_
          refine ep_oneN (b := k) t92_166 (by omega) ?_
          refine ep_xorN (a := s) (b := 2 ^ k) t92_167 ?_
          refine ep_aldN t92_168 rfl (Nat.le_of_ble_eq_true rfl) (Nat.ne_of_beq_eq_false rfl) (Nat.le_of_ble_eq_true rfl) (by omega) ?_
          refine ep_val (b := nI (E (s ^^^ 2 ^ k))) (h44 _ hsk) ?_
          refine ep_ifP t92_169 (ic_ge (by omega) (by omega)) (fun (c169 : (E (s ^^^ 2 ^ k)) ≤ 99999) => ?_) (fun (c169 : ¬ ((E (s ^^^ 2 ^ k)) ≤ 99999)) => ?_)
          · refine ep_aln t92_177 rfl ?_
            refine ep_getr (q := 44) t92_178 rfl (Nat.le_of_ble_eq_true rfl) rfl (rfl) ?_
            refine ep_iln t92_181 rfl ?_
            refine ep_k1 (w := nI 1) t92_182 rfl ?_
            refine ep_il t92_183 rfl ?_
            refine ep_oneN (b := k) t92_185 (by omega) ?_
            refine ep_xorN (a := s) (b := 2 ^ k) t92_186 ?_
            refine ep_aldN t92_187 rfl (Nat.le_of_ble_eq_true rfl) (Nat.ne_of_beq_eq_false rfl) (Nat.le_of_ble_eq_true rfl) (by omega) ?_
            refine ep_val (b := nI (E (s ^^^ 2 ^ k))) (h44 _ hsk) ?_
            refine ep_astN t92_188 rfl (Nat.le_of_ble_eq_true rfl) (Nat.le_of_ble_eq_true rfl) (by omega) ?_
            refine ep_lv (L' := [some (.ref 31), o1, some (.int (bI true)), some (.int (nI s)), some (.int (nI k)), some (.int (nI 99999))]) rfl ?_
            refine ep_inc (b := nI (k + 1)) (L' := [some (.ref 31), o1, some (.int (bI true)), some (.int (nI s)), some (.int (nI (k + 1))), some (.int (nI 99999))]) t92_189 rfl (nI_add k 1) rfl (Nat.le_of_ble_eq_true rfl) ?_
            refine ep_gt t92_192 ?_
            refine L_rd4 hT hw ep2 hpr hla hs K d (k + 1) _ E true _ (by omega) (fun r hr => (g_up_ne hr).trans (h1 r hr)) (fun t ht => ?_) mi (fun hb => ?_) (fun hb => ?_) (by omega)
            · by_cases e : t = s ^^^ 2 ^ k
              · subst e; rw [g_up_eq]
              · rw [g_up_j e]; exact h44 t ht
            · exact absurd hb (by decide)
            · first
              | exact hbt c121
              | (exfalso; omega)
          · refine ep_il t92_172 rfl ?_
            refine ep_gt t92_174 ?_
            refine ep_astN t92_188 rfl (Nat.le_of_ble_eq_true rfl) (Nat.le_of_ble_eq_true rfl) (by omega) ?_
            exact absurd (mi _ hsk).1 (by omega)
    · refine ep_aln t92_85 rfl ?_
      refine ep_getr (q := 46) t92_86 rfl (Nat.le_of_ble_eq_true rfl) rfl (rfl) ?_
      refine ep_k2 (w := nI 8) t92_89 rfl ?_
      refine ep_iln t92_91 rfl ?_
      refine ep_mulN (a := 8) (b := s) t92_92 ?_
      refine ep_il t92_93 rfl ?_
      refine ep_addN (a := 8 * s) (b := k) t92_95 ?_
      refine ep_bldN t92_96 rfl (Nat.le_of_ble_eq_true rfl) (Nat.ne_of_beq_eq_false rfl) (Nat.le_of_ble_eq_true rfl) (by omega) ?_
      refine ep_val (b := bI (decide (why T l s k = 0))) ((congrFun (h1 46 (by decide)) _).trans (hla s k hs hk3)) ?_
      refine ep_bF t92_97 (fun (c97 : (decide (why T l s k = 0)) = false) => ?_) (fun (c97 : (decide (why T l s k = 0)) = true) => ?_)
      · refine ep_k4 (w := nI 99999) t92_116 rfl ?_
        refine ep_is (L' := [some (.ref 31), o1, some (.int (bI b)), some (.int (nI s)), some (.int (nI k)), some (.int (nI 99999))]) t92_118 rfl (Nat.le_of_ble_eq_true rfl) ?_
        refine ep_iln t92_120 rfl ?_
        refine ep_bT t92_121 (fun (c121 : b = true) => ?_) (fun (c121 : b = false) => ?_)
        · refine ep_k1 (w := nI 1) t92_140 rfl ?_
          refine ep_gt t92_141 ?_
          refine ep_isn (L' := [some (.ref 31), o1, some (.int (nI 1)), some (.int (nI s)), some (.int (nI k)), some (.int (nI 99999))]) t92_145 rfl (Nat.le_of_ble_eq_true rfl) ?_
          refine ep_aln t92_146 rfl ?_
          refine ep_getr (q := 44) t92_147 rfl (Nat.le_of_ble_eq_true rfl) rfl (rfl) ?_
          refine ep_iln t92_150 rfl ?_
          refine ep_k1 (w := nI 1) t92_151 rfl ?_
          refine ep_il t92_152 rfl ?_
          refine ep_oneN (b := k) t92_154 (by omega) ?_
          refine ep_xorN (a := s) (b := 2 ^ k) t92_155 ?_
          refine ep_il t92_156 rfl ?_
          refine ep_aln t92_158 rfl ?_
          refine ep_getr (q := 44) t92_159 rfl (Nat.le_of_ble_eq_true rfl) rfl (rfl) ?_
          refine ep_iln t92_162 rfl ?_
          refine ep_k1 (w := nI 1) t92_163 rfl ?_
          refine ep_il t92_164 rfl ?_
          refine ep_oneN (b := k) t92_166 (by omega) ?_
          refine ep_xorN (a := s) (b := 2 ^ k) t92_167 ?_
          refine ep_aldN t92_168 rfl (Nat.le_of_ble_eq_true rfl) (Nat.ne_of_beq_eq_false rfl) (Nat.le_of_ble_eq_true rfl) (by omega) ?_
          refine ep_val (b := nI (E (s ^^^ 2 ^ k))) (h44 _ hsk) ?_
          refine ep_ifP t92_169 (ic_ge (by omega) (by omega)) (fun (c169 : (E (s ^^^ 2 ^ k)) ≤ 99999) => ?_) (fun (c169 : ¬ ((E (s ^^^ 2 ^ k)) ≤ 99999)) => ?_)
          · refine ep_aln t92_177 rfl ?_
            refine ep_getr (q := 44) t92_178 rfl (Nat.le_of_ble_eq_true rfl) rfl (rfl) ?_
            refine ep_iln t92_181 rfl ?_
            refine ep_k1 (w := nI 1) t92_182 rfl ?_
            refine ep_il t92_183 rfl ?_
            refine ep_oneN (b := k) t92_185 (by omega) ?_
            refine ep_xorN (a := s) (b := 2 ^ k) t92_186 ?_
            refine ep_aldN t92_187 rfl (Nat.le_of_ble_eq_true rfl) (Nat.ne_of_beq_eq_false rfl) (Nat.le_of_ble_eq_true rfl) (by omega) ?_
            refine ep_val (b := nI (E (s ^^^ 2 ^ k))) (h44 _ hsk) ?_
            refine ep_astN t92_188 rfl (Nat.le_of_ble_eq_true rfl) (Nat.le_of_ble_eq_true rfl) (by omega) ?_
            refine ep_lv (L' := [some (.ref 31), o1, some (.int (bI true)), some (.int (nI s)), some (.int (nI k)), some (.int (nI 99999))]) rfl ?_
            refine ep_inc (b := nI (k + 1)) (L' := [some (.ref 31), o1, some (.int (bI true)), some (.int (nI s)), some (.int (nI (k + 1))), some (.int (nI 99999))]) t92_189 rfl (nI_add k 1) rfl (Nat.le_of_ble_eq_true rfl) ?_
            refine ep_gt t92_192 ?_
            refine L_rd4 hT hw ep2 hpr hla hs K d (k + 1) _ E true _ (by omega) (fun r hr => (g_up_ne hr).trans (h1 r hr)) (fun t ht => ?_) mi (fun hb => ?_) (fun hb => ?_) (by omega)
            · by_cases e : t = s ^^^ 2 ^ k
              · subst e; rw [g_up_eq]
              · rw [g_up_j e]; exact h44 t ht
            · exact absurd hb (by decide)
            · first
              | exact hbt c121
              | (exfalso; omega)
          · refine ep_il t92_172 rfl ?_
            refine ep_gt t92_174 ?_
            refine ep_astN t92_188 rfl (Nat.le_of_ble_eq_true rfl) (Nat.le_of_ble_eq_true rfl) (by omega) ?_
            exact absurd (mi _ hsk).1 (by omega)
        · refine ep_il t92_124 rfl ?_
          refine ep_aln t92_126 rfl ?_
          refine ep_getr (q := 44) t92_127 rfl (Nat.le_of_ble_eq_true rfl) rfl (rfl) ?_
          refine ep_iln t92_130 rfl ?_
          refine ep_k1 (w := nI 1) t92_131 rfl ?_
          refine ep_il t92_132 rfl ?_
          refine ep_oneN (b := k) t92_134 (by omega) ?_
          refine ep_xorN (a := s) (b := 2 ^ k) t92_135 ?_
          refine ep_aldN t92_136 rfl (Nat.le_of_ble_eq_true rfl) (Nat.ne_of_beq_eq_false rfl) (Nat.le_of_ble_eq_true rfl) (by omega) ?_
          refine ep_val (b := nI (E (s ^^^ 2 ^ k))) (h44 _ hsk) ?_
          refine ep_ifP t92_137 (ic_ge (by omega) (by omega)) (fun (c137 : (E (s ^^^ 2 ^ k)) ≤ 99999) => ?_) (fun (c137 : ¬ ((E (s ^^^ 2 ^ k)) ≤ 99999)) => ?_)
          · refine ep_k1 (w := nI 0) t92_144 rfl ?_
            refine ep_isn (L' := [some (.ref 31), o1, some (.int (nI 0)), some (.int (nI s)), some (.int (nI k)), some (.int (nI 99999))]) t92_145 rfl (Nat.le_of_ble_eq_true rfl) ?_
            refine ep_aln t92_146 rfl ?_
            refine ep_getr (q := 44) t92_147 rfl (Nat.le_of_ble_eq_true rfl) rfl (rfl) ?_
            refine ep_iln t92_150 rfl ?_
            refine ep_k1 (w := nI 1) t92_151 rfl ?_
            refine ep_il t92_152 rfl ?_
            refine ep_oneN (b := k) t92_154 (by omega) ?_
            refine ep_xorN (a := s) (b := 2 ^ k) t92_155 ?_
            refine ep_il t92_156 rfl ?_
            refine ep_aln t92_158 rfl ?_
            refine ep_getr (q := 44) t92_159 rfl (Nat.le_of_ble_eq_true rfl) rfl (rfl) ?_
            refine ep_iln t92_162 rfl ?_
            refine ep_k1 (w := nI 1) t92_163 rfl ?_
            refine ep_il t92_164 rfl ?_
            refine ep_oneN (b := k) t92_166 (by omega) ?_
            refine ep_xorN (a := s) (b := 2 ^ k) t92_167 ?_
            refine ep_aldN t92_168 rfl (Nat.le_of_ble_eq_true rfl) (Nat.ne_of_beq_eq_false rfl) (Nat.le_of_ble_eq_true rfl) (by omega) ?_
            refine ep_val (b := nI (E (s ^^^ 2 ^ k))) (h44 _ hsk) ?_
            refine ep_ifP t92_169 (ic_ge (by omega) (by omega)) (fun (c169 : (E (s ^^^ 2 ^ k)) ≤ 99999) => ?_) (fun (c169 : ¬ ((E (s ^^^ 2 ^ k)) ≤ 99999)) => ?_)
            · refine ep_aln t92_177 rfl ?_
              refine ep_getr (q := 44) t92_178 rfl (Nat.le_of_ble_eq_true rfl) rfl (rfl) ?_
              refine ep_iln t92_181 rfl ?_
              refine ep_k1 (w := nI 1) t92_182 rfl ?_
              refine ep_il t92_183 rfl ?_
              refine ep_oneN (b := k) t92_185 (by omega) ?_
              refine ep_xorN (a := s) (b := 2 ^ k) t92_186 ?_
              refine ep_aldN t92_187 rfl (Nat.le_of_ble_eq_true rfl) (Nat.ne_of_beq_eq_false rfl) (Nat.le_of_ble_eq_true rfl) (by omega) ?_
              refine ep_val (b := nI (E (s ^^^ 2 ^ k))) (h44 _ hsk) ?_
              refine ep_astN t92_188 rfl (Nat.le_of_ble_eq_true rfl) (Nat.le_of_ble_eq_true rfl) (by omega) ?_
              refine ep_lv (L' := [some (.ref 31), o1, some (.int (bI false)), some (.int (nI s)), some (.int (nI k)), some (.int (nI 99999))]) rfl ?_
              refine ep_inc (b := nI (k + 1)) (L' := [some (.ref 31), o1, some (.int (bI false)), some (.int (nI s)), some (.int (nI (k + 1))), some (.int (nI 99999))]) t92_189 rfl (nI_add k 1) rfl (Nat.le_of_ble_eq_true rfl) ?_
              refine ep_gt t92_192 ?_
              refine L_rd4 hT hw ep2 hpr hla hs K d (k + 1) _ E false _ (by omega) (fun r hr => (g_up_ne hr).trans (h1 r hr)) (fun t ht => ?_) mi (fun hb => ?_) (fun hb => ?_) (by omega)
              · by_cases e : t = s ^^^ 2 ^ k
                · subst e; rw [g_up_eq]
                · rw [g_up_j e]; exact h44 t ht
              · refine RY_next (hrx c121) (fun hf hq => ?_)
                first
                | omega
                | exact absurd hq.2 (of_decide_eq_false c97)
              · exact absurd hb (by decide)
            · refine ep_il t92_172 rfl ?_
              refine ep_gt t92_174 ?_
              refine ep_astN t92_188 rfl (Nat.le_of_ble_eq_true rfl) (Nat.le_of_ble_eq_true rfl) (by omega) ?_
              exact absurd (mi _ hsk).1 (by omega)
          · refine ep_k1 (w := nI 1) t92_140 rfl ?_
            refine ep_gt t92_141 ?_
            refine ep_isn (L' := [some (.ref 31), o1, some (.int (nI 1)), some (.int (nI s)), some (.int (nI k)), some (.int (nI 99999))]) t92_145 rfl (Nat.le_of_ble_eq_true rfl) ?_
            refine ep_aln t92_146 rfl ?_
            refine ep_getr (q := 44) t92_147 rfl (Nat.le_of_ble_eq_true rfl) rfl (rfl) ?_
            refine ep_iln t92_150 rfl ?_
            refine ep_k1 (w := nI 1) t92_151 rfl ?_
            refine ep_il t92_152 rfl ?_
            refine ep_oneN (b := k) t92_154 (by omega) ?_
            refine ep_xorN (a := s) (b := 2 ^ k) t92_155 ?_
            refine ep_il t92_156 rfl ?_
            refine ep_aln t92_158 rfl ?_
            refine ep_getr (q := 44) t92_159 rfl (Nat.le_of_ble_eq_true rfl) rfl (rfl) ?_
            refine ep_iln t92_162 rfl ?_
            refine ep_k1 (w := nI 1) t92_163 rfl ?_
            refine ep_il t92_164 rfl ?_
            refine ep_oneN (b := k) t92_166 (by omega) ?_
            refine ep_xorN (a := s) (b := 2 ^ k) t92_167 ?_
            refine ep_aldN t92_168 rfl (Nat.le_of_ble_eq_true rfl) (Nat.ne_of_beq_eq_false rfl) (Nat.le_of_ble_eq_true rfl) (by omega) ?_
            refine ep_val (b := nI (E (s ^^^ 2 ^ k))) (h44 _ hsk) ?_
            refine ep_ifP t92_169 (ic_ge (by omega) (by omega)) (fun (c169 : (E (s ^^^ 2 ^ k)) ≤ 99999) => ?_) (fun (c169 : ¬ ((E (s ^^^ 2 ^ k)) ≤ 99999)) => ?_)
            · refine ep_aln t92_177 rfl ?_
              refine ep_getr (q := 44) t92_178 rfl (Nat.le_of_ble_eq_true rfl) rfl (rfl) ?_
              refine ep_iln t92_181 rfl ?_
              refine ep_k1 (w := nI 1) t92_182 rfl ?_
              refine ep_il t92_183 rfl ?_
              refine ep_oneN (b := k) t92_185 (by omega) ?_
              refine ep_xorN (a := s) (b := 2 ^ k) t92_186 ?_
              refine ep_aldN t92_187 rfl (Nat.le_of_ble_eq_true rfl) (Nat.ne_of_beq_eq_false rfl) (Nat.le_of_ble_eq_true rfl) (by omega) ?_
              refine ep_val (b := nI (E (s ^^^ 2 ^ k))) (h44 _ hsk) ?_
              refine ep_astN t92_188 rfl (Nat.le_of_ble_eq_true rfl) (Nat.le_of_ble_eq_true rfl) (by omega) ?_
              refine ep_lv (L' := [some (.ref 31), o1, some (.int (bI true)), some (.int (nI s)), some (.int (nI k)), some (.int (nI 99999))]) rfl ?_
              refine ep_inc (b := nI (k + 1)) (L' := [some (.ref 31), o1, some (.int (bI true)), some (.int (nI s)), some (.int (nI (k + 1))), some (.int (nI 99999))]) t92_189 rfl (nI_add k 1) rfl (Nat.le_of_ble_eq_true rfl) ?_
              refine ep_gt t92_192 ?_
              refine L_rd4 hT hw ep2 hpr hla hs K d (k + 1) _ E true _ (by omega) (fun r hr => (g_up_ne hr).trans (h1 r hr)) (fun t ht => ?_) mi (fun hb => ?_) (fun hb => ?_) (by omega)
              · by_cases e : t = s ^^^ 2 ^ k
                · subst e; rw [g_up_eq]
                · rw [g_up_j e]; exact h44 t ht
              · exact absurd hb (by decide)
              · first
                | exact hbt c121
                | (exfalso; omega)
            · refine ep_il t92_172 rfl ?_
              refine ep_gt t92_174 ?_
              refine ep_astN t92_188 rfl (Nat.le_of_ble_eq_true rfl) (Nat.le_of_ble_eq_true rfl) (by omega) ?_
              exact absurd (mi _ hsk).1 (by omega)
      · refine ep_aln t92_100 rfl ?_
        refine ep_getr (q := 44) t92_101 rfl (Nat.le_of_ble_eq_true rfl) rfl (rfl) ?_
        refine ep_iln t92_104 rfl ?_
        refine ep_aldN t92_105 rfl (Nat.le_of_ble_eq_true rfl) (Nat.ne_of_beq_eq_false rfl) (Nat.le_of_ble_eq_true rfl) (by omega) ?_
        refine ep_val (b := nI (E s)) (h44 s hs) ?_
        refine ep_aln t92_106 rfl ?_
        refine ep_il t92_107 rfl ?_
        refine ep_cv t92_109 rfl rfl (Nat.le_of_ble_eq_true rfl) (Nat.le_of_ble_eq_true rfl) (cl_M_priceOf (T := T) (pr := pr) (by rw [h1 33 (by decide)]; exact hT) hw (fun i hi => (congrFun (h1 36 (by decide)) _).trans (ep2 i hi)) hk3) ?_
        refine ep_addN (a := E s) (b := pcs T pr k) t92_112 ?_
        refine ep_gt t92_113 ?_
        refine ep_is (L' := [some (.ref 31), o1, some (.int (bI b)), some (.int (nI s)), some (.int (nI k)), some (.int (nI ((E s) + (pcs T pr k))))]) t92_118 rfl (Nat.le_of_ble_eq_true rfl) ?_
        refine ep_iln t92_120 rfl ?_
        refine ep_bT t92_121 (fun (c121 : b = true) => ?_) (fun (c121 : b = false) => ?_)
        · refine ep_k1 (w := nI 1) t92_140 rfl ?_
          refine ep_gt t92_141 ?_
          refine ep_isn (L' := [some (.ref 31), o1, some (.int (nI 1)), some (.int (nI s)), some (.int (nI k)), some (.int (nI ((E s) + (pcs T pr k))))]) t92_145 rfl (Nat.le_of_ble_eq_true rfl) ?_
          refine ep_aln t92_146 rfl ?_
          refine ep_getr (q := 44) t92_147 rfl (Nat.le_of_ble_eq_true rfl) rfl (rfl) ?_
          refine ep_iln t92_150 rfl ?_
          refine ep_k1 (w := nI 1) t92_151 rfl ?_
          refine ep_il t92_152 rfl ?_
          refine ep_oneN (b := k) t92_154 (by omega) ?_
          refine ep_xorN (a := s) (b := 2 ^ k) t92_155 ?_
          refine ep_il t92_156 rfl ?_
          refine ep_aln t92_158 rfl ?_
          refine ep_getr (q := 44) t92_159 rfl (Nat.le_of_ble_eq_true rfl) rfl (rfl) ?_
          refine ep_iln t92_162 rfl ?_
          refine ep_k1 (w := nI 1) t92_163 rfl ?_
          refine ep_il t92_164 rfl ?_
          refine ep_oneN (b := k) t92_166 (by omega) ?_
          refine ep_xorN (a := s) (b := 2 ^ k) t92_167 ?_
          refine ep_aldN t92_168 rfl (Nat.le_of_ble_eq_true rfl) (Nat.ne_of_beq_eq_false rfl) (Nat.le_of_ble_eq_true rfl) (by omega) ?_
          refine ep_val (b := nI (E (s ^^^ 2 ^ k))) (h44 _ hsk) ?_
          refine ep_ifP t92_169 (ic_ge (by omega) (by omega)) (fun (c169 : (E (s ^^^ 2 ^ k)) ≤ ((E s) + (pcs T pr k))) => ?_) (fun (c169 : ¬ ((E (s ^^^ 2 ^ k)) ≤ ((E s) + (pcs T pr k)))) => ?_)
          · refine ep_aln t92_177 rfl ?_
            refine ep_getr (q := 44) t92_178 rfl (Nat.le_of_ble_eq_true rfl) rfl (rfl) ?_
            refine ep_iln t92_181 rfl ?_
            refine ep_k1 (w := nI 1) t92_182 rfl ?_
            refine ep_il t92_183 rfl ?_
            refine ep_oneN (b := k) t92_185 (by omega) ?_
            refine ep_xorN (a := s) (b := 2 ^ k) t92_186 ?_
            refine ep_aldN t92_187 rfl (Nat.le_of_ble_eq_true rfl) (Nat.ne_of_beq_eq_false rfl) (Nat.le_of_ble_eq_true rfl) (by omega) ?_
            refine ep_val (b := nI (E (s ^^^ 2 ^ k))) (h44 _ hsk) ?_
            refine ep_astN t92_188 rfl (Nat.le_of_ble_eq_true rfl) (Nat.le_of_ble_eq_true rfl) (by omega) ?_
            refine ep_lv (L' := [some (.ref 31), o1, some (.int (bI true)), some (.int (nI s)), some (.int (nI k)), some (.int (nI ((E s) + (pcs T pr k))))]) rfl ?_
            refine ep_inc (b := nI (k + 1)) (L' := [some (.ref 31), o1, some (.int (bI true)), some (.int (nI s)), some (.int (nI (k + 1))), some (.int (nI ((E s) + (pcs T pr k))))]) t92_189 rfl (nI_add k 1) rfl (Nat.le_of_ble_eq_true rfl) ?_
            refine ep_gt t92_192 ?_
            refine L_rd4 hT hw ep2 hpr hla hs K d (k + 1) _ E true _ (by omega) (fun r hr => (g_up_ne hr).trans (h1 r hr)) (fun t ht => ?_) mi (fun hb => ?_) (fun hb => ?_) (by omega)
            · by_cases e : t = s ^^^ 2 ^ k
              · subst e; rw [g_up_eq]
              · rw [g_up_j e]; exact h44 t ht
            · exact absurd hb (by decide)
            · first
              | exact hbt c121
              | (exfalso; omega)
          · refine ep_il t92_172 rfl ?_
            refine ep_gt t92_174 ?_
            refine ep_astN t92_188 rfl (Nat.le_of_ble_eq_true rfl) (Nat.le_of_ble_eq_true rfl) (by omega) ?_
            refine ep_lv (L' := [some (.ref 31), o1, some (.int (bI true)), some (.int (nI s)), some (.int (nI k)), some (.int (nI ((E s) + (pcs T pr k))))]) rfl ?_
            have hok : lw T l s k := ⟨hk3, of_decide_eq_true c97⟩
            have hlt : E s + pcs T pr k < E (s ^^^ 2 ^ k) := by omega
            have hsm := sm_in (E := E) (s := s ^^^ 2 ^ k) (v := E s + pcs T pr k) (2 ^ T 3) hsk
            refine ep_inc (b := nI (k + 1)) (L' := [some (.ref 31), o1, some (.int (bI true)), some (.int (nI s)), some (.int (nI (k + 1))), some (.int (nI ((E s) + (pcs T pr k))))]) t92_189 rfl (nI_add k 1) rfl (Nat.le_of_ble_eq_true rfl) ?_
            refine ep_gt t92_192 ?_
            refine L_rd4 hT hw ep2 hpr hla hs K d (k + 1) _ (updN E (s ^^^ 2 ^ k) (E s + pcs T pr k)) true _ (by omega) (fun r hr => (g_up_ne hr).trans (h1 r hr)) (fun t ht => ?_) (mi.upd lw_N (lw_p hw hpr) lw_sd lw_sy hs hok (by omega) hlt) (fun hb => ?_) (fun hb => ?_) (by omega)
            · by_cases e : t = s ^^^ 2 ^ k
              · subst e; rw [g_up_eq, updN_eq]
              · rw [g_up_j e, updN_ne e]; exact h44 t ht
            · exact absurd hb (by decide)
            · omega
        · refine ep_il t92_124 rfl ?_
          refine ep_aln t92_126 rfl ?_
          refine ep_getr (q := 44) t92_127 rfl (Nat.le_of_ble_eq_true rfl) rfl (rfl) ?_
          refine ep_iln t92_130 rfl ?_
          refine ep_k1 (w := nI 1) t92_131 rfl ?_
          refine ep_il t92_132 rfl ?_
          refine ep_oneN (b := k) t92_134 (by omega) ?_
          refine ep_xorN (a := s) (b := 2 ^ k) t92_135 ?_
          refine ep_aldN t92_136 rfl (Nat.le_of_ble_eq_true rfl) (Nat.ne_of_beq_eq_false rfl) (Nat.le_of_ble_eq_true rfl) (by omega) ?_
          refine ep_val (b := nI (E (s ^^^ 2 ^ k))) (h44 _ hsk) ?_
          refine ep_ifP t92_137 (ic_ge (by omega) (by omega)) (fun (c137 : (E (s ^^^ 2 ^ k)) ≤ ((E s) + (pcs T pr k))) => ?_) (fun (c137 : ¬ ((E (s ^^^ 2 ^ k)) ≤ ((E s) + (pcs T pr k)))) => ?_)
          · refine ep_k1 (w := nI 0) t92_144 rfl ?_
            refine ep_isn (L' := [some (.ref 31), o1, some (.int (nI 0)), some (.int (nI s)), some (.int (nI k)), some (.int (nI ((E s) + (pcs T pr k))))]) t92_145 rfl (Nat.le_of_ble_eq_true rfl) ?_
            refine ep_aln t92_146 rfl ?_
            refine ep_getr (q := 44) t92_147 rfl (Nat.le_of_ble_eq_true rfl) rfl (rfl) ?_
            refine ep_iln t92_150 rfl ?_
            refine ep_k1 (w := nI 1) t92_151 rfl ?_
            refine ep_il t92_152 rfl ?_
            refine ep_oneN (b := k) t92_154 (by omega) ?_
            refine ep_xorN (a := s) (b := 2 ^ k) t92_155 ?_
            refine ep_il t92_156 rfl ?_
            refine ep_aln t92_158 rfl ?_
            refine ep_getr (q := 44) t92_159 rfl (Nat.le_of_ble_eq_true rfl) rfl (rfl) ?_
            refine ep_iln t92_162 rfl ?_
            refine ep_k1 (w := nI 1) t92_163 rfl ?_
            refine ep_il t92_164 rfl ?_
            refine ep_oneN (b := k) t92_166 (by omega) ?_
            refine ep_xorN (a := s) (b := 2 ^ k) t92_167 ?_
            refine ep_aldN t92_168 rfl (Nat.le_of_ble_eq_true rfl) (Nat.ne_of_beq_eq_false rfl) (Nat.le_of_ble_eq_true rfl) (by omega) ?_
            refine ep_val (b := nI (E (s ^^^ 2 ^ k))) (h44 _ hsk) ?_
            refine ep_ifP t92_169 (ic_ge (by omega) (by omega)) (fun (c169 : (E (s ^^^ 2 ^ k)) ≤ ((E s) + (pcs T pr k))) => ?_) (fun (c169 : ¬ ((E (s ^^^ 2 ^ k)) ≤ ((E s) + (pcs T pr k)))) => ?_)
            · refine ep_aln t92_177 rfl ?_
              refine ep_getr (q := 44) t92_178 rfl (Nat.le_of_ble_eq_true rfl) rfl (rfl) ?_
              refine ep_iln t92_181 rfl ?_
              refine ep_k1 (w := nI 1) t92_182 rfl ?_
              refine ep_il t92_183 rfl ?_
              refine ep_oneN (b := k) t92_185 (by omega) ?_
              refine ep_xorN (a := s) (b := 2 ^ k) t92_186 ?_
              refine ep_aldN t92_187 rfl (Nat.le_of_ble_eq_true rfl) (Nat.ne_of_beq_eq_false rfl) (Nat.le_of_ble_eq_true rfl) (by omega) ?_
              refine ep_val (b := nI (E (s ^^^ 2 ^ k))) (h44 _ hsk) ?_
              refine ep_astN t92_188 rfl (Nat.le_of_ble_eq_true rfl) (Nat.le_of_ble_eq_true rfl) (by omega) ?_
              refine ep_lv (L' := [some (.ref 31), o1, some (.int (bI false)), some (.int (nI s)), some (.int (nI k)), some (.int (nI ((E s) + (pcs T pr k))))]) rfl ?_
              refine ep_inc (b := nI (k + 1)) (L' := [some (.ref 31), o1, some (.int (bI false)), some (.int (nI s)), some (.int (nI (k + 1))), some (.int (nI ((E s) + (pcs T pr k))))]) t92_189 rfl (nI_add k 1) rfl (Nat.le_of_ble_eq_true rfl) ?_
              refine ep_gt t92_192 ?_
              refine L_rd4 hT hw ep2 hpr hla hs K d (k + 1) _ E false _ (by omega) (fun r hr => (g_up_ne hr).trans (h1 r hr)) (fun t ht => ?_) mi (fun hb => ?_) (fun hb => ?_) (by omega)
              · by_cases e : t = s ^^^ 2 ^ k
                · subst e; rw [g_up_eq]
                · rw [g_up_j e]; exact h44 t ht
              · refine RY_next (hrx c121) (fun hf hq => ?_)
                first
                | omega
                | exact absurd hq.2 (of_decide_eq_false c97)
              · exact absurd hb (by decide)
            · refine ep_il t92_172 rfl ?_
              refine ep_gt t92_174 ?_
              refine ep_astN t92_188 rfl (Nat.le_of_ble_eq_true rfl) (Nat.le_of_ble_eq_true rfl) (by omega) ?_
              refine ep_lv (L' := [some (.ref 31), o1, some (.int (bI false)), some (.int (nI s)), some (.int (nI k)), some (.int (nI ((E s) + (pcs T pr k))))]) rfl ?_
              have hok : lw T l s k := ⟨hk3, of_decide_eq_true c97⟩
              have hlt : E s + pcs T pr k < E (s ^^^ 2 ^ k) := by omega
              have hsm := sm_in (E := E) (s := s ^^^ 2 ^ k) (v := E s + pcs T pr k) (2 ^ T 3) hsk
              refine ep_inc (b := nI (k + 1)) (L' := [some (.ref 31), o1, some (.int (bI false)), some (.int (nI s)), some (.int (nI (k + 1))), some (.int (nI ((E s) + (pcs T pr k))))]) t92_189 rfl (nI_add k 1) rfl (Nat.le_of_ble_eq_true rfl) ?_
              refine ep_gt t92_192 ?_
              refine L_rd4 hT hw ep2 hpr hla hs K d (k + 1) _ (updN E (s ^^^ 2 ^ k) (E s + pcs T pr k)) false _ (by omega) (fun r hr => (g_up_ne hr).trans (h1 r hr)) (fun t ht => ?_) (mi.upd lw_N (lw_p hw hpr) lw_sd lw_sy hs hok (by omega) hlt) (fun hb => ?_) (fun hb => ?_) (by omega)
              · by_cases e : t = s ^^^ 2 ^ k
                · subst e; rw [g_up_eq, updN_eq]
                · rw [g_up_j e, updN_ne e]; exact h44 t ht
              · exact absurd hlt (by omega)
              · omega
          · refine ep_k1 (w := nI 1) t92_140 rfl ?_
            refine ep_gt t92_141 ?_
            refine ep_isn (L' := [some (.ref 31), o1, some (.int (nI 1)), some (.int (nI s)), some (.int (nI k)), some (.int (nI ((E s) + (pcs T pr k))))]) t92_145 rfl (Nat.le_of_ble_eq_true rfl) ?_
            refine ep_aln t92_146 rfl ?_
            refine ep_getr (q := 44) t92_147 rfl (Nat.le_of_ble_eq_true rfl) rfl (rfl) ?_
            refine ep_iln t92_150 rfl ?_
            refine ep_k1 (w := nI 1) t92_151 rfl ?_
            refine ep_il t92_152 rfl ?_
            refine ep_oneN (b := k) t92_154 (by omega) ?_
            refine ep_xorN (a := s) (b := 2 ^ k) t92_155 ?_
            refine ep_il t92_156 rfl ?_
            refine ep_aln t92_158 rfl ?_
            refine ep_getr (q := 44) t92_159 rfl (Nat.le_of_ble_eq_true rfl) rfl (rfl) ?_
            refine ep_iln t92_162 rfl ?_
            refine ep_k1 (w := nI 1) t92_163 rfl ?_
            refine ep_il t92_164 rfl ?_
            refine ep_oneN (b := k) t92_166 (by omega) ?_
            refine ep_xorN (a := s) (b := 2 ^ k) t92_167 ?_
            refine ep_aldN t92_168 rfl (Nat.le_of_ble_eq_true rfl) (Nat.ne_of_beq_eq_false rfl) (Nat.le_of_ble_eq_true rfl) (by omega) ?_
            refine ep_val (b := nI (E (s ^^^ 2 ^ k))) (h44 _ hsk) ?_
            refine ep_ifP t92_169 (ic_ge (by omega) (by omega)) (fun (c169 : (E (s ^^^ 2 ^ k)) ≤ ((E s) + (pcs T pr k))) => ?_) (fun (c169 : ¬ ((E (s ^^^ 2 ^ k)) ≤ ((E s) + (pcs T pr k)))) => ?_)
            · refine ep_aln t92_177 rfl ?_
              refine ep_getr (q := 44) t92_178 rfl (Nat.le_of_ble_eq_true rfl) rfl (rfl) ?_
              refine ep_iln t92_181 rfl ?_
              refine ep_k1 (w := nI 1) t92_182 rfl ?_
              refine ep_il t92_183 rfl ?_
              refine ep_oneN (b := k) t92_185 (by omega) ?_
              refine ep_xorN (a := s) (b := 2 ^ k) t92_186 ?_
              refine ep_aldN t92_187 rfl (Nat.le_of_ble_eq_true rfl) (Nat.ne_of_beq_eq_false rfl) (Nat.le_of_ble_eq_true rfl) (by omega) ?_
              refine ep_val (b := nI (E (s ^^^ 2 ^ k))) (h44 _ hsk) ?_
              refine ep_astN t92_188 rfl (Nat.le_of_ble_eq_true rfl) (Nat.le_of_ble_eq_true rfl) (by omega) ?_
              refine ep_lv (L' := [some (.ref 31), o1, some (.int (bI true)), some (.int (nI s)), some (.int (nI k)), some (.int (nI ((E s) + (pcs T pr k))))]) rfl ?_
              refine ep_inc (b := nI (k + 1)) (L' := [some (.ref 31), o1, some (.int (bI true)), some (.int (nI s)), some (.int (nI (k + 1))), some (.int (nI ((E s) + (pcs T pr k))))]) t92_189 rfl (nI_add k 1) rfl (Nat.le_of_ble_eq_true rfl) ?_
              refine ep_gt t92_192 ?_
              refine L_rd4 hT hw ep2 hpr hla hs K d (k + 1) _ E true _ (by omega) (fun r hr => (g_up_ne hr).trans (h1 r hr)) (fun t ht => ?_) mi (fun hb => ?_) (fun hb => ?_) (by omega)
              · by_cases e : t = s ^^^ 2 ^ k
                · subst e; rw [g_up_eq]
                · rw [g_up_j e]; exact h44 t ht
              · exact absurd hb (by decide)
              · first
                | exact hbt c121
                | (exfalso; omega)
            · refine ep_il t92_172 rfl ?_
              refine ep_gt t92_174 ?_
              refine ep_astN t92_188 rfl (Nat.le_of_ble_eq_true rfl) (Nat.le_of_ble_eq_true rfl) (by omega) ?_
              refine ep_lv (L' := [some (.ref 31), o1, some (.int (bI true)), some (.int (nI s)), some (.int (nI k)), some (.int (nI ((E s) + (pcs T pr k))))]) rfl ?_
              have hok : lw T l s k := ⟨hk3, of_decide_eq_true c97⟩
              have hlt : E s + pcs T pr k < E (s ^^^ 2 ^ k) := by omega
              have hsm := sm_in (E := E) (s := s ^^^ 2 ^ k) (v := E s + pcs T pr k) (2 ^ T 3) hsk
              refine ep_inc (b := nI (k + 1)) (L' := [some (.ref 31), o1, some (.int (bI true)), some (.int (nI s)), some (.int (nI (k + 1))), some (.int (nI ((E s) + (pcs T pr k))))]) t92_189 rfl (nI_add k 1) rfl (Nat.le_of_ble_eq_true rfl) ?_
              refine ep_gt t92_192 ?_
              refine L_rd4 hT hw ep2 hpr hla hs K d (k + 1) _ (updN E (s ^^^ 2 ^ k) (E s + pcs T pr k)) true _ (by omega) (fun r hr => (g_up_ne hr).trans (h1 r hr)) (fun t ht => ?_) (mi.upd lw_N (lw_p hw hpr) lw_sd lw_sy hs hok (by omega) hlt) (fun hb => ?_) (fun hb => ?_) (by omega)
              · by_cases e : t = s ^^^ 2 ^ k
                · subst e; rw [g_up_eq, updN_eq]
                · rw [g_up_j e, updN_ne e]; exact h44 t ht
              · exact absurd hb (by decide)
              · omega
theorem L_rd3 {X : gX} {S0 : Nat} {P : Option Value → gS → Prop} {q : Bool} {σ : gT1} {T pr : Nat → Nat} {l : Nat} {W : Nat → Prop} {o1 : Option Value} (hT : ToldM (σ 33) T) (hw : WF0 T) (ep2 : ∀ i, i < 3 → σ 36 (2 + i) = nI (pr i)) (hpr : ∀ i, i < 3 → 1 ≤ pr i ∧ pr i ≤ 9) (hla : LAWS σ T l) (K : ∀ (σ' : gT1) (E : Nat → Nat) (b : Bool) (o3 o4 o5 : Option Value), (∀ r, r ≠ 44 → σ' r = σ r) → (∀ t, t < 2 ^ T 3 → σ' 44 t = nI (E t)) → NI (lw T l) (pcs T pr) W (sound T) (2 ^ T 3) E → (b = false → RY T pr l E (2 ^ T 3) 0) → (b = true → sm E (2 ^ T 3) < S0) → EvP X 92 44 [some (.ref 31), o1, some (.int (bI b)), o3, o4, o5] [] (47, g_rho q, σ') P) : ∀ (d s : Nat) (σ' : gT1) (E : Nat → Nat) (b : Bool) (o4 o5 : Option Value), s + d = 2 ^ T 3 → (∀ r, r ≠ 44 → σ' r = σ r) → (∀ t, t < 2 ^ T 3 → σ' 44 t = nI (E t)) → NI (lw T l) (pcs T pr) W (sound T) (2 ^ T 3) E → (b = false → RY T pr l E s 0) → (b = true → sm E (2 ^ T 3) < S0) → sm E (2 ^ T 3) ≤ S0 → EvP X 92 52 [some (.ref 31), o1, some (.int (bI b)), some (.int (nI s)), o4, o5] [] (47, g_rho q, σ') P
  | 0, s, σ', E, b, o4, o5, hk, h1, h44, mi, hrx, hbt, hle => by
    obtain rfl : s = 2 ^ T 3 := by omega
    refine ep_iln t92_52 rfl ?_
    refine ep_aln t92_53 rfl ?_
    refine ep_cv t92_54 rfl rfl (Nat.le_of_ble_eq_true rfl) (Nat.le_of_ble_eq_true rfl) (cl_M_states (T := T) ((congrFun (h1 33 (by decide)) 3).trans (hT.1 3 (by decide))) hw.2.1) ?_
    refine ep_ifP t92_57 (ic_ge (by have := pow_le_256 hw.2.1; omega) (by have := pow_le_256 hw.2.1; omega)) (fun (c57 : (2 ^ T 3) ≤ (2 ^ T 3)) => ?_) (fun (c57 : ¬ ((2 ^ T 3) ≤ (2 ^ T 3))) => (by exact absurd (Nat.le_refl _) c57))
    refine ep_gt t92_201 ?_
    exact K σ' E b _ _ _ h1 h44 mi hrx hbt
  | d + 1, s, σ', E, b, o4, o5, hk, h1, h44, mi, hrx, hbt, hle => by
    refine ep_iln t92_52 rfl ?_
    refine ep_aln t92_53 rfl ?_
    refine ep_cv t92_54 rfl rfl (Nat.le_of_ble_eq_true rfl) (Nat.le_of_ble_eq_true rfl) (cl_M_states (T := T) ((congrFun (h1 33 (by decide)) 3).trans (hT.1 3 (by decide))) hw.2.1) ?_
    refine ep_ifP t92_57 (ic_ge (by have := pow_le_256 hw.2.1; omega) (by have := pow_le_256 hw.2.1; omega)) (fun (c57 : (2 ^ T 3) ≤ s) => (by omega)) (fun (c57 : ¬ ((2 ^ T 3) ≤ s)) => ?_)
    refine ep_k1 (w := nI 0) t92_60 rfl ?_
    refine ep_is (L' := [some (.ref 31), o1, some (.int (bI b)), some (.int (nI s)), some (.int (nI 0)), o5]) t92_61 rfl (Nat.le_of_ble_eq_true rfl) ?_
    refine L_rd4 hT hw ep2 hpr hla (by omega) (fun σ2 E2 b2 o9 g1 g2 g3 g4 g5 g6 => ?_) (T 3) 0 σ' E b _ (by omega) h1 h44 mi hrx hbt hle
    refine ep_inc (b := nI (s + 1)) (L' := [some (.ref 31), o1, some (.int (bI b2)), some (.int (nI (s + 1))), some (.int (nI (T 3))), o9]) t92_195 rfl (nI_add s 1) rfl (Nat.le_of_ble_eq_true rfl) ?_
    refine ep_gt t92_198 ?_
    exact L_rd3 hT hw ep2 hpr hla K d (s + 1) σ2 E2 b2 _ _ (by omega) g1 g2 g3 g4 g5 g6
theorem L_rd2 {X : gX} {P : Option Value → gS → Prop} {q : Bool} {σ : gT1} {T pr : Nat → Nat} {l : Nat} {W : Nat → Prop} {o1 : Option Value} (hT : ToldM (σ 33) T) (hw : WF0 T) (ep2 : ∀ i, i < 3 → σ 36 (2 + i) = nI (pr i)) (hpr : ∀ i, i < 3 → 1 ≤ pr i ∧ pr i ≤ 9) (hla : LAWS σ T l) (K : ∀ (σ' : gT1) (b : Bool) (o3 o4 o5 : Option Value), (∀ r, r ≠ 44 → σ' r = σ r) → (∀ s, s < 2 ^ T 3 → σ' 44 s = nI (fI (dS (lw T l) (pcs T pr) W (sound T) s))) → EvP X 92 204 [some (.ref 31), o1, some (.int (bI b)), o3, o4, o5] [] (47, g_rho q, σ') P) : ∀ (d : Nat) (σ' : gT1) (E : Nat → Nat) (b : Bool) (o3 o4 o5 : Option Value), (∀ r, r ≠ 44 → σ' r = σ r) → (∀ t, t < 2 ^ T 3 → σ' 44 t = nI (E t)) → NI (lw T l) (pcs T pr) W (sound T) (2 ^ T 3) E → (b = false → RY T pr l E (2 ^ T 3) 0) → (b = true → sm E (2 ^ T 3) < d) → EvP X 92 44 [some (.ref 31), o1, some (.int (bI b)), o3, o4, o5] [] (47, g_rho q, σ') P
  | 0, σ', E, b, o3, o4, o5, h1, h44, mi, hrx, hbt => by
    refine ep_iln t92_44 rfl ?_
    refine ep_bF t92_45 (fun (c45 : b = false) => ?_) (fun (c45 : b = true) => (by exact absurd (hbt c45) (Nat.not_lt_zero _)))
    exact K σ' b _ _ _ h1 (fun s hs => (h44 s hs).trans (congrArg nI (nfin (lw_p hw hpr) lw_N (pow_le_256 hw.2.1) lw_sd lw_sy mi (fun s k hs hf hl => hrx c45 s k (by omega) hs hf hl) s hs)))
  | d + 1, σ', E, b, o3, o4, o5, h1, h44, mi, hrx, hbt => by
    refine ep_iln t92_44 rfl ?_
    refine ep_bF t92_45 (fun (c45 : b = false) => ?_) (fun (c45 : b = true) => ?_)
    · exact K σ' b _ _ _ h1 (fun s hs => (h44 s hs).trans (congrArg nI (nfin (lw_p hw hpr) lw_N (pow_le_256 hw.2.1) lw_sd lw_sy mi (fun s k hs hf hl => hrx c45 s k (by omega) hs hf hl) s hs)))
    · refine ep_k1 (w := nI 0) t92_48 rfl ?_
      refine ep_isn (L' := [some (.ref 31), o1, some (.int (nI 0)), o3, o4, o5]) t92_49 rfl (Nat.le_of_ble_eq_true rfl) ?_
      refine ep_k1 (w := nI 0) t92_50 rfl ?_
      refine ep_isn (L' := [some (.ref 31), o1, some (.int (nI 0)), some (.int (nI 0)), o4, o5]) t92_51 rfl (Nat.le_of_ble_eq_true rfl) ?_
      refine ep_lv (L' := [some (.ref 31), o1, some (.int (bI false)), some (.int (nI 0)), o4, o5]) rfl ?_
      exact L_rd3 (S0 := sm E (2 ^ T 3)) hT hw ep2 hpr hla (fun σ2 E2 b2 p2 p3 p4 g1 g2 g3 g4 g5 => L_rd2 hT hw ep2 hpr hla K d σ2 E2 b2 p2 p3 p4 g1 g2 g3 g4 (fun hb => by have := g5 hb; have := hbt c45; omega)) (2 ^ T 3) 0 σ' E false _ _ (by omega) h1 h44 mi (fun _ t j h4 => absurd h4 (by omega)) (fun hb => absurd hb (by decide)) (Nat.le_refl _)
theorem L_rd1 {X : gX} {q : Bool} {σ : gT1} {T : Nat → Nat} {c : Nat} {o1 : Option Value} {P : Option Value → gS → Prop} (hT : ToldM (σ 33) T) (hw : WF0 T) (hc : c < 2 ^ T 3) (e0 : σ 36 0 = nI c) (K : ∀ (σ' : gT1), (∀ r, r ≠ 44 → σ' r = σ r) → (∀ t, t < 2 ^ T 3 → σ' 44 t = nI (if t = c then 0 else 99999)) → EvP X 92 42 [some (.ref 31), o1, some (.int (nI (2 ^ T 3))), none, none, none] [] (47, g_rho q, σ') P) : ∀ (d s : Nat) (σ' : gT1), s + d = 2 ^ T 3 → (∀ r, r ≠ 44 → σ' r = σ r) → (∀ t, t < s → σ' 44 t = nI (if t = c then 0 else 99999)) → EvP X 92 6 [some (.ref 31), o1, some (.int (nI s)), none, none, none] [] (47, g_rho q, σ') P
  | 0, s, σ', hk, h1, h2 => by
    obtain rfl : s = 2 ^ T 3 := by omega
    refine ep_iln t92_6 rfl ?_
    refine ep_aln t92_7 rfl ?_
    refine ep_cv t92_8 rfl rfl (Nat.le_of_ble_eq_true rfl) (Nat.le_of_ble_eq_true rfl) (cl_M_states (T := T) ((congrFun (h1 33 (by decide)) 3).trans (hT.1 3 (by decide))) hw.2.1) ?_
    refine ep_ifP t92_11 (ic_ge (by have := pow_le_256 hw.2.1; omega) (by have := pow_le_256 hw.2.1; omega)) (fun (c11 : (2 ^ T 3) ≤ (2 ^ T 3)) => ?_) (fun (c11 : ¬ ((2 ^ T 3) ≤ (2 ^ T 3))) => (by exact absurd (Nat.le_refl _) c11))
    exact K σ' h1 h2
  | d + 1, s, σ', hk, h1, h2 => by
    refine ep_iln t92_6 rfl ?_
    refine ep_aln t92_7 rfl ?_
    refine ep_cv t92_8 rfl rfl (Nat.le_of_ble_eq_true rfl) (Nat.le_of_ble_eq_true rfl) (cl_M_states (T := T) ((congrFun (h1 33 (by decide)) 3).trans (hT.1 3 (by decide))) hw.2.1) ?_
    refine ep_ifP t92_11 (ic_ge (by have := pow_le_256 hw.2.1; omega) (by have := pow_le_256 hw.2.1; omega)) (fun (c11 : (2 ^ T 3) ≤ s) => (by omega)) (fun (c11 : ¬ ((2 ^ T 3) ≤ s)) => ?_)
    refine ep_aln t92_14 rfl ?_
    refine ep_getr (q := 44) t92_15 rfl (Nat.le_of_ble_eq_true rfl) rfl (rfl) ?_
    refine ep_iln t92_18 rfl ?_
    refine ep_iln t92_19 rfl ?_
    refine ep_aln t92_20 rfl ?_
    refine ep_getr (q := 36) t92_21 rfl (Nat.le_of_ble_eq_true rfl) rfl (rfl) ?_
    refine ep_k1 (w := nI 0) t92_24 rfl ?_
    refine ep_aldN t92_25 rfl (Nat.le_of_ble_eq_true rfl) (Nat.ne_of_beq_eq_false rfl) (Nat.le_of_ble_eq_true rfl) (by have := pow_le_256 hw.2.1; omega) ?_
    refine ep_val (b := nI c) ((congrFun (h1 36 (by decide)) 0).trans e0) ?_
    refine ep_ifP t92_26 (ic_ne (by have := pow_le_256 hw.2.1; omega) (by have := pow_le_256 hw.2.1; omega)) (fun (c26 : ¬ s = c) => ?_) (fun (c26 : ¬ (¬ s = c)) => ?_)
    · refine ep_k4 (w := nI 99999) t92_33 rfl ?_
      refine ep_astN t92_35 rfl (Nat.le_of_ble_eq_true rfl) (Nat.le_of_ble_eq_true rfl) (by have := pow_le_256 hw.2.1; omega) ?_
      refine ep_inc (b := nI (s + 1)) (L' := [some (.ref 31), o1, some (.int (nI (s + 1))), none, none, none]) t92_36 rfl (nI_add s 1) rfl (Nat.le_of_ble_eq_true rfl) ?_
      refine ep_gt t92_39 ?_
      refine L_rd1 hT hw hc e0 K d (s + 1) _ (by omega) (fun r hr => (g_up_ne hr).trans (h1 r hr)) (fun t ht => ?_)
      by_cases e : t = s
      · subst e; rw [g_up_eq]; first | rw [if_pos (Classical.byContradiction c26)] | rw [if_neg c26]
      · rw [g_up_j e]; exact h2 t (by omega)
    · refine ep_k1 (w := nI 0) t92_29 rfl ?_
      refine ep_gt t92_30 ?_
      refine ep_astN t92_35 rfl (Nat.le_of_ble_eq_true rfl) (Nat.le_of_ble_eq_true rfl) (by have := pow_le_256 hw.2.1; omega) ?_
      refine ep_inc (b := nI (s + 1)) (L' := [some (.ref 31), o1, some (.int (nI (s + 1))), none, none, none]) t92_36 rfl (nI_add s 1) rfl (Nat.le_of_ble_eq_true rfl) ?_
      refine ep_gt t92_39 ?_
      refine L_rd1 hT hw hc e0 K d (s + 1) _ (by omega) (fun r hr => (g_up_ne hr).trans (h1 r hr)) (fun t ht => ?_)
      by_cases e : t = s
      · subst e; rw [g_up_eq]; first | rw [if_pos (Classical.byContradiction c26)] | rw [if_neg c26]
      · rw [g_up_j e]; exact h2 t (by omega)
theorem L_re {X : gX} {q : Bool} {σ : gT1} {T pr : Nat → Nat} {c l : Nat} {fb : Bool} {o2 : Option Value} (hT : ToldM (σ 33) T) (hw : WF0 T) (hpr : ∀ i, i < 3 → 1 ≤ pr i ∧ pr i ≤ 9) (h44 : ∀ s, s < 2 ^ T 3 → σ 44 s = nI (fI (dS (lw T l) (pcs T pr) (fun s => s = c) (sound T) s))) : ∀ (d s : Nat), s + d = 2 ^ T 3 → EvP X 92 212 [some (.ref 31), some (.int (bI fb)), o2, some (.int (nI (cnt s (fun s => ¬ dS (lw T l) (pcs T pr) (fun s => s = c) (sound T) s = none)))), some (.int (nI (mxO (dS (lw T l) (pcs T pr) (fun s => s = c) (sound T)) s))), some (.int (nI s))] [] (47, g_rho q, σ) (fun v g1 => v = some (.int (nI (if fb = true then mxO (dS (lw T l) (pcs T pr) (fun s => s = c) (sound T)) (2 ^ T 3) else cnt (2 ^ T 3) (fun s => ¬ dS (lw T l) (pcs T pr) (fun s => s = c) (sound T) s = none)))) ∧ g1 = (47, g_rho q, σ))
  | 0, s, hk => by
    obtain rfl : s = 2 ^ T 3 := by omega
    refine ep_il t92_212 rfl ?_
    refine ep_aln t92_214 rfl ?_
    refine ep_cv t92_215 rfl rfl (Nat.le_of_ble_eq_true rfl) (Nat.le_of_ble_eq_true rfl) (cl_M_states (T := T) (hT.1 3 (by decide)) hw.2.1) ?_
    refine ep_ifP t92_218 (ic_ge (by have := pow_le_256 hw.2.1; omega) (by have := pow_le_256 hw.2.1; omega)) (fun (c218 : (2 ^ T 3) ≤ (2 ^ T 3)) => ?_) (fun (c218 : ¬ ((2 ^ T 3) ≤ (2 ^ T 3))) => (by exact absurd (Nat.le_refl _) c218))
    refine ep_iln t92_285 rfl ?_
    refine ep_bF t92_286 (fun (c286 : fb = false) => ?_) (fun (c286 : fb = true) => ?_)
    · refine ep_iln t92_294 rfl ?_
      refine ep_ri t92_295 (fun h => absurd h (by decide)) ?_
      exact ⟨by rw [c286]; rfl, rfl⟩
    · refine ep_il t92_289 rfl ?_
      refine ep_gt t92_291 ?_
      refine ep_ri t92_295 (fun h => absurd h (by decide)) ?_
      exact ⟨by rw [c286]; rfl, rfl⟩
  | d + 1, s, hk => by
    have hs : s < 2 ^ T 3 := by omega
    refine ep_il t92_212 rfl ?_
    refine ep_aln t92_214 rfl ?_
    refine ep_cv t92_215 rfl rfl (Nat.le_of_ble_eq_true rfl) (Nat.le_of_ble_eq_true rfl) (cl_M_states (T := T) (hT.1 3 (by decide)) hw.2.1) ?_
    refine ep_ifP t92_218 (ic_ge (by have := pow_le_256 hw.2.1; omega) (by have := pow_le_256 hw.2.1; omega)) (fun (c218 : (2 ^ T 3) ≤ s) => (by omega)) (fun (c218 : ¬ ((2 ^ T 3) ≤ s)) => ?_)
    cases hd : dS (lw T l) (pcs T pr) (fun s => s = c) (sound T) s with
    | none =>
      refine ep_iln t92_221 rfl ?_
      refine ep_aln t92_222 rfl ?_
      refine ep_getr (q := 44) t92_223 rfl (Nat.le_of_ble_eq_true rfl) rfl (rfl) ?_
      refine ep_il t92_226 rfl ?_
      refine ep_aldN t92_228 rfl (Nat.le_of_ble_eq_true rfl) (Nat.ne_of_beq_eq_false rfl) (Nat.le_of_ble_eq_true rfl) (by have := pow_le_256 hw.2.1; have := mxO_le (D := dS (lw T l) (pcs T pr) (fun s => s = c) (sound T)) s (fun t x ht hd => dS_le hw hpr (by omega) hd); omega) ?_
      refine ep_val (b := nI 99999) ((h44 s hs).trans (by rw [hd]; rfl)) ?_
      refine ep_k4 (w := nI 99999) t92_229 rfl ?_
      refine ep_ifP t92_231 (ic_ge (by have := pow_le_256 hw.2.1; have := mxO_le (D := dS (lw T l) (pcs T pr) (fun s => s = c) (sound T)) s (fun t x ht hd => dS_le hw hpr (by omega) hd); omega) (by have := pow_le_256 hw.2.1; have := mxO_le (D := dS (lw T l) (pcs T pr) (fun s => s = c) (sound T)) s (fun t x ht hd => dS_le hw hpr (by omega) hd); omega)) (fun (c231 : 99999 ≤ 99999) => ?_) (fun (c231 : ¬ (99999 ≤ 99999)) => (by omega))
      refine ep_k1 (w := nI 0) t92_238 rfl ?_
      refine ep_addN (a := cnt s (fun s => ¬ dS (lw T l) (pcs T pr) (fun s => s = c) (sound T) s = none)) (b := 0) t92_239 ?_
      refine ep_isn (L' := [some (.ref 31), some (.int (bI fb)), o2, some (.int (nI ((cnt s (fun s => ¬ dS (lw T l) (pcs T pr) (fun s => s = c) (sound T) s = none)) + 0))), some (.int (nI (mxO (dS (lw T l) (pcs T pr) (fun s => s = c) (sound T)) s))), some (.int (nI s))]) t92_240 rfl (Nat.le_of_ble_eq_true rfl) ?_
      refine ep_aln t92_241 rfl ?_
      refine ep_getr (q := 44) t92_242 rfl (Nat.le_of_ble_eq_true rfl) rfl (rfl) ?_
      refine ep_il t92_245 rfl ?_
      refine ep_aldN t92_247 rfl (Nat.le_of_ble_eq_true rfl) (Nat.ne_of_beq_eq_false rfl) (Nat.le_of_ble_eq_true rfl) (by have := pow_le_256 hw.2.1; have := mxO_le (D := dS (lw T l) (pcs T pr) (fun s => s = c) (sound T)) s (fun t x ht hd => dS_le hw hpr (by omega) hd); omega) ?_
      refine ep_val (b := nI 99999) ((h44 s hs).trans (by rw [hd]; rfl)) ?_
      refine ep_k4 (w := nI 99999) t92_248 rfl ?_
      refine ep_ifP t92_250 (ic_ge (by have := pow_le_256 hw.2.1; have := mxO_le (D := dS (lw T l) (pcs T pr) (fun s => s = c) (sound T)) s (fun t x ht hd => dS_le hw hpr (by omega) hd); omega) (by have := pow_le_256 hw.2.1; have := mxO_le (D := dS (lw T l) (pcs T pr) (fun s => s = c) (sound T)) s (fun t x ht hd => dS_le hw hpr (by omega) hd); omega)) (fun (c250 : 99999 ≤ 99999) => ?_) (fun (c250 : ¬ (99999 ≤ 99999)) => (by omega))
      refine ep_il t92_275 rfl ?_
      refine ep_is (L' := [some (.ref 31), some (.int (bI fb)), o2, some (.int (nI ((cnt s (fun s => ¬ dS (lw T l) (pcs T pr) (fun s => s = c) (sound T) s = none)) + 0))), some (.int (nI (mxO (dS (lw T l) (pcs T pr) (fun s => s = c) (sound T)) s))), some (.int (nI s))]) t92_277 rfl (Nat.le_of_ble_eq_true rfl) ?_
      refine ep_inc (b := nI (s + 1)) (L' := [some (.ref 31), some (.int (bI fb)), o2, some (.int (nI ((cnt s (fun s => ¬ dS (lw T l) (pcs T pr) (fun s => s = c) (sound T) s = none)) + 0))), some (.int (nI (mxO (dS (lw T l) (pcs T pr) (fun s => s = c) (sound T)) s))), some (.int (nI (s + 1)))]) t92_279 rfl (nI_add s 1) rfl (Nat.le_of_ble_eq_true rfl) ?_
      refine ep_gt t92_282 ?_
      rw [Nat.add_zero, cnt_no (P := fun s => ¬ dS (lw T l) (pcs T pr) (fun s => s = c) (sound T) s = none) (fun h => h hd), mxO_none hd]
      exact L_re hT hw hpr h44 d (s + 1) (by omega)
    | some y =>
      have hy := dS_le hw hpr hs hd
      refine ep_iln t92_221 rfl ?_
      refine ep_aln t92_222 rfl ?_
      refine ep_getr (q := 44) t92_223 rfl (Nat.le_of_ble_eq_true rfl) rfl (rfl) ?_
      refine ep_il t92_226 rfl ?_
      refine ep_aldN t92_228 rfl (Nat.le_of_ble_eq_true rfl) (Nat.ne_of_beq_eq_false rfl) (Nat.le_of_ble_eq_true rfl) (by have := pow_le_256 hw.2.1; have := mxO_le (D := dS (lw T l) (pcs T pr) (fun s => s = c) (sound T)) s (fun t x ht hd => dS_le hw hpr (by omega) hd); omega) ?_
      refine ep_val (b := nI y) ((h44 s hs).trans (by rw [hd]; rfl)) ?_
      refine ep_k4 (w := nI 99999) t92_229 rfl ?_
      refine ep_ifP t92_231 (ic_ge (by have := pow_le_256 hw.2.1; have := mxO_le (D := dS (lw T l) (pcs T pr) (fun s => s = c) (sound T)) s (fun t x ht hd => dS_le hw hpr (by omega) hd); omega) (by have := pow_le_256 hw.2.1; have := mxO_le (D := dS (lw T l) (pcs T pr) (fun s => s = c) (sound T)) s (fun t x ht hd => dS_le hw hpr (by omega) hd); omega)) (fun (c231 : 99999 ≤ y) => (by omega)) (fun (c231 : ¬ (99999 ≤ y)) => ?_)
      refine ep_k1 (w := nI 1) t92_234 rfl ?_
      refine ep_gt t92_235 ?_
      refine ep_addN (a := cnt s (fun s => ¬ dS (lw T l) (pcs T pr) (fun s => s = c) (sound T) s = none)) (b := 1) t92_239 ?_
      refine ep_isn (L' := [some (.ref 31), some (.int (bI fb)), o2, some (.int (nI ((cnt s (fun s => ¬ dS (lw T l) (pcs T pr) (fun s => s = c) (sound T) s = none)) + 1))), some (.int (nI (mxO (dS (lw T l) (pcs T pr) (fun s => s = c) (sound T)) s))), some (.int (nI s))]) t92_240 rfl (Nat.le_of_ble_eq_true rfl) ?_
      refine ep_aln t92_241 rfl ?_
      refine ep_getr (q := 44) t92_242 rfl (Nat.le_of_ble_eq_true rfl) rfl (rfl) ?_
      refine ep_il t92_245 rfl ?_
      refine ep_aldN t92_247 rfl (Nat.le_of_ble_eq_true rfl) (Nat.ne_of_beq_eq_false rfl) (Nat.le_of_ble_eq_true rfl) (by have := pow_le_256 hw.2.1; have := mxO_le (D := dS (lw T l) (pcs T pr) (fun s => s = c) (sound T)) s (fun t x ht hd => dS_le hw hpr (by omega) hd); omega) ?_
      refine ep_val (b := nI y) ((h44 s hs).trans (by rw [hd]; rfl)) ?_
      refine ep_k4 (w := nI 99999) t92_248 rfl ?_
      refine ep_ifP t92_250 (ic_ge (by have := pow_le_256 hw.2.1; have := mxO_le (D := dS (lw T l) (pcs T pr) (fun s => s = c) (sound T)) s (fun t x ht hd => dS_le hw hpr (by omega) hd); omega) (by have := pow_le_256 hw.2.1; have := mxO_le (D := dS (lw T l) (pcs T pr) (fun s => s = c) (sound T)) s (fun t x ht hd => dS_le hw hpr (by omega) hd); omega)) (fun (c250 : 99999 ≤ y) => (by omega)) (fun (c250 : ¬ (99999 ≤ y)) => ?_)
      refine ep_aln t92_253 rfl ?_
      refine ep_getr (q := 44) t92_254 rfl (Nat.le_of_ble_eq_true rfl) rfl (rfl) ?_
      refine ep_il t92_257 rfl ?_
      refine ep_aldN t92_259 rfl (Nat.le_of_ble_eq_true rfl) (Nat.ne_of_beq_eq_false rfl) (Nat.le_of_ble_eq_true rfl) (by have := pow_le_256 hw.2.1; have := mxO_le (D := dS (lw T l) (pcs T pr) (fun s => s = c) (sound T)) s (fun t x ht hd => dS_le hw hpr (by omega) hd); omega) ?_
      refine ep_val (b := nI y) ((h44 s hs).trans (by rw [hd]; rfl)) ?_
      refine ep_il t92_260 rfl ?_
      refine ep_ifP t92_262 (ic_le (by have := pow_le_256 hw.2.1; have := mxO_le (D := dS (lw T l) (pcs T pr) (fun s => s = c) (sound T)) s (fun t x ht hd => dS_le hw hpr (by omega) hd); omega) (by have := pow_le_256 hw.2.1; have := mxO_le (D := dS (lw T l) (pcs T pr) (fun s => s = c) (sound T)) s (fun t x ht hd => dS_le hw hpr (by omega) hd); omega)) (fun (c262 : y ≤ (mxO (dS (lw T l) (pcs T pr) (fun s => s = c) (sound T)) s)) => ?_) (fun (c262 : ¬ (y ≤ (mxO (dS (lw T l) (pcs T pr) (fun s => s = c) (sound T)) s))) => ?_)
      · refine ep_il t92_275 rfl ?_
        refine ep_is (L' := [some (.ref 31), some (.int (bI fb)), o2, some (.int (nI ((cnt s (fun s => ¬ dS (lw T l) (pcs T pr) (fun s => s = c) (sound T) s = none)) + 1))), some (.int (nI (mxO (dS (lw T l) (pcs T pr) (fun s => s = c) (sound T)) s))), some (.int (nI s))]) t92_277 rfl (Nat.le_of_ble_eq_true rfl) ?_
        refine ep_inc (b := nI (s + 1)) (L' := [some (.ref 31), some (.int (bI fb)), o2, some (.int (nI ((cnt s (fun s => ¬ dS (lw T l) (pcs T pr) (fun s => s = c) (sound T) s = none)) + 1))), some (.int (nI (mxO (dS (lw T l) (pcs T pr) (fun s => s = c) (sound T)) s))), some (.int (nI (s + 1)))]) t92_279 rfl (nI_add s 1) rfl (Nat.le_of_ble_eq_true rfl) ?_
        refine ep_gt t92_282 ?_
        have hmx : mxO (dS (lw T l) (pcs T pr) (fun s => s = c) (sound T)) s = max (mxO (dS (lw T l) (pcs T pr) (fun s => s = c) (sound T)) s) y := by omega
        rw [hmx, cnt_yes (P := fun s => ¬ dS (lw T l) (pcs T pr) (fun s => s = c) (sound T) s = none) (fun h => by rw [hd] at h; cases h), mxO_some hd]
        exact L_re hT hw hpr h44 d (s + 1) (by omega)
      · refine ep_aln t92_265 rfl ?_
        refine ep_getr (q := 44) t92_266 rfl (Nat.le_of_ble_eq_true rfl) rfl (rfl) ?_
        refine ep_il t92_269 rfl ?_
        refine ep_aldN t92_271 rfl (Nat.le_of_ble_eq_true rfl) (Nat.ne_of_beq_eq_false rfl) (Nat.le_of_ble_eq_true rfl) (by have := pow_le_256 hw.2.1; have := mxO_le (D := dS (lw T l) (pcs T pr) (fun s => s = c) (sound T)) s (fun t x ht hd => dS_le hw hpr (by omega) hd); omega) ?_
        refine ep_val (b := nI y) ((h44 s hs).trans (by rw [hd]; rfl)) ?_
        refine ep_gt t92_272 ?_
        refine ep_is (L' := [some (.ref 31), some (.int (bI fb)), o2, some (.int (nI ((cnt s (fun s => ¬ dS (lw T l) (pcs T pr) (fun s => s = c) (sound T) s = none)) + 1))), some (.int (nI y)), some (.int (nI s))]) t92_277 rfl (Nat.le_of_ble_eq_true rfl) ?_
        refine ep_inc (b := nI (s + 1)) (L' := [some (.ref 31), some (.int (bI fb)), o2, some (.int (nI ((cnt s (fun s => ¬ dS (lw T l) (pcs T pr) (fun s => s = c) (sound T) s = none)) + 1))), some (.int (nI y)), some (.int (nI (s + 1)))]) t92_279 rfl (nI_add s 1) rfl (Nat.le_of_ble_eq_true rfl) ?_
        refine ep_gt t92_282 ?_
        have hmx : y = max (mxO (dS (lw T l) (pcs T pr) (fun s => s = c) (sound T)) s) y := by omega
        rw [hmx, cnt_yes (P := fun s => ¬ dS (lw T l) (pcs T pr) (fun s => s = c) (sound T) s = none) (fun h => by rw [hd] at h; cases h), mxO_some hd]
        exact L_re hT hw hpr h44 d (s + 1) (by omega)
theorem cl_M_reached {X : gX} {q : Bool} {σ : gT1} {T pr : Nat → Nat} {l c : Nat} {fb : Bool} (hT : ToldM (σ 33) T) (hw : WF0 T) (h31 : T 1 < 2147483648) (h32 : T 2 < 2147483648) (e1 : σ 36 1 = nI l) (hl : l < 2147483648) (ep2 : ∀ i, i < 3 → σ 36 (2 + i) = nI (pr i)) (hpr : ∀ i, i < 3 → 1 ≤ pr i ∧ pr i ≤ 9) (hc : c < 2 ^ T 3) (hsc : sound T c) (e0 : σ 36 0 = nI c)  : ClP X 92 [.ref 31, .int (bI fb)] (47, g_rho q, σ) (fun v g1 => ∃ σ', v = some (.int (nI (if fb = true then mxO (dS (lw T l) (pcs T pr) (fun s => s = c) (sound T)) (2 ^ T 3) else cnt (2 ^ T 3) (fun s => ¬ dS (lw T l) (pcs T pr) (fun s => s = c) (sound T) s = none)))) ∧ g1 = (47, g_rho q, σ') ∧ ∀ r, r ≠ 43 → r ≠ 44 → r ≠ 46 → σ' r = σ r) := by
  refine ClP.of ⟨Nat.le_of_ble_eq_true rfl, rfl⟩ ?_
  show EvP X 92 0 [some (.ref 31), some (.int (bI fb)), none, none, none, none] [] (47, g_rho q, σ) _
  refine ep_aln t92_0 rfl ?_
  obtain ⟨v9, g9, hm9, rfl, σ1, rfl, a1, a2⟩ := cl_M_laws (X := X) (q := q) (σ := σ) hT hw h31 h32 e1 hl
  have hT1 : ToldM (σ1 33) T := by rw [a1 33 (by decide) (by decide)]; exact hT
  refine ep_cv t92_1 rfl rfl (Nat.le_of_ble_eq_true rfl) (Nat.le_of_ble_eq_true rfl) (hm9) ?_
  refine ep_k1 (w := nI 0) t92_4 rfl ?_
  refine ep_isn (L' := [some (.ref 31), some (.int (bI fb)), some (.int (nI 0)), none, none, none]) t92_5 rfl (Nat.le_of_ble_eq_true rfl) ?_
  refine L_rd1 (σ := σ1) hT1 hw hc ((congrFun (a1 36 (by decide) (by decide)) 0).trans e0) (fun σ2 b1 b2 => ?_) (2 ^ T 3) 0 σ1 (by omega) (fun _ _ => rfl) (fun t ht => absurd ht (Nat.not_lt_zero t))
  refine ep_k1 (w := nI 1) t92_42 rfl ?_
  refine ep_isn (L' := [some (.ref 31), some (.int (bI fb)), some (.int (nI 1)), none, none, none]) t92_43 rfl (Nat.le_of_ble_eq_true rfl) ?_
  refine ep_lv (L' := [some (.ref 31), some (.int (bI fb)), some (.int (bI true)), none, none, none]) rfl ?_
  have mi0 : NI (lw T l) (pcs T pr) (fun s => s = c) (sound T) (2 ^ T 3) (fun t => if t = c then 0 else 99999) := fun s hs => by
    by_cases e : s = c
    · show (if s = c then 0 else 99999) ≤ 99999 ∧ ((if s = c then 0 else 99999) < 99999 → sound T s ∧ Co (lw T l) (pcs T pr) (fun s => s = c) s (if s = c then 0 else 99999)) ∧ (s = c → (if s = c then 0 else 99999) = 0)
      rw [if_pos e]
      exact ⟨by omega, fun _ => ⟨e ▸ hsc, Co_zero e⟩, fun _ => rfl⟩
    · show (if s = c then 0 else 99999) ≤ 99999 ∧ ((if s = c then 0 else 99999) < 99999 → sound T s ∧ Co (lw T l) (pcs T pr) (fun s => s = c) s (if s = c then 0 else 99999)) ∧ (s = c → (if s = c then 0 else 99999) = 0)
      rw [if_neg e]
      exact ⟨by omega, fun h => absurd h (by omega), fun h => absurd h e⟩
  refine L_rd2 (σ := σ2) (W := fun s => s = c) (by rw [b1 33 (by decide)]; exact hT1) hw (fun i hi => (congrFun (b1 36 (by decide)) _).trans ((congrFun (a1 36 (by decide) (by decide)) _).trans (ep2 i hi))) hpr (fun s k hs hk => (congrFun (b1 46 (by decide)) _).trans (a2 s k hs hk)) (fun σ3 b8 p3 p4 p5 c1 c2 => ?_) (sm (fun t => if t = c then 0 else 99999) (2 ^ T 3) + 1) σ2 (fun t => if t = c then 0 else 99999) true none none none (fun _ _ => rfl) b2 mi0 (fun h => absurd h (by decide)) (fun _ => Nat.lt_succ_self _)
  refine ep_k1 (w := nI 0) t92_204 rfl ?_
  refine ep_isn (L' := [some (.ref 31), some (.int (bI fb)), some (.int (bI b8)), some (.int (nI 0)), p4, p5]) t92_205 rfl (Nat.le_of_ble_eq_true rfl) ?_
  refine ep_k1 (w := nI 0) t92_206 rfl ?_
  refine ep_is (L' := [some (.ref 31), some (.int (bI fb)), some (.int (bI b8)), some (.int (nI 0)), some (.int (nI 0)), p5]) t92_207 rfl (Nat.le_of_ble_eq_true rfl) ?_
  refine ep_k1 (w := nI 0) t92_209 rfl ?_
  refine ep_is (L' := [some (.ref 31), some (.int (bI fb)), some (.int (bI b8)), some (.int (nI 0)), some (.int (nI 0)), some (.int (nI 0))]) t92_210 rfl (Nat.le_of_ble_eq_true rfl) ?_
  refine (L_re (σ := σ3) (by rw [c1 33 (by decide), b1 33 (by decide)]; exact hT1) hw hpr c2 (2 ^ T 3) 0 (by omega)).mono (fun v g1 h => ?_)
  exact ⟨σ3, h.1, h.2, fun r g1 g2 g3 => (c1 r g2).trans ((b1 r g2).trans (a1 r g1 g3))⟩

