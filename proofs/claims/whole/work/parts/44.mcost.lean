/-! The model's costs. -/
def RX (T pr : Nat → Nat) (l : Nat) (E : Nat → Nat) (s k : Nat) : Prop := ∀ t j, (t < s ∨ t = s ∧ j < k) → t < 2 ^ T 3 → lw T l t j → E t ≤ E (t ^^^ 2 ^ j) + pcs T pr j
theorem RX_next {T pr : Nat → Nat} {l s k : Nat} {E : Nat → Nat} (h : RX T pr l E s k) (hk : lw T l s k → E s ≤ E (s ^^^ 2 ^ k) + pcs T pr k) : RX T pr l E s (k + 1) := fun t j htj ht hl => by
  by_cases e : t = s ∧ j = k
  · obtain ⟨e1, e2⟩ := e
    subst e1; subst e2
    exact hk hl
  · exact h t j (by omega) ht hl
theorem RX_row {T pr : Nat → Nat} {l s : Nat} {E : Nat → Nat} (h : RX T pr l E s (T 3)) : RX T pr l E (s + 1) 0 := fun t j htj ht hl => h t j (by have := hl.1; omega) ht hl
def LAWS (σ' : gT1) (T : Nat → Nat) (l : Nat) : Prop := ∀ s k, s < 2 ^ T 3 → k < T 3 → σ' 46 (8 * s + k) = bI (decide (why T l s k = 0))
theorem cl_M_states {X : gX} {q : Bool} {σ : gT1} {T : Nat → Nat} (e3 : σ 33 3 = nI (T 3)) (h3 : T 3 ≤ 8) : Cl X 89 [.ref 31] (47, g_rho q, σ) (some (.int (nI (2 ^ T 3)))) (47, g_rho q, σ) := by
  refine Cl.of ⟨Nat.le_of_ble_eq_true rfl, rfl⟩ ?_
  show EvP X 89 0 [some (.ref 31)] [] (47, g_rho q, σ) _
  refine ep_k1 (w := nI 1) t89_0 rfl ?_
  refine ep_aln t89_1 rfl ?_
  refine ep_getr (q := 33) t89_2 rfl (Nat.le_of_ble_eq_true rfl) rfl (rfl) ?_
  refine ep_k1 (w := nI 3) t89_5 rfl ?_
  refine ep_aldN t89_6 rfl (Nat.le_of_ble_eq_true rfl) (Nat.ne_of_beq_eq_false rfl) (Nat.le_of_ble_eq_true rfl) (by omega) ?_
  refine ep_val (b := nI (T 3)) (e3) ?_
  refine ep_oneN (b := T 3) t89_7 (by omega) ?_
  refine ep_ri t89_8 (fun h => absurd h (by decide)) ?_
  exact ⟨rfl, rfl⟩

theorem cl_M_priceOf {X : gX} {q : Bool} {σ : gT1} {T pr : Nat → Nat} {k : Nat} (hT : ToldM (σ 33) T) (hw : WF0 T) (ep2 : ∀ i, i < 3 → σ 36 (2 + i) = nI (pr i)) (hk : k < T 3) : Cl X 91 [.ref 31, .int (nI k)] (47, g_rho q, σ) (some (.int (nI (pcs T pr k)))) (47, g_rho q, σ) := by
  refine Cl.of ⟨Nat.le_of_ble_eq_true rfl, rfl⟩ ?_
  show EvP X 91 0 [some (.ref 31), some (.int (nI k))] [] (47, g_rho q, σ) _
  refine ep_aln t91_0 rfl ?_
  refine ep_getr (q := 36) t91_1 rfl (Nat.le_of_ble_eq_true rfl) rfl (rfl) ?_
  refine ep_k1 (w := nI 2) t91_4 rfl ?_
  refine ep_aln t91_5 rfl ?_
  refine ep_getr (q := 33) t91_6 rfl (Nat.le_of_ble_eq_true rfl) rfl (rfl) ?_
  refine ep_k1 (w := nI 4) t91_9 rfl ?_
  refine ep_iln t91_10 rfl ?_
  refine ep_addN (a := 4) (b := k) t91_11 ?_
  refine ep_aldN t91_12 rfl (Nat.le_of_ble_eq_true rfl) (Nat.ne_of_beq_eq_false rfl) (Nat.le_of_ble_eq_true rfl) (by have := hw.2.1; have := hw.2.2.2 k hk; omega) ?_
  refine ep_val (b := nI (T (4 + k))) ((hT.2 k hk).1) ?_
  refine ep_addN (a := 2) (b := T (4 + k)) t91_13 ?_
  refine ep_aldN t91_14 rfl (Nat.le_of_ble_eq_true rfl) (Nat.ne_of_beq_eq_false rfl) (Nat.le_of_ble_eq_true rfl) (by have := hw.2.1; have := hw.2.2.2 k hk; omega) ?_
  refine ep_val (b := nI (pcs T pr k)) (ep2 _ (hw.2.2.2 k hk)) ?_
  refine ep_ri t91_15 (fun h => absurd h (by decide)) ?_
  exact ⟨rfl, rfl⟩

theorem L_lw2 {X : gX} {s : Nat} {P : Option Value → gS → Prop} {q : Bool} {σ : gT1} {T : Nat → Nat} {l : Nat} (hT : ToldM (σ 33) T) (hw : WF0 T) (h31 : T 1 < 2147483648) (h32 : T 2 < 2147483648) (e1 : σ 36 1 = nI l) (hl : l < 2147483648) (hs : s < 2 ^ T 3) (K : ∀ (σ' : gT1), (∀ r, r ≠ 43 → r ≠ 46 → σ' r = σ r) → (∀ t j, (t < (s + 1) ∨ t = (s + 1) ∧ j < 0) → j < T 3 → σ' 46 (8 * t + j) = bI (decide (why T l t j = 0))) → EvP X 90 53 [some (.ref 31), some (.int (nI s)), some (.int (nI (T 3)))] [] (47, g_rho q, σ') P) : ∀ (d k : Nat) (σ' : gT1), k + d = T 3 → (∀ r, r ≠ 43 → r ≠ 46 → σ' r = σ r) → (∀ t j, (t < s ∨ t = s ∧ j < k) → j < T 3 → σ' 46 (8 * t + j) = bI (decide (why T l t j = 0))) → EvP X 90 12 [some (.ref 31), some (.int (nI s)), some (.int (nI k))] [] (47, g_rho q, σ') P
  | 0, k, σ', hk, h1, h2 => by
    obtain rfl : k = T 3 := by omega
    refine ep_iln t90_12 rfl ?_
    refine ep_aln t90_13 rfl ?_
    refine ep_getr (q := 33) t90_14 rfl (Nat.le_of_ble_eq_true rfl) rfl (rfl) ?_
    refine ep_k1 (w := nI 3) t90_17 rfl ?_
    refine ep_aldN t90_18 rfl (Nat.le_of_ble_eq_true rfl) (Nat.ne_of_beq_eq_false rfl) (Nat.le_of_ble_eq_true rfl) (by have := hw.2.1; omega) ?_
    refine ep_val (b := nI (T 3)) ((congrFun (h1 33 (by decide) (by decide)) 3).trans (hT.1 3 (by decide))) ?_
    refine ep_ifP t90_19 (ic_ge (by have := hw.2.1; omega) (by have := hw.2.1; omega)) (fun (c19 : (T 3) ≤ (T 3)) => ?_) (fun (c19 : ¬ ((T 3) ≤ (T 3))) => (by exact absurd (Nat.le_refl _) c19))
    exact K σ' h1 (fun t j h4 h5 => h2 t j (by omega) h5)
  | d + 1, k, σ', hk, h1, h2 => by
    have hk3 : k < T 3 := by omega
    refine ep_iln t90_12 rfl ?_
    refine ep_aln t90_13 rfl ?_
    refine ep_getr (q := 33) t90_14 rfl (Nat.le_of_ble_eq_true rfl) rfl (rfl) ?_
    refine ep_k1 (w := nI 3) t90_17 rfl ?_
    refine ep_aldN t90_18 rfl (Nat.le_of_ble_eq_true rfl) (Nat.ne_of_beq_eq_false rfl) (Nat.le_of_ble_eq_true rfl) (by have := hw.2.1; have := pow_le_256 hw.2.1; have := why_le T l s k; omega) ?_
    refine ep_val (b := nI (T 3)) ((congrFun (h1 33 (by decide) (by decide)) 3).trans (hT.1 3 (by decide))) ?_
    refine ep_ifP t90_19 (ic_ge (by have := hw.2.1; have := pow_le_256 hw.2.1; have := why_le T l s k; omega) (by have := hw.2.1; have := pow_le_256 hw.2.1; have := why_le T l s k; omega)) (fun (c19 : (T 3) ≤ k) => (by omega)) (fun (c19 : ¬ ((T 3) ≤ k)) => ?_)
    refine ep_aln t90_22 rfl ?_
    refine ep_getr (q := 46) t90_23 rfl (Nat.le_of_ble_eq_true rfl) rfl (rfl) ?_
    refine ep_k2 (w := nI 8) t90_26 rfl ?_
    refine ep_iln t90_28 rfl ?_
    refine ep_mulN (a := 8) (b := s) t90_29 ?_
    refine ep_iln t90_30 rfl ?_
    refine ep_addN (a := 8 * s) (b := k) t90_31 ?_
    refine ep_aln t90_32 rfl ?_
    refine ep_iln t90_33 rfl ?_
    refine ep_iln t90_34 rfl ?_
    obtain ⟨v9, g9, hm9, σw, rfl, rfl, m1⟩ := cl_M_whyNot (X := X) (q := q) (σ := σ') (T := T) (c := s) (l := l) (k := k) (by rw [h1 33 (by decide) (by decide)]; exact hT) hw h31 h32 ((congrFun (h1 36 (by decide) (by decide)) 1).trans e1) hl hs hk3
    refine ep_cv t90_35 rfl rfl (Nat.le_of_ble_eq_true rfl) (Nat.le_of_ble_eq_true rfl) (hm9) ?_
    refine ep_if0P t90_38 (ic0_ne (by have := hw.2.1; have := pow_le_256 hw.2.1; have := why_le T l s k; omega)) (fun (c38 : ¬ (why T l s k) = 0) => ?_) (fun (c38 : ¬ (¬ (why T l s k) = 0)) => ?_)
    · refine ep_k1 (w := nI 0) t90_45 rfl ?_
      refine ep_bstN t90_46 rfl (Nat.le_of_ble_eq_true rfl) (Nat.le_of_ble_eq_true rfl) (by have := hw.2.1; have := pow_le_256 hw.2.1; have := why_le T l s k; omega) ?_
      refine ep_inc (b := nI (k + 1)) (L' := [some (.ref 31), some (.int (nI s)), some (.int (nI (k + 1)))]) t90_47 rfl (nI_add k 1) rfl (Nat.le_of_ble_eq_true rfl) ?_
      refine ep_gt t90_50 ?_
      refine L_lw2 hT hw h31 h32 e1 hl hs K d (k + 1) _ (by omega) (fun r g1 g2 => (g_up_ne g2).trans ((m1 r g1).trans (h1 r g1 g2))) (fun t j h4 h5 => ?_)
      by_cases e : t = s ∧ j = k
      · obtain ⟨e6, e7⟩ := e
        subst e6; subst e7
        rw [g_up_eq]
        first
        | (rw [decide_eq_true (Classical.byContradiction c38)]; rfl)
        | (rw [decide_eq_false c38]; rfl)
      · rw [g_up_j (by have := hw.2.1; omega)]
        exact (congrFun (m1 46 (by decide)) _).trans (h2 t j (by omega) h5)
    · refine ep_k1 (w := nI 1) t90_41 rfl ?_
      refine ep_gt t90_42 ?_
      refine ep_bstN t90_46 rfl (Nat.le_of_ble_eq_true rfl) (Nat.le_of_ble_eq_true rfl) (by have := hw.2.1; have := pow_le_256 hw.2.1; have := why_le T l s k; omega) ?_
      refine ep_inc (b := nI (k + 1)) (L' := [some (.ref 31), some (.int (nI s)), some (.int (nI (k + 1)))]) t90_47 rfl (nI_add k 1) rfl (Nat.le_of_ble_eq_true rfl) ?_
      refine ep_gt t90_50 ?_
      refine L_lw2 hT hw h31 h32 e1 hl hs K d (k + 1) _ (by omega) (fun r g1 g2 => (g_up_ne g2).trans ((m1 r g1).trans (h1 r g1 g2))) (fun t j h4 h5 => ?_)
      by_cases e : t = s ∧ j = k
      · obtain ⟨e6, e7⟩ := e
        subst e6; subst e7
        rw [g_up_eq]
        first
        | (rw [decide_eq_true (Classical.byContradiction c38)]; rfl)
        | (rw [decide_eq_false c38]; rfl)
      · rw [g_up_j (by have := hw.2.1; omega)]
        exact (congrFun (m1 46 (by decide)) _).trans (h2 t j (by omega) h5)
theorem L_lw1 {X : gX} {P : Option Value → gS → Prop} {q : Bool} {σ : gT1} {T : Nat → Nat} {l : Nat} (hT : ToldM (σ 33) T) (hw : WF0 T) (h31 : T 1 < 2147483648) (h32 : T 2 < 2147483648) (e1 : σ 36 1 = nI l) (hl : l < 2147483648) (K : ∀ (σ' : gT1), (∀ r, r ≠ 43 → r ≠ 46 → σ' r = σ r) → LAWS σ' T l → P none (47, g_rho q, σ')) : ∀ (d s : Nat) (σ' : gT1) (o2 : Option Value), s + d = 2 ^ T 3 → (∀ r, r ≠ 43 → r ≠ 46 → σ' r = σ r) → (∀ t j, (t < s ∨ t = s ∧ j < 0) → j < T 3 → σ' 46 (8 * t + j) = bI (decide (why T l t j = 0))) → EvP X 90 2 [some (.ref 31), some (.int (nI s)), o2] [] (47, g_rho q, σ') P
  | 0, s, σ', o2, hk, h1, h2 => by
    obtain rfl : s = 2 ^ T 3 := by omega
    refine ep_iln t90_2 rfl ?_
    refine ep_aln t90_3 rfl ?_
    refine ep_cv t90_4 rfl rfl (Nat.le_of_ble_eq_true rfl) (Nat.le_of_ble_eq_true rfl) (cl_M_states (T := T) ((congrFun (h1 33 (by decide) (by decide)) 3).trans (hT.1 3 (by decide))) hw.2.1) ?_
    refine ep_ifP t90_7 (ic_ge (by have := pow_le_256 hw.2.1; omega) (by have := pow_le_256 hw.2.1; omega)) (fun (c7 : (2 ^ T 3) ≤ (2 ^ T 3)) => ?_) (fun (c7 : ¬ ((2 ^ T 3) ≤ (2 ^ T 3))) => (by exact absurd (Nat.le_refl _) c7))
    refine ep_rv t90_59 ?_
    exact K σ' h1 (fun s k hs hk => h2 s k (by omega) hk)
  | d + 1, s, σ', o2, hk, h1, h2 => by
    refine ep_iln t90_2 rfl ?_
    refine ep_aln t90_3 rfl ?_
    refine ep_cv t90_4 rfl rfl (Nat.le_of_ble_eq_true rfl) (Nat.le_of_ble_eq_true rfl) (cl_M_states (T := T) ((congrFun (h1 33 (by decide) (by decide)) 3).trans (hT.1 3 (by decide))) hw.2.1) ?_
    refine ep_ifP t90_7 (ic_ge (by have := pow_le_256 hw.2.1; omega) (by have := pow_le_256 hw.2.1; omega)) (fun (c7 : (2 ^ T 3) ≤ s) => (by omega)) (fun (c7 : ¬ ((2 ^ T 3) ≤ s)) => ?_)
    refine ep_k1 (w := nI 0) t90_10 rfl ?_
    refine ep_isn (L' := [some (.ref 31), some (.int (nI s)), some (.int (nI 0))]) t90_11 rfl (Nat.le_of_ble_eq_true rfl) ?_
    refine L_lw2 hT hw h31 h32 e1 hl (by omega) (fun σ2 b1 b2 => ?_) (T 3) 0 σ' (by omega) h1 h2
    refine ep_inc (b := nI (s + 1)) (L' := [some (.ref 31), some (.int (nI (s + 1))), some (.int (nI (T 3)))]) t90_53 rfl (nI_add s 1) rfl (Nat.le_of_ble_eq_true rfl) ?_
    refine ep_gt t90_56 ?_
    exact L_lw1 hT hw h31 h32 e1 hl K d (s + 1) σ2 _ (by omega) b1 b2
theorem cl_M_laws {X : gX} {q : Bool} {σ : gT1} {T : Nat → Nat} {l : Nat} (hT : ToldM (σ 33) T) (hw : WF0 T) (h31 : T 1 < 2147483648) (h32 : T 2 < 2147483648) (e1 : σ 36 1 = nI l) (hl : l < 2147483648)  : ClP X 90 [.ref 31] (47, g_rho q, σ) (fun v g1 => v = none ∧ ∃ σ1, g1 = (47, g_rho q, σ1) ∧ (∀ r, r ≠ 43 → r ≠ 46 → σ1 r = σ r) ∧ LAWS σ1 T l) := by
  refine ClP.of ⟨Nat.le_of_ble_eq_true rfl, rfl⟩ ?_
  show EvP X 90 0 [some (.ref 31), none, none] [] (47, g_rho q, σ) _
  refine ep_k1 (w := nI 0) t90_0 rfl ?_
  refine ep_isn (L' := [some (.ref 31), some (.int (nI 0)), none]) t90_1 rfl (Nat.le_of_ble_eq_true rfl) ?_
  exact L_lw1 hT hw h31 h32 e1 hl (fun σ1 a1 a2 => ⟨rfl, σ1, rfl, a1, a2⟩) (2 ^ T 3) 0 σ _ (by omega) (fun _ _ _ => rfl) (fun t j h4 => absurd h4 (by omega))

theorem L_rk4 {X : gX} {s S0 : Nat} {P : Option Value → gS → Prop} {q : Bool} {σ : gT1} {T pr : Nat → Nat} {l : Nat} {W : Nat → Prop} (hT : ToldM (σ 33) T) (hw : WF0 T) (ep2 : ∀ i, i < 3 → σ 36 (2 + i) = nI (pr i)) (hpr : ∀ i, i < 3 → 1 ≤ pr i ∧ pr i ≤ 9) (hla : LAWS σ T l) (hs : s < 2 ^ T 3) (K : ∀ (σ' : gT1) (E : Nat → Nat) (b : Bool) (o4 : Option Value), (∀ r, r ≠ 44 → σ' r = σ r) → (∀ t, t < 2 ^ T 3 → σ' 44 t = nI (E t)) → MI (lw T l) (pcs T pr) W (2 ^ T 3) E → (b = false → RX T pr l E (s + 1) 0) → (b = true → sm E (2 ^ T 3) < S0) → sm E (2 ^ T 3) ≤ S0 → EvP X 116 163 [some (.ref 31), some (.int (bI b)), some (.int (nI s)), some (.int (nI (T 3))), o4] [] (47, g_rho q, σ') P) : ∀ (d k : Nat) (σ' : gT1) (E : Nat → Nat) (b : Bool) (o4 : Option Value), k + d = T 3 → (∀ r, r ≠ 44 → σ' r = σ r) → (∀ t, t < 2 ^ T 3 → σ' 44 t = nI (E t)) → MI (lw T l) (pcs T pr) W (2 ^ T 3) E → (b = false → RX T pr l E s k) → (b = true → sm E (2 ^ T 3) < S0) → sm E (2 ^ T 3) ≤ S0 → EvP X 116 61 [some (.ref 31), some (.int (bI b)), some (.int (nI s)), some (.int (nI k)), o4] [] (47, g_rho q, σ') P
  | 0, k, σ', E, b, o4, hk, h1, h44, mi, hrx, hbt, hle => by
    obtain rfl : k = T 3 := by omega
    refine ep_iln t116_61 rfl ?_
    refine ep_aln t116_62 rfl ?_
    refine ep_getr (q := 33) t116_63 rfl (Nat.le_of_ble_eq_true rfl) rfl (rfl) ?_
    refine ep_k1 (w := nI 3) t116_66 rfl ?_
    refine ep_aldN t116_67 rfl (Nat.le_of_ble_eq_true rfl) (Nat.ne_of_beq_eq_false rfl) (Nat.le_of_ble_eq_true rfl) (by have := hw.2.1; omega) ?_
    refine ep_val (b := nI (T 3)) ((congrFun (h1 33 (by decide)) 3).trans (hT.1 3 (by decide))) ?_
    refine ep_ifP t116_68 (ic_ge (by have := hw.2.1; omega) (by have := hw.2.1; omega)) (fun (c68 : (T 3) ≤ (T 3)) => ?_) (fun (c68 : ¬ ((T 3) ≤ (T 3))) => (by exact absurd (Nat.le_refl _) c68))
    exact K σ' E b _ h1 h44 mi (fun hb => RX_row (hrx hb)) hbt hle
  | d + 1, k, σ', E, b, o4, hk, h1, h44, mi, hrx, hbt, hle => by
    have hk3 : k < T 3 := by omega
    refine ep_iln t116_61 rfl ?_
    refine ep_aln t116_62 rfl ?_
    refine ep_getr (q := 33) t116_63 rfl (Nat.le_of_ble_eq_true rfl) rfl (rfl) ?_
    refine ep_k1 (w := nI 3) t116_66 rfl ?_
    refine ep_aldN t116_67 rfl (Nat.le_of_ble_eq_true rfl) (Nat.ne_of_beq_eq_false rfl) (Nat.le_of_ble_eq_true rfl) (by have := hw.2.1; omega) ?_
    refine ep_val (b := nI (T 3)) ((congrFun (h1 33 (by decide)) 3).trans (hT.1 3 (by decide))) ?_
    refine ep_ifP t116_68 (ic_ge (by have := hw.2.1; omega) (by have := hw.2.1; omega)) (fun (c68 : (T 3) ≤ k) => (by omega)) (fun (c68 : ¬ ((T 3) ≤ k)) => ?_)
    have hsk := xor_lt hs hk3
    have hm1 := (mi s hs).1
    have hm2 := (mi _ hsk).1
    have hpk := hpr _ (hw.2.2.2 k hk3)
    have hpk2 : 1 ≤ pcs T pr k ∧ pcs T pr k ≤ 9 := hpk
    have hx8 := pow_le_256 hw.2.1
    refine ep_aln t116_71 rfl ?_
    refine ep_getr (q := 46) t116_72 rfl (Nat.le_of_ble_eq_true rfl) rfl (rfl) ?_
    refine ep_k2 (w := nI 8) t116_75 rfl ?_
    refine ep_iln t116_77 rfl ?_
    refine ep_mulN (a := 8) (b := s) t116_78 ?_
    refine ep_iln t116_79 rfl ?_
    refine ep_addN (a := 8 * s) (b := k) t116_80 ?_
    refine ep_bldN t116_81 rfl (Nat.le_of_ble_eq_true rfl) (Nat.ne_of_beq_eq_false rfl) (Nat.le_of_ble_eq_true rfl) (by have := hw.2.1; omega) ?_
    refine ep_val (b := bI (decide (why T l s k = 0))) ((congrFun (h1 46 (by decide)) _).trans (hla s k hs hk3)) ?_
    refine ep_bF t116_82 (fun (c82 : (decide (why T l s k = 0)) = false) => ?_) (fun (c82 : (decide (why T l s k = 0)) = true) => ?_)
    · refine ep_k4 (w := nI 99999) t116_104 rfl ?_
      refine ep_is (L' := [some (.ref 31), some (.int (bI b)), some (.int (nI s)), some (.int (nI k)), some (.int (nI 99999))]) t116_106 rfl (Nat.le_of_ble_eq_true rfl) ?_
      refine ep_iln t116_108 rfl ?_
      refine ep_bT t116_109 (fun (c109 : b = true) => ?_) (fun (c109 : b = false) => ?_)
      · refine ep_k1 (w := nI 1) t116_123 rfl ?_
        refine ep_gt t116_124 ?_
        refine ep_isn (L' := [some (.ref 31), some (.int (nI 1)), some (.int (nI s)), some (.int (nI k)), some (.int (nI 99999))]) t116_128 rfl (Nat.le_of_ble_eq_true rfl) ?_
        refine ep_aln t116_129 rfl ?_
        refine ep_getr (q := 44) t116_130 rfl (Nat.le_of_ble_eq_true rfl) rfl (rfl) ?_
        refine ep_iln t116_133 rfl ?_
        refine ep_il t116_134 rfl ?_
        refine ep_aln t116_136 rfl ?_
        refine ep_getr (q := 44) t116_137 rfl (Nat.le_of_ble_eq_true rfl) rfl (rfl) ?_
        refine ep_iln t116_140 rfl ?_
        refine ep_aldN t116_141 rfl (Nat.le_of_ble_eq_true rfl) (Nat.ne_of_beq_eq_false rfl) (Nat.le_of_ble_eq_true rfl) (by have := hw.2.1; omega) ?_
        refine ep_val (b := nI (E s)) (h44 s hs) ?_
        refine ep_ifP t116_142 (ic_ge (by have := hw.2.1; omega) (by have := hw.2.1; omega)) (fun (c142 : (E s) ≤ 99999) => ?_) (fun (c142 : ¬ ((E s) ≤ 99999)) => ?_)
        · refine ep_aln t116_150 rfl ?_
          refine ep_getr (q := 44) t116_151 rfl (Nat.le_of_ble_eq_true rfl) rfl (rfl) ?_
          refine ep_iln t116_154 rfl ?_
          refine ep_aldN t116_155 rfl (Nat.le_of_ble_eq_true rfl) (Nat.ne_of_beq_eq_false rfl) (Nat.le_of_ble_eq_true rfl) (by have := hw.2.1; omega) ?_
          refine ep_val (b := nI (E s)) (h44 s hs) ?_
          refine ep_astN t116_156 rfl (Nat.le_of_ble_eq_true rfl) (Nat.le_of_ble_eq_true rfl) (by have := hw.2.1; omega) ?_
          refine ep_lv (L' := [some (.ref 31), some (.int (bI true)), some (.int (nI s)), some (.int (nI k)), some (.int (nI 99999))]) rfl ?_
          refine ep_inc (b := nI (k + 1)) (L' := [some (.ref 31), some (.int (bI true)), some (.int (nI s)), some (.int (nI (k + 1))), some (.int (nI 99999))]) t116_157 rfl (nI_add k 1) rfl (Nat.le_of_ble_eq_true rfl) ?_
          refine ep_gt t116_160 ?_
          refine L_rk4 hT hw ep2 hpr hla hs K d (k + 1) _ E true _ (by omega) (fun r hr => (g_up_ne hr).trans (h1 r hr)) (fun t ht => ?_) mi (fun hb => ?_) (fun hb => ?_) (by omega)
          · by_cases e : t = s
            · subst e; rw [g_up_eq]
            · rw [g_up_j e]; exact h44 t ht
          · exact absurd hb (by decide)
          · first
            | exact hbt c109
            | (exfalso; omega)
        · refine ep_il t116_145 rfl ?_
          refine ep_gt t116_147 ?_
          refine ep_astN t116_156 rfl (Nat.le_of_ble_eq_true rfl) (Nat.le_of_ble_eq_true rfl) (by have := hw.2.1; omega) ?_
          exact absurd (mi s hs).1 (by omega)
      · refine ep_il t116_112 rfl ?_
        refine ep_aln t116_114 rfl ?_
        refine ep_getr (q := 44) t116_115 rfl (Nat.le_of_ble_eq_true rfl) rfl (rfl) ?_
        refine ep_iln t116_118 rfl ?_
        refine ep_aldN t116_119 rfl (Nat.le_of_ble_eq_true rfl) (Nat.ne_of_beq_eq_false rfl) (Nat.le_of_ble_eq_true rfl) (by have := hw.2.1; omega) ?_
        refine ep_val (b := nI (E s)) (h44 s hs) ?_
        refine ep_ifP t116_120 (ic_ge (by have := hw.2.1; omega) (by have := hw.2.1; omega)) (fun (c120 : (E s) ≤ 99999) => ?_) (fun (c120 : ¬ ((E s) ≤ 99999)) => ?_)
        · refine ep_k1 (w := nI 0) t116_127 rfl ?_
          refine ep_isn (L' := [some (.ref 31), some (.int (nI 0)), some (.int (nI s)), some (.int (nI k)), some (.int (nI 99999))]) t116_128 rfl (Nat.le_of_ble_eq_true rfl) ?_
          refine ep_aln t116_129 rfl ?_
          refine ep_getr (q := 44) t116_130 rfl (Nat.le_of_ble_eq_true rfl) rfl (rfl) ?_
          refine ep_iln t116_133 rfl ?_
          refine ep_il t116_134 rfl ?_
          refine ep_aln t116_136 rfl ?_
          refine ep_getr (q := 44) t116_137 rfl (Nat.le_of_ble_eq_true rfl) rfl (rfl) ?_
          refine ep_iln t116_140 rfl ?_
          refine ep_aldN t116_141 rfl (Nat.le_of_ble_eq_true rfl) (Nat.ne_of_beq_eq_false rfl) (Nat.le_of_ble_eq_true rfl) (by have := hw.2.1; omega) ?_
          refine ep_val (b := nI (E s)) (h44 s hs) ?_
          refine ep_ifP t116_142 (ic_ge (by have := hw.2.1; omega) (by have := hw.2.1; omega)) (fun (c142 : (E s) ≤ 99999) => ?_) (fun (c142 : ¬ ((E s) ≤ 99999)) => ?_)
          · refine ep_aln t116_150 rfl ?_
            refine ep_getr (q := 44) t116_151 rfl (Nat.le_of_ble_eq_true rfl) rfl (rfl) ?_
            refine ep_iln t116_154 rfl ?_
            refine ep_aldN t116_155 rfl (Nat.le_of_ble_eq_true rfl) (Nat.ne_of_beq_eq_false rfl) (Nat.le_of_ble_eq_true rfl) (by have := hw.2.1; omega) ?_
            refine ep_val (b := nI (E s)) (h44 s hs) ?_
            refine ep_astN t116_156 rfl (Nat.le_of_ble_eq_true rfl) (Nat.le_of_ble_eq_true rfl) (by have := hw.2.1; omega) ?_
            refine ep_lv (L' := [some (.ref 31), some (.int (bI false)), some (.int (nI s)), some (.int (nI k)), some (.int (nI 99999))]) rfl ?_
            refine ep_inc (b := nI (k + 1)) (L' := [some (.ref 31), some (.int (bI false)), some (.int (nI s)), some (.int (nI (k + 1))), some (.int (nI 99999))]) t116_157 rfl (nI_add k 1) rfl (Nat.le_of_ble_eq_true rfl) ?_
            refine ep_gt t116_160 ?_
            refine L_rk4 hT hw ep2 hpr hla hs K d (k + 1) _ E false _ (by omega) (fun r hr => (g_up_ne hr).trans (h1 r hr)) (fun t ht => ?_) mi (fun hb => ?_) (fun hb => ?_) (by omega)
            · by_cases e : t = s
              · subst e; rw [g_up_eq]
              · rw [g_up_j e]; exact h44 t ht
            · refine RX_next (hrx c109) (fun hq => ?_)
              first
              | omega
              | exact absurd hq.2 (of_decide_eq_false c82)
            · exact absurd hb (by decide)
          · refine ep_il t116_145 rfl ?_
            refine ep_gt t116_147 ?_
            refine ep_astN t116_156 rfl (Nat.le_of_ble_eq_true rfl) (Nat.le_of_ble_eq_true rfl) (by have := hw.2.1; omega) ?_
            exact absurd (mi s hs).1 (by omega)
        · refine ep_k1 (w := nI 1) t116_123 rfl ?_
          refine ep_gt t116_124 ?_
          refine ep_isn (L' := [some (.ref 31), some (.int (nI 1)), some (.int (nI s)), some (.int (nI k)), some (.int (nI 99999))]) t116_128 rfl (Nat.le_of_ble_eq_true rfl) ?_
          refine ep_aln t116_129 rfl ?_
          refine ep_getr (q := 44) t116_130 rfl (Nat.le_of_ble_eq_true rfl) rfl (rfl) ?_
          refine ep_iln t116_133 rfl ?_
          refine ep_il t116_134 rfl ?_
          refine ep_aln t116_136 rfl ?_
          refine ep_getr (q := 44) t116_137 rfl (Nat.le_of_ble_eq_true rfl) rfl (rfl) ?_
          refine ep_iln t116_140 rfl ?_
          refine ep_aldN t116_141 rfl (Nat.le_of_ble_eq_true rfl) (Nat.ne_of_beq_eq_false rfl) (Nat.le_of_ble_eq_true rfl) (by have := hw.2.1; omega) ?_
          refine ep_val (b := nI (E s)) (h44 s hs) ?_
          refine ep_ifP t116_142 (ic_ge (by have := hw.2.1; omega) (by have := hw.2.1; omega)) (fun (c142 : (E s) ≤ 99999) => ?_) (fun (c142 : ¬ ((E s) ≤ 99999)) => ?_)
          · refine ep_aln t116_150 rfl ?_
            refine ep_getr (q := 44) t116_151 rfl (Nat.le_of_ble_eq_true rfl) rfl (rfl) ?_
            refine ep_iln t116_154 rfl ?_
            refine ep_aldN t116_155 rfl (Nat.le_of_ble_eq_true rfl) (Nat.ne_of_beq_eq_false rfl) (Nat.le_of_ble_eq_true rfl) (by have := hw.2.1; omega) ?_
            refine ep_val (b := nI (E s)) (h44 s hs) ?_
            refine ep_astN t116_156 rfl (Nat.le_of_ble_eq_true rfl) (Nat.le_of_ble_eq_true rfl) (by have := hw.2.1; omega) ?_
            refine ep_lv (L' := [some (.ref 31), some (.int (bI true)), some (.int (nI s)), some (.int (nI k)), some (.int (nI 99999))]) rfl ?_
            refine ep_inc (b := nI (k + 1)) (L' := [some (.ref 31), some (.int (bI true)), some (.int (nI s)), some (.int (nI (k + 1))), some (.int (nI 99999))]) t116_157 rfl (nI_add k 1) rfl (Nat.le_of_ble_eq_true rfl) ?_
            refine ep_gt t116_160 ?_
            refine L_rk4 hT hw ep2 hpr hla hs K d (k + 1) _ E true _ (by omega) (fun r hr => (g_up_ne hr).trans (h1 r hr)) (fun t ht => ?_) mi (fun hb => ?_) (fun hb => ?_) (by omega)
            · by_cases e : t = s
              · subst e; rw [g_up_eq]
              · rw [g_up_j e]; exact h44 t ht
            · exact absurd hb (by decide)
            · first
              | exact hbt c109
              | (exfalso; omega)
          · refine ep_il t116_145 rfl ?_
            refine ep_gt t116_147 ?_
            refine ep_astN t116_156 rfl (Nat.le_of_ble_eq_true rfl) (Nat.le_of_ble_eq_true rfl) (by have := hw.2.1; omega) ?_
            exact absurd (mi s hs).1 (by omega)
    · refine ep_aln t116_85 rfl ?_
      refine ep_getr (q := 44) t116_86 rfl (Nat.le_of_ble_eq_true rfl) rfl (rfl) ?_
      refine ep_iln t116_89 rfl ?_
      refine ep_k1 (w := nI 1) t116_90 rfl ?_
      refine ep_iln t116_91 rfl ?_
      refine ep_oneN (b := k) t116_92 (by have := hw.2.1; omega) ?_
      refine ep_xorN (a := s) (b := 2 ^ k) t116_93 ?_
      refine ep_aldN t116_94 rfl (Nat.le_of_ble_eq_true rfl) (Nat.ne_of_beq_eq_false rfl) (Nat.le_of_ble_eq_true rfl) (by have := hw.2.1; omega) ?_
      refine ep_val (b := nI (E (s ^^^ 2 ^ k))) (h44 _ hsk) ?_
      refine ep_aln t116_95 rfl ?_
      refine ep_iln t116_96 rfl ?_
      refine ep_cv t116_97 rfl rfl (Nat.le_of_ble_eq_true rfl) (Nat.le_of_ble_eq_true rfl) (cl_M_priceOf (T := T) (pr := pr) (by rw [h1 33 (by decide)]; exact hT) hw (fun i hi => (congrFun (h1 36 (by decide)) _).trans (ep2 i hi)) hk3) ?_
      refine ep_addN (a := E (s ^^^ 2 ^ k)) (b := pcs T pr k) t116_100 ?_
      refine ep_gt t116_101 ?_
      refine ep_is (L' := [some (.ref 31), some (.int (bI b)), some (.int (nI s)), some (.int (nI k)), some (.int (nI ((E (s ^^^ 2 ^ k)) + (pcs T pr k))))]) t116_106 rfl (Nat.le_of_ble_eq_true rfl) ?_
      refine ep_iln t116_108 rfl ?_
      refine ep_bT t116_109 (fun (c109 : b = true) => ?_) (fun (c109 : b = false) => ?_)
      · refine ep_k1 (w := nI 1) t116_123 rfl ?_
        refine ep_gt t116_124 ?_
        refine ep_isn (L' := [some (.ref 31), some (.int (nI 1)), some (.int (nI s)), some (.int (nI k)), some (.int (nI ((E (s ^^^ 2 ^ k)) + (pcs T pr k))))]) t116_128 rfl (Nat.le_of_ble_eq_true rfl) ?_
        refine ep_aln t116_129 rfl ?_
        refine ep_getr (q := 44) t116_130 rfl (Nat.le_of_ble_eq_true rfl) rfl (rfl) ?_
        refine ep_iln t116_133 rfl ?_
        refine ep_il t116_134 rfl ?_
        refine ep_aln t116_136 rfl ?_
        refine ep_getr (q := 44) t116_137 rfl (Nat.le_of_ble_eq_true rfl) rfl (rfl) ?_
        refine ep_iln t116_140 rfl ?_
        refine ep_aldN t116_141 rfl (Nat.le_of_ble_eq_true rfl) (Nat.ne_of_beq_eq_false rfl) (Nat.le_of_ble_eq_true rfl) (by have := hw.2.1; omega) ?_
        refine ep_val (b := nI (E s)) (h44 s hs) ?_
        refine ep_ifP t116_142 (ic_ge (by have := hw.2.1; omega) (by have := hw.2.1; omega)) (fun (c142 : (E s) ≤ ((E (s ^^^ 2 ^ k)) + (pcs T pr k))) => ?_) (fun (c142 : ¬ ((E s) ≤ ((E (s ^^^ 2 ^ k)) + (pcs T pr k)))) => ?_)
        · refine ep_aln t116_150 rfl ?_
          refine ep_getr (q := 44) t116_151 rfl (Nat.le_of_ble_eq_true rfl) rfl (rfl) ?_
          refine ep_iln t116_154 rfl ?_
          refine ep_aldN t116_155 rfl (Nat.le_of_ble_eq_true rfl) (Nat.ne_of_beq_eq_false rfl) (Nat.le_of_ble_eq_true rfl) (by have := hw.2.1; omega) ?_
          refine ep_val (b := nI (E s)) (h44 s hs) ?_
          refine ep_astN t116_156 rfl (Nat.le_of_ble_eq_true rfl) (Nat.le_of_ble_eq_true rfl) (by have := hw.2.1; omega) ?_
          refine ep_lv (L' := [some (.ref 31), some (.int (bI true)), some (.int (nI s)), some (.int (nI k)), some (.int (nI ((E (s ^^^ 2 ^ k)) + (pcs T pr k))))]) rfl ?_
          refine ep_inc (b := nI (k + 1)) (L' := [some (.ref 31), some (.int (bI true)), some (.int (nI s)), some (.int (nI (k + 1))), some (.int (nI ((E (s ^^^ 2 ^ k)) + (pcs T pr k))))]) t116_157 rfl (nI_add k 1) rfl (Nat.le_of_ble_eq_true rfl) ?_
          refine ep_gt t116_160 ?_
          refine L_rk4 hT hw ep2 hpr hla hs K d (k + 1) _ E true _ (by omega) (fun r hr => (g_up_ne hr).trans (h1 r hr)) (fun t ht => ?_) mi (fun hb => ?_) (fun hb => ?_) (by omega)
          · by_cases e : t = s
            · subst e; rw [g_up_eq]
            · rw [g_up_j e]; exact h44 t ht
          · exact absurd hb (by decide)
          · first
            | exact hbt c109
            | (exfalso; omega)
        · refine ep_il t116_145 rfl ?_
          refine ep_gt t116_147 ?_
          refine ep_astN t116_156 rfl (Nat.le_of_ble_eq_true rfl) (Nat.le_of_ble_eq_true rfl) (by have := hw.2.1; omega) ?_
          refine ep_lv (L' := [some (.ref 31), some (.int (bI true)), some (.int (nI s)), some (.int (nI k)), some (.int (nI ((E (s ^^^ 2 ^ k)) + (pcs T pr k))))]) rfl ?_
          have hok : lw T l s k := ⟨hk3, of_decide_eq_true c82⟩
          have hlt : E (s ^^^ 2 ^ k) + pcs T pr k < E s := by omega
          have hsm := sm_in (E := E) (s := s) (v := E (s ^^^ 2 ^ k) + pcs T pr k) (2 ^ T 3) hs
          refine ep_inc (b := nI (k + 1)) (L' := [some (.ref 31), some (.int (bI true)), some (.int (nI s)), some (.int (nI (k + 1))), some (.int (nI ((E (s ^^^ 2 ^ k)) + (pcs T pr k))))]) t116_157 rfl (nI_add k 1) rfl (Nat.le_of_ble_eq_true rfl) ?_
          refine ep_gt t116_160 ?_
          refine L_rk4 hT hw ep2 hpr hla hs K d (k + 1) _ (updN E s (E (s ^^^ 2 ^ k) + pcs T pr k)) true _ (by omega) (fun r hr => (g_up_ne hr).trans (h1 r hr)) (fun t ht => ?_) (mi.upd lw_N (lw_p hw hpr) hs hok hlt) (fun hb => ?_) (fun hb => ?_) (by omega)
          · by_cases e : t = s
            · subst e; rw [g_up_eq, updN_eq]
            · rw [g_up_j e, updN_ne e]; exact h44 t ht
          · exact absurd hb (by decide)
          · omega
      · refine ep_il t116_112 rfl ?_
        refine ep_aln t116_114 rfl ?_
        refine ep_getr (q := 44) t116_115 rfl (Nat.le_of_ble_eq_true rfl) rfl (rfl) ?_
        refine ep_iln t116_118 rfl ?_
        refine ep_aldN t116_119 rfl (Nat.le_of_ble_eq_true rfl) (Nat.ne_of_beq_eq_false rfl) (Nat.le_of_ble_eq_true rfl) (by have := hw.2.1; omega) ?_
        refine ep_val (b := nI (E s)) (h44 s hs) ?_
        refine ep_ifP t116_120 (ic_ge (by have := hw.2.1; omega) (by have := hw.2.1; omega)) (fun (c120 : (E s) ≤ ((E (s ^^^ 2 ^ k)) + (pcs T pr k))) => ?_) (fun (c120 : ¬ ((E s) ≤ ((E (s ^^^ 2 ^ k)) + (pcs T pr k)))) => ?_)
        · refine ep_k1 (w := nI 0) t116_127 rfl ?_
          refine ep_isn (L' := [some (.ref 31), some (.int (nI 0)), some (.int (nI s)), some (.int (nI k)), some (.int (nI ((E (s ^^^ 2 ^ k)) + (pcs T pr k))))]) t116_128 rfl (Nat.le_of_ble_eq_true rfl) ?_
          refine ep_aln t116_129 rfl ?_
          refine ep_getr (q := 44) t116_130 rfl (Nat.le_of_ble_eq_true rfl) rfl (rfl) ?_
          refine ep_iln t116_133 rfl ?_
          refine ep_il t116_134 rfl ?_
          refine ep_aln t116_136 rfl ?_
          refine ep_getr (q := 44) t116_137 rfl (Nat.le_of_ble_eq_true rfl) rfl (rfl) ?_
          refine ep_iln t116_140 rfl ?_
          refine ep_aldN t116_141 rfl (Nat.le_of_ble_eq_true rfl) (Nat.ne_of_beq_eq_false rfl) (Nat.le_of_ble_eq_true rfl) (by have := hw.2.1; omega) ?_
          refine ep_val (b := nI (E s)) (h44 s hs) ?_
          refine ep_ifP t116_142 (ic_ge (by have := hw.2.1; omega) (by have := hw.2.1; omega)) (fun (c142 : (E s) ≤ ((E (s ^^^ 2 ^ k)) + (pcs T pr k))) => ?_) (fun (c142 : ¬ ((E s) ≤ ((E (s ^^^ 2 ^ k)) + (pcs T pr k)))) => ?_)
          · refine ep_aln t116_150 rfl ?_
            refine ep_getr (q := 44) t116_151 rfl (Nat.le_of_ble_eq_true rfl) rfl (rfl) ?_
            refine ep_iln t116_154 rfl ?_
            refine ep_aldN t116_155 rfl (Nat.le_of_ble_eq_true rfl) (Nat.ne_of_beq_eq_false rfl) (Nat.le_of_ble_eq_true rfl) (by have := hw.2.1; omega) ?_
            refine ep_val (b := nI (E s)) (h44 s hs) ?_
            refine ep_astN t116_156 rfl (Nat.le_of_ble_eq_true rfl) (Nat.le_of_ble_eq_true rfl) (by have := hw.2.1; omega) ?_
            refine ep_lv (L' := [some (.ref 31), some (.int (bI false)), some (.int (nI s)), some (.int (nI k)), some (.int (nI ((E (s ^^^ 2 ^ k)) + (pcs T pr k))))]) rfl ?_
            refine ep_inc (b := nI (k + 1)) (L' := [some (.ref 31), some (.int (bI false)), some (.int (nI s)), some (.int (nI (k + 1))), some (.int (nI ((E (s ^^^ 2 ^ k)) + (pcs T pr k))))]) t116_157 rfl (nI_add k 1) rfl (Nat.le_of_ble_eq_true rfl) ?_
            refine ep_gt t116_160 ?_
            refine L_rk4 hT hw ep2 hpr hla hs K d (k + 1) _ E false _ (by omega) (fun r hr => (g_up_ne hr).trans (h1 r hr)) (fun t ht => ?_) mi (fun hb => ?_) (fun hb => ?_) (by omega)
            · by_cases e : t = s
              · subst e; rw [g_up_eq]
              · rw [g_up_j e]; exact h44 t ht
            · refine RX_next (hrx c109) (fun hq => ?_)
              first
              | omega
              | exact absurd hq.2 (of_decide_eq_false c82)
            · exact absurd hb (by decide)
          · refine ep_il t116_145 rfl ?_
            refine ep_gt t116_147 ?_
            refine ep_astN t116_156 rfl (Nat.le_of_ble_eq_true rfl) (Nat.le_of_ble_eq_true rfl) (by have := hw.2.1; omega) ?_
            refine ep_lv (L' := [some (.ref 31), some (.int (bI false)), some (.int (nI s)), some (.int (nI k)), some (.int (nI ((E (s ^^^ 2 ^ k)) + (pcs T pr k))))]) rfl ?_
            have hok : lw T l s k := ⟨hk3, of_decide_eq_true c82⟩
            have hlt : E (s ^^^ 2 ^ k) + pcs T pr k < E s := by omega
            have hsm := sm_in (E := E) (s := s) (v := E (s ^^^ 2 ^ k) + pcs T pr k) (2 ^ T 3) hs
            refine ep_inc (b := nI (k + 1)) (L' := [some (.ref 31), some (.int (bI false)), some (.int (nI s)), some (.int (nI (k + 1))), some (.int (nI ((E (s ^^^ 2 ^ k)) + (pcs T pr k))))]) t116_157 rfl (nI_add k 1) rfl (Nat.le_of_ble_eq_true rfl) ?_
            refine ep_gt t116_160 ?_
            refine L_rk4 hT hw ep2 hpr hla hs K d (k + 1) _ (updN E s (E (s ^^^ 2 ^ k) + pcs T pr k)) false _ (by omega) (fun r hr => (g_up_ne hr).trans (h1 r hr)) (fun t ht => ?_) (mi.upd lw_N (lw_p hw hpr) hs hok hlt) (fun hb => ?_) (fun hb => ?_) (by omega)
            · by_cases e : t = s
              · subst e; rw [g_up_eq, updN_eq]
              · rw [g_up_j e, updN_ne e]; exact h44 t ht
            · exact absurd hlt (by omega)
            · omega
        · refine ep_k1 (w := nI 1) t116_123 rfl ?_
          refine ep_gt t116_124 ?_
          refine ep_isn (L' := [some (.ref 31), some (.int (nI 1)), some (.int (nI s)), some (.int (nI k)), some (.int (nI ((E (s ^^^ 2 ^ k)) + (pcs T pr k))))]) t116_128 rfl (Nat.le_of_ble_eq_true rfl) ?_
          refine ep_aln t116_129 rfl ?_
          refine ep_getr (q := 44) t116_130 rfl (Nat.le_of_ble_eq_true rfl) rfl (rfl) ?_
          refine ep_iln t116_133 rfl ?_
          refine ep_il t116_134 rfl ?_
          refine ep_aln t116_136 rfl ?_
          refine ep_getr (q := 44) t116_137 rfl (Nat.le_of_ble_eq_true rfl) rfl (rfl) ?_
          refine ep_iln t116_140 rfl ?_
          refine ep_aldN t116_141 rfl (Nat.le_of_ble_eq_true rfl) (Nat.ne_of_beq_eq_false rfl) (Nat.le_of_ble_eq_true rfl) (by have := hw.2.1; omega) ?_
          refine ep_val (b := nI (E s)) (h44 s hs) ?_
          refine ep_ifP t116_142 (ic_ge (by have := hw.2.1; omega) (by have := hw.2.1; omega)) (fun (c142 : (E s) ≤ ((E (s ^^^ 2 ^ k)) + (pcs T pr k))) => ?_) (fun (c142 : ¬ ((E s) ≤ ((E (s ^^^ 2 ^ k)) + (pcs T pr k)))) => ?_)
          · refine ep_aln t116_150 rfl ?_
            refine ep_getr (q := 44) t116_151 rfl (Nat.le_of_ble_eq_true rfl) rfl (rfl) ?_
            refine ep_iln t116_154 rfl ?_
            refine ep_aldN t116_155 rfl (Nat.le_of_ble_eq_true rfl) (Nat.ne_of_beq_eq_false rfl) (Nat.le_of_ble_eq_true rfl) (by have := hw.2.1; omega) ?_
            refine ep_val (b := nI (E s)) (h44 s hs) ?_
            refine ep_astN t116_156 rfl (Nat.le_of_ble_eq_true rfl) (Nat.le_of_ble_eq_true rfl) (by have := hw.2.1; omega) ?_
            refine ep_lv (L' := [some (.ref 31), some (.int (bI true)), some (.int (nI s)), some (.int (nI k)), some (.int (nI ((E (s ^^^ 2 ^ k)) + (pcs T pr k))))]) rfl ?_
            refine ep_inc (b := nI (k + 1)) (L' := [some (.ref 31), some (.int (bI true)), some (.int (nI s)), some (.int (nI (k + 1))), some (.int (nI ((E (s ^^^ 2 ^ k)) + (pcs T pr k))))]) t116_157 rfl (nI_add k 1) rfl (Nat.le_of_ble_eq_true rfl) ?_
            refine ep_gt t116_160 ?_
            refine L_rk4 hT hw ep2 hpr hla hs K d (k + 1) _ E true _ (by omega) (fun r hr => (g_up_ne hr).trans (h1 r hr)) (fun t ht => ?_) mi (fun hb => ?_) (fun hb => ?_) (by omega)
            · by_cases e : t = s
              · subst e; rw [g_up_eq]
              · rw [g_up_j e]; exact h44 t ht
            · exact absurd hb (by decide)
            · first
              | exact hbt c109
              | (exfalso; omega)
          · refine ep_il t116_145 rfl ?_
            refine ep_gt t116_147 ?_
            refine ep_astN t116_156 rfl (Nat.le_of_ble_eq_true rfl) (Nat.le_of_ble_eq_true rfl) (by have := hw.2.1; omega) ?_
            refine ep_lv (L' := [some (.ref 31), some (.int (bI true)), some (.int (nI s)), some (.int (nI k)), some (.int (nI ((E (s ^^^ 2 ^ k)) + (pcs T pr k))))]) rfl ?_
            have hok : lw T l s k := ⟨hk3, of_decide_eq_true c82⟩
            have hlt : E (s ^^^ 2 ^ k) + pcs T pr k < E s := by omega
            have hsm := sm_in (E := E) (s := s) (v := E (s ^^^ 2 ^ k) + pcs T pr k) (2 ^ T 3) hs
            refine ep_inc (b := nI (k + 1)) (L' := [some (.ref 31), some (.int (bI true)), some (.int (nI s)), some (.int (nI (k + 1))), some (.int (nI ((E (s ^^^ 2 ^ k)) + (pcs T pr k))))]) t116_157 rfl (nI_add k 1) rfl (Nat.le_of_ble_eq_true rfl) ?_
            refine ep_gt t116_160 ?_
            refine L_rk4 hT hw ep2 hpr hla hs K d (k + 1) _ (updN E s (E (s ^^^ 2 ^ k) + pcs T pr k)) true _ (by omega) (fun r hr => (g_up_ne hr).trans (h1 r hr)) (fun t ht => ?_) (mi.upd lw_N (lw_p hw hpr) hs hok hlt) (fun hb => ?_) (fun hb => ?_) (by omega)
            · by_cases e : t = s
              · subst e; rw [g_up_eq, updN_eq]
              · rw [g_up_j e, updN_ne e]; exact h44 t ht
            · exact absurd hb (by decide)
            · omega
theorem L_rk3 {X : gX} {S0 : Nat} {P : Option Value → gS → Prop} {q : Bool} {σ : gT1} {T pr : Nat → Nat} {l : Nat} {W : Nat → Prop} (hT : ToldM (σ 33) T) (hw : WF0 T) (ep2 : ∀ i, i < 3 → σ 36 (2 + i) = nI (pr i)) (hpr : ∀ i, i < 3 → 1 ≤ pr i ∧ pr i ≤ 9) (hla : LAWS σ T l) (K : ∀ (σ' : gT1) (E : Nat → Nat) (b : Bool) (o2 o3 o4 : Option Value), (∀ r, r ≠ 44 → σ' r = σ r) → (∀ t, t < 2 ^ T 3 → σ' 44 t = nI (E t)) → MI (lw T l) (pcs T pr) W (2 ^ T 3) E → (b = false → RX T pr l E (2 ^ T 3) 0) → (b = true → sm E (2 ^ T 3) < S0) → EvP X 116 43 [some (.ref 31), some (.int (bI b)), o2, o3, o4] [] (47, g_rho q, σ') P) : ∀ (d s : Nat) (σ' : gT1) (E : Nat → Nat) (b : Bool) (o3 o4 : Option Value), s + d = 2 ^ T 3 → (∀ r, r ≠ 44 → σ' r = σ r) → (∀ t, t < 2 ^ T 3 → σ' 44 t = nI (E t)) → MI (lw T l) (pcs T pr) W (2 ^ T 3) E → (b = false → RX T pr l E s 0) → (b = true → sm E (2 ^ T 3) < S0) → sm E (2 ^ T 3) ≤ S0 → EvP X 116 51 [some (.ref 31), some (.int (bI b)), some (.int (nI s)), o3, o4] [] (47, g_rho q, σ') P
  | 0, s, σ', E, b, o3, o4, hk, h1, h44, mi, hrx, hbt, hle => by
    obtain rfl : s = 2 ^ T 3 := by omega
    refine ep_iln t116_51 rfl ?_
    refine ep_aln t116_52 rfl ?_
    refine ep_cv t116_53 rfl rfl (Nat.le_of_ble_eq_true rfl) (Nat.le_of_ble_eq_true rfl) (cl_M_states (T := T) ((congrFun (h1 33 (by decide)) 3).trans (hT.1 3 (by decide))) hw.2.1) ?_
    refine ep_ifP t116_56 (ic_ge (by have := pow_le_256 hw.2.1; omega) (by have := pow_le_256 hw.2.1; omega)) (fun (c56 : (2 ^ T 3) ≤ (2 ^ T 3)) => ?_) (fun (c56 : ¬ ((2 ^ T 3) ≤ (2 ^ T 3))) => (by exact absurd (Nat.le_refl _) c56))
    refine ep_gt t116_169 ?_
    exact K σ' E b _ _ _ h1 h44 mi hrx hbt
  | d + 1, s, σ', E, b, o3, o4, hk, h1, h44, mi, hrx, hbt, hle => by
    refine ep_iln t116_51 rfl ?_
    refine ep_aln t116_52 rfl ?_
    refine ep_cv t116_53 rfl rfl (Nat.le_of_ble_eq_true rfl) (Nat.le_of_ble_eq_true rfl) (cl_M_states (T := T) ((congrFun (h1 33 (by decide)) 3).trans (hT.1 3 (by decide))) hw.2.1) ?_
    refine ep_ifP t116_56 (ic_ge (by have := pow_le_256 hw.2.1; omega) (by have := pow_le_256 hw.2.1; omega)) (fun (c56 : (2 ^ T 3) ≤ s) => (by omega)) (fun (c56 : ¬ ((2 ^ T 3) ≤ s)) => ?_)
    refine ep_k1 (w := nI 0) t116_59 rfl ?_
    refine ep_isn (L' := [some (.ref 31), some (.int (bI b)), some (.int (nI s)), some (.int (nI 0)), o4]) t116_60 rfl (Nat.le_of_ble_eq_true rfl) ?_
    refine L_rk4 hT hw ep2 hpr hla (by omega) (fun σ2 E2 b2 o9 g1 g2 g3 g4 g5 g6 => ?_) (T 3) 0 σ' E b _ (by omega) h1 h44 mi hrx hbt hle
    refine ep_inc (b := nI (s + 1)) (L' := [some (.ref 31), some (.int (bI b2)), some (.int (nI (s + 1))), some (.int (nI (T 3))), o9]) t116_163 rfl (nI_add s 1) rfl (Nat.le_of_ble_eq_true rfl) ?_
    refine ep_gt t116_166 ?_
    exact L_rk3 hT hw ep2 hpr hla K d (s + 1) σ2 E2 b2 _ _ (by omega) g1 g2 g3 g4 g5 g6
theorem L_rk2 {X : gX} {P : Option Value → gS → Prop} {q : Bool} {σ : gT1} {T pr : Nat → Nat} {l : Nat} {W : Nat → Prop} (hT : ToldM (σ 33) T) (hw : WF0 T) (ep2 : ∀ i, i < 3 → σ 36 (2 + i) = nI (pr i)) (hpr : ∀ i, i < 3 → 1 ≤ pr i ∧ pr i ≤ 9) (hla : LAWS σ T l) (K : ∀ (σ' : gT1), (∀ r, r ≠ 44 → σ' r = σ r) → (∀ s, s < 2 ^ T 3 → σ' 44 s = nI (fI (dst (lw T l) (pcs T pr) W s))) → P none (47, g_rho q, σ')) : ∀ (d : Nat) (σ' : gT1) (E : Nat → Nat) (b : Bool) (o2 o3 o4 : Option Value), (∀ r, r ≠ 44 → σ' r = σ r) → (∀ t, t < 2 ^ T 3 → σ' 44 t = nI (E t)) → MI (lw T l) (pcs T pr) W (2 ^ T 3) E → (b = false → RX T pr l E (2 ^ T 3) 0) → (b = true → sm E (2 ^ T 3) < d) → EvP X 116 43 [some (.ref 31), some (.int (bI b)), o2, o3, o4] [] (47, g_rho q, σ') P
  | 0, σ', E, b, o2, o3, o4, h1, h44, mi, hrx, hbt => by
    refine ep_iln t116_43 rfl ?_
    refine ep_bF t116_44 (fun (c44 : b = false) => ?_) (fun (c44 : b = true) => (by exact absurd (hbt c44) (Nat.not_lt_zero _)))
    refine ep_rv t116_172 ?_
    exact K σ' h1 (fun s hs => (h44 s hs).trans (congrArg nI (mfin (lw_p hw hpr) lw_N (pow_le_256 hw.2.1) mi (fun s k hs hl => hrx c44 s k (by omega) hs hl) s hs)))
  | d + 1, σ', E, b, o2, o3, o4, h1, h44, mi, hrx, hbt => by
    refine ep_iln t116_43 rfl ?_
    refine ep_bF t116_44 (fun (c44 : b = false) => ?_) (fun (c44 : b = true) => ?_)
    · refine ep_rv t116_172 ?_
      exact K σ' h1 (fun s hs => (h44 s hs).trans (congrArg nI (mfin (lw_p hw hpr) lw_N (pow_le_256 hw.2.1) mi (fun s k hs hl => hrx c44 s k (by omega) hs hl) s hs)))
    · refine ep_k1 (w := nI 0) t116_47 rfl ?_
      refine ep_isn (L' := [some (.ref 31), some (.int (nI 0)), o2, o3, o4]) t116_48 rfl (Nat.le_of_ble_eq_true rfl) ?_
      refine ep_k1 (w := nI 0) t116_49 rfl ?_
      refine ep_isn (L' := [some (.ref 31), some (.int (nI 0)), some (.int (nI 0)), o3, o4]) t116_50 rfl (Nat.le_of_ble_eq_true rfl) ?_
      refine ep_lv (L' := [some (.ref 31), some (.int (bI false)), some (.int (nI 0)), o3, o4]) rfl ?_
      exact L_rk3 (S0 := sm E (2 ^ T 3)) hT hw ep2 hpr hla (fun σ2 E2 b2 p2 p3 p4 g1 g2 g3 g4 g5 => L_rk2 hT hw ep2 hpr hla K d σ2 E2 b2 p2 p3 p4 g1 g2 g3 g4 (fun hb => by have := g5 hb; have := hbt c44; omega)) (2 ^ T 3) 0 σ' E false _ _ (by omega) h1 h44 mi (fun _ t j h4 => absurd h4 (by omega)) (fun hb => absurd hb (by decide)) (Nat.le_refl _)
theorem L_rk1 {X : gX} {q : Bool} {σ : gT1} {T : Nat → Nat} {wb : Nat → Bool} {P : Option Value → gS → Prop} (hT : ToldM (σ 33) T) (hw : WF0 T) (h45 : ∀ s, s < 2 ^ T 3 → σ 45 s = bI (wb s)) (K : ∀ (σ' : gT1), (∀ r, r ≠ 44 → σ' r = σ r) → (∀ t, t < 2 ^ T 3 → σ' 44 t = nI (if wb t = true then 0 else 99999)) → EvP X 116 41 [some (.ref 31), some (.int (nI (2 ^ T 3))), none, none, none] [] (47, g_rho q, σ') P) : ∀ (d s : Nat) (σ' : gT1), s + d = 2 ^ T 3 → (∀ r, r ≠ 44 → σ' r = σ r) → (∀ t, t < s → σ' 44 t = nI (if wb t = true then 0 else 99999)) → EvP X 116 6 [some (.ref 31), some (.int (nI s)), none, none, none] [] (47, g_rho q, σ') P
  | 0, s, σ', hk, h1, h2 => by
    obtain rfl : s = 2 ^ T 3 := by omega
    refine ep_iln t116_6 rfl ?_
    refine ep_aln t116_7 rfl ?_
    refine ep_cv t116_8 rfl rfl (Nat.le_of_ble_eq_true rfl) (Nat.le_of_ble_eq_true rfl) (cl_M_states (T := T) ((congrFun (h1 33 (by decide)) 3).trans (hT.1 3 (by decide))) hw.2.1) ?_
    refine ep_ifP t116_11 (ic_ge (by have := pow_le_256 hw.2.1; omega) (by have := pow_le_256 hw.2.1; omega)) (fun (c11 : (2 ^ T 3) ≤ (2 ^ T 3)) => ?_) (fun (c11 : ¬ ((2 ^ T 3) ≤ (2 ^ T 3))) => (by exact absurd (Nat.le_refl _) c11))
    exact K σ' h1 h2
  | d + 1, s, σ', hk, h1, h2 => by
    refine ep_iln t116_6 rfl ?_
    refine ep_aln t116_7 rfl ?_
    refine ep_cv t116_8 rfl rfl (Nat.le_of_ble_eq_true rfl) (Nat.le_of_ble_eq_true rfl) (cl_M_states (T := T) ((congrFun (h1 33 (by decide)) 3).trans (hT.1 3 (by decide))) hw.2.1) ?_
    refine ep_ifP t116_11 (ic_ge (by have := pow_le_256 hw.2.1; omega) (by have := pow_le_256 hw.2.1; omega)) (fun (c11 : (2 ^ T 3) ≤ s) => (by omega)) (fun (c11 : ¬ ((2 ^ T 3) ≤ s)) => ?_)
    refine ep_aln t116_14 rfl ?_
    refine ep_getr (q := 44) t116_15 rfl (Nat.le_of_ble_eq_true rfl) rfl (rfl) ?_
    refine ep_iln t116_18 rfl ?_
    refine ep_aln t116_19 rfl ?_
    refine ep_getr (q := 45) t116_20 rfl (Nat.le_of_ble_eq_true rfl) rfl (rfl) ?_
    refine ep_iln t116_23 rfl ?_
    refine ep_bldN t116_24 rfl (Nat.le_of_ble_eq_true rfl) (Nat.ne_of_beq_eq_false rfl) (Nat.le_of_ble_eq_true rfl) (by have := pow_le_256 hw.2.1; omega) ?_
    refine ep_val (b := bI (wb s)) ((congrFun (h1 45 (by decide)) s).trans (h45 s (by omega))) ?_
    refine ep_bF t116_25 (fun (c25 : (wb s) = false) => ?_) (fun (c25 : (wb s) = true) => ?_)
    · refine ep_k4 (w := nI 99999) t116_32 rfl ?_
      refine ep_astN t116_34 rfl (Nat.le_of_ble_eq_true rfl) (Nat.le_of_ble_eq_true rfl) (by have := pow_le_256 hw.2.1; omega) ?_
      refine ep_inc (b := nI (s + 1)) (L' := [some (.ref 31), some (.int (nI (s + 1))), none, none, none]) t116_35 rfl (nI_add s 1) rfl (Nat.le_of_ble_eq_true rfl) ?_
      refine ep_gt t116_38 ?_
      refine L_rk1 hT hw h45 K d (s + 1) _ (by omega) (fun r hr => (g_up_ne hr).trans (h1 r hr)) (fun t ht => ?_)
      by_cases e : t = s
      · subst e; rw [g_up_eq]; first | rw [if_pos c25] | rw [if_neg (by rw [c25]; decide)]
      · rw [g_up_j e]; exact h2 t (by omega)
    · refine ep_k1 (w := nI 0) t116_28 rfl ?_
      refine ep_gt t116_29 ?_
      refine ep_astN t116_34 rfl (Nat.le_of_ble_eq_true rfl) (Nat.le_of_ble_eq_true rfl) (by have := pow_le_256 hw.2.1; omega) ?_
      refine ep_inc (b := nI (s + 1)) (L' := [some (.ref 31), some (.int (nI (s + 1))), none, none, none]) t116_35 rfl (nI_add s 1) rfl (Nat.le_of_ble_eq_true rfl) ?_
      refine ep_gt t116_38 ?_
      refine L_rk1 hT hw h45 K d (s + 1) _ (by omega) (fun r hr => (g_up_ne hr).trans (h1 r hr)) (fun t ht => ?_)
      by_cases e : t = s
      · subst e; rw [g_up_eq]; first | rw [if_pos c25] | rw [if_neg (by rw [c25]; decide)]
      · rw [g_up_j e]; exact h2 t (by omega)
theorem cl_M_reckons {X : gX} {q : Bool} {σ : gT1} {T pr : Nat → Nat} {l : Nat} {W : Nat → Prop} {wb : Nat → Bool} (hT : ToldM (σ 33) T) (hw : WF0 T) (h31 : T 1 < 2147483648) (h32 : T 2 < 2147483648) (e1 : σ 36 1 = nI l) (hl : l < 2147483648) (ep2 : ∀ i, i < 3 → σ 36 (2 + i) = nI (pr i)) (hpr : ∀ i, i < 3 → 1 ≤ pr i ∧ pr i ≤ 9) (h45 : ∀ s, s < 2 ^ T 3 → σ 45 s = bI (wb s)) (hwb : ∀ s, s < 2 ^ T 3 → (wb s = true ↔ W s))  : ClP X 116 [.ref 31] (47, g_rho q, σ) (fun v g1 => v = none ∧ ∃ σ', g1 = (47, g_rho q, σ') ∧ (∀ r, r ≠ 43 → r ≠ 44 → r ≠ 46 → σ' r = σ r) ∧ (∀ s, s < 2 ^ T 3 → σ' 44 s = nI (fI (dst (lw T l) (pcs T pr) W s))) ∧ LAWS σ' T l) := by
  refine ClP.of ⟨Nat.le_of_ble_eq_true rfl, rfl⟩ ?_
  show EvP X 116 0 [some (.ref 31), none, none, none, none] [] (47, g_rho q, σ) _
  refine ep_aln t116_0 rfl ?_
  obtain ⟨v9, g9, hm9, rfl, σ1, rfl, a1, a2⟩ := cl_M_laws (X := X) (q := q) (σ := σ) hT hw h31 h32 e1 hl
  have r1 : ∀ r, r ≠ 43 → r ≠ 46 → σ1 r = σ r := a1
  have hT1 : ToldM (σ1 33) T := by rw [a1 33 (by decide) (by decide)]; exact hT
  refine ep_cv t116_1 rfl rfl (Nat.le_of_ble_eq_true rfl) (Nat.le_of_ble_eq_true rfl) (hm9) ?_
  refine ep_k1 (w := nI 0) t116_4 rfl ?_
  refine ep_isn (L' := [some (.ref 31), some (.int (nI 0)), none, none, none]) t116_5 rfl (Nat.le_of_ble_eq_true rfl) ?_
  refine L_rk1 (σ := σ1) hT1 hw (fun s hs => (congrFun (a1 45 (by decide) (by decide)) s).trans (h45 s hs)) (fun σ2 b1 b2 => ?_) (2 ^ T 3) 0 σ1 (by omega) (fun _ _ => rfl) (fun t ht => absurd ht (Nat.not_lt_zero t))
  refine ep_k1 (w := nI 1) t116_41 rfl ?_
  refine ep_isn (L' := [some (.ref 31), some (.int (nI 1)), none, none, none]) t116_42 rfl (Nat.le_of_ble_eq_true rfl) ?_
  refine ep_lv (L' := [some (.ref 31), some (.int (bI true)), none, none, none]) rfl ?_
  have mi0 : MI (lw T l) (pcs T pr) W (2 ^ T 3) (fun t => if wb t = true then 0 else 99999) := fun s hs => by
    by_cases e : wb s = true
    · show (if wb s = true then 0 else 99999) ≤ 99999 ∧ ((if wb s = true then 0 else 99999) < 99999 → Co (lw T l) (pcs T pr) W s (if wb s = true then 0 else 99999)) ∧ (W s → (if wb s = true then 0 else 99999) = 0)
      rw [if_pos e]
      exact ⟨by omega, fun _ => Co_zero ((hwb s hs).mp e), fun _ => rfl⟩
    · show (if wb s = true then 0 else 99999) ≤ 99999 ∧ ((if wb s = true then 0 else 99999) < 99999 → Co (lw T l) (pcs T pr) W s (if wb s = true then 0 else 99999)) ∧ (W s → (if wb s = true then 0 else 99999) = 0)
      rw [if_neg e]
      exact ⟨by omega, fun h => absurd h (by omega), fun h => absurd ((hwb s hs).mpr h) e⟩
  exact L_rk2 (σ := σ2) (by rw [b1 33 (by decide)]; exact hT1) hw (fun i hi => (congrFun (b1 36 (by decide)) _).trans ((congrFun (a1 36 (by decide) (by decide)) _).trans (ep2 i hi))) hpr (fun s k hs hk => (congrFun (b1 46 (by decide)) _).trans (a2 s k hs hk)) (fun σ3 c1 c2 => ⟨rfl, σ3, rfl, fun r g1 g2 g3 => (c1 r g2).trans ((b1 r g2).trans (a1 r g1 g3)), c2, fun s k hs hk => (congrFun (c1 46 (by decide)) _).trans ((congrFun (b1 46 (by decide)) _).trans (a2 s k hs hk))⟩) (sm (fun t => if wb t = true then 0 else 99999) (2 ^ T 3) + 1) σ2 (fun t => if wb t = true then 0 else 99999) true none none none (fun _ _ => rfl) b2 mi0 (fun h => absurd h (by decide)) (fun _ => Nat.lt_succ_self _)

