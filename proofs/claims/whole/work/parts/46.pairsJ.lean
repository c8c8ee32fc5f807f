/-! Pairs plan, work, supply. -/
theorem L_pl {X : gX} {q : Bool} {σ : gT1} {T : Nat → Nat} {P : Option Value → gS → Prop} (hT : ToldM (σ 33) T) (hw : WF0 T) (h31 : T 1 < 2147483648) {set wd : Nat} {o3 : Option Value} (hse : set < 2 ^ T 3) (hwd : wd < 2 ^ T 3) (K : ∀ (σ' : gT1), (∀ r, r ≠ 43 → r ≠ 45 → σ' r = σ r) → (∀ t, t < 2 ^ T 3 → σ' 45 t = bI (decide (t &&& set = wd))) → EvP X 118 76 [some (.ref 31), some (.int (nI set)), some (.int (nI wd)), o3, some (.int (nI (2 ^ T 3)))] [] (47, g_rho q, σ') P) : ∀ (d e : Nat) (σ' : gT1), e + d = 2 ^ T 3 → (∀ r, r ≠ 43 → r ≠ 45 → σ' r = σ r) → (∀ t, t < e → σ' 45 t = bI (decide (t &&& set = wd))) → EvP X 118 41 [some (.ref 31), some (.int (nI set)), some (.int (nI wd)), o3, some (.int (nI e))] [] (47, g_rho q, σ') P
  | 0, e, σ', hk, h1, h2 => by
    obtain rfl : e = 2 ^ T 3 := by omega
    have hx8 := pow_le_256 hw.2.1
    refine ep_il t118_41 rfl ?_
    refine ep_aln t118_43 rfl ?_
    refine ep_cv t118_44 rfl rfl (Nat.le_of_ble_eq_true rfl) (Nat.le_of_ble_eq_true rfl) (cl_M_states (T := T) ((congrFun (h1 33 (by decide) (by decide)) 3).trans (hT.1 3 (by decide))) hw.2.1) ?_
    refine ep_ifP t118_47 (ic_ge (by omega) (by omega)) (fun (c47 : (2 ^ T 3) ≤ (2 ^ T 3)) => ?_) (fun (c47 : ¬ ((2 ^ T 3) ≤ (2 ^ T 3))) => (by exact absurd (Nat.le_refl _) c47))
    exact K σ' h1 h2
  | d + 1, e, σ', hk, h1, h2 => by
    have hx8 := pow_le_256 hw.2.1
    have h06 := hw.1
    have he : e < 2 ^ T 3 := by omega
    have ha := and_lt (b := set) he
    refine ep_il t118_41 rfl ?_
    refine ep_aln t118_43 rfl ?_
    refine ep_cv t118_44 rfl rfl (Nat.le_of_ble_eq_true rfl) (Nat.le_of_ble_eq_true rfl) (cl_M_states (T := T) ((congrFun (h1 33 (by decide) (by decide)) 3).trans (hT.1 3 (by decide))) hw.2.1) ?_
    refine ep_ifP t118_47 (ic_ge (by have := live_lt hw.1 e; have := earth_lt hw.1 e; omega) (by have := live_lt hw.1 e; have := earth_lt hw.1 e; omega)) (fun (c47 : (2 ^ T 3) ≤ e) => (by omega)) (fun (c47 : ¬ ((2 ^ T 3) ≤ e)) => ?_)
    refine ep_aln t118_50 rfl ?_
    refine ep_getr (q := 45) t118_51 rfl (Nat.le_of_ble_eq_true rfl) rfl (rfl) ?_
    refine ep_il t118_54 rfl ?_
    refine ep_il t118_56 rfl ?_
    refine ep_iln t118_58 rfl ?_
    refine ep_andN (a := e) (b := set) t118_59 ?_
    refine ep_iln t118_60 rfl ?_
    refine ep_ifP t118_61 (ic_ne (by have := live_lt hw.1 e; have := earth_lt hw.1 e; omega) (by have := live_lt hw.1 e; have := earth_lt hw.1 e; omega)) (fun (c61 : ¬ (e &&& set) = wd) => ?_) (fun (c61 : ¬ (¬ (e &&& set) = wd)) => ?_)
    · refine ep_k1 (w := nI 0) t118_68 rfl ?_
      refine ep_bstN t118_69 rfl (Nat.le_of_ble_eq_true rfl) (Nat.le_of_ble_eq_true rfl) (by have := live_lt hw.1 e; have := earth_lt hw.1 e; omega) ?_
      refine ep_inc (b := nI (e + 1)) (L' := [some (.ref 31), some (.int (nI set)), some (.int (nI wd)), o3, some (.int (nI (e + 1)))]) t118_70 rfl (nI_add e 1) rfl (Nat.le_of_ble_eq_true rfl) ?_
      refine ep_gt t118_73 ?_
      refine L_pl hT hw h31 hse hwd K d (e + 1) _ (by omega) (fun r g1 g2 => (g_up_ne g2).trans (h1 r g1 g2)) (fun t ht => ?_)
      by_cases e9 : t = e
      · subst e9
        rw [g_up_eq]
        first
        | (rw [decide_eq_true (Classical.byContradiction c61)]; rfl)
        | (rw [decide_eq_false c61]; rfl)
      · rw [g_up_j e9]; exact h2 t (by omega)
    · refine ep_k1 (w := nI 1) t118_64 rfl ?_
      refine ep_gt t118_65 ?_
      refine ep_bstN t118_69 rfl (Nat.le_of_ble_eq_true rfl) (Nat.le_of_ble_eq_true rfl) (by have := live_lt hw.1 e; have := earth_lt hw.1 e; omega) ?_
      refine ep_inc (b := nI (e + 1)) (L' := [some (.ref 31), some (.int (nI set)), some (.int (nI wd)), o3, some (.int (nI (e + 1)))]) t118_70 rfl (nI_add e 1) rfl (Nat.le_of_ble_eq_true rfl) ?_
      refine ep_gt t118_73 ?_
      refine L_pl hT hw h31 hse hwd K d (e + 1) _ (by omega) (fun r g1 g2 => (g_up_ne g2).trans (h1 r g1 g2)) (fun t ht => ?_)
      by_cases e9 : t = e
      · subst e9
        rw [g_up_eq]
        first
        | (rw [decide_eq_true (Classical.byContradiction c61)]; rfl)
        | (rw [decide_eq_false c61]; rfl)
      · rw [g_up_j e9]; exact h2 t (by omega)
theorem L_wk {X : gX} {q : Bool} {σ : gT1} {T : Nat → Nat} {P : Option Value → gS → Prop} (hT : ToldM (σ 33) T) (hw : WF0 T) (h31 : T 1 < 2147483648) {u : Nat} {o2 : Option Value} (hu : u < T 0) (K : ∀ (σ' : gT1), (∀ r, r ≠ 43 → r ≠ 45 → σ' r = σ r) → (∀ t, t < 2 ^ T 3 → σ' 45 t = bI ((!(liveM T t).testBit u && (earthM T t).testBit u))) → EvP X 120 79 [some (.ref 31), some (.int (nI u)), o2, some (.int (nI (2 ^ T 3)))] [] (47, g_rho q, σ') P) : ∀ (d e : Nat) (σ' : gT1), e + d = 2 ^ T 3 → (∀ r, r ≠ 43 → r ≠ 45 → σ' r = σ r) → (∀ t, t < e → σ' 45 t = bI ((!(liveM T t).testBit u && (earthM T t).testBit u))) → EvP X 120 22 [some (.ref 31), some (.int (nI u)), o2, some (.int (nI e))] [] (47, g_rho q, σ') P
  | 0, e, σ', hk, h1, h2 => by
    obtain rfl : e = 2 ^ T 3 := by omega
    have hx8 := pow_le_256 hw.2.1
    refine ep_iln t120_22 rfl ?_
    refine ep_aln t120_23 rfl ?_
    refine ep_cv t120_24 rfl rfl (Nat.le_of_ble_eq_true rfl) (Nat.le_of_ble_eq_true rfl) (cl_M_states (T := T) ((congrFun (h1 33 (by decide) (by decide)) 3).trans (hT.1 3 (by decide))) hw.2.1) ?_
    refine ep_ifP t120_27 (ic_ge (by omega) (by omega)) (fun (c27 : (2 ^ T 3) ≤ (2 ^ T 3)) => ?_) (fun (c27 : ¬ ((2 ^ T 3) ≤ (2 ^ T 3))) => (by exact absurd (Nat.le_refl _) c27))
    exact K σ' h1 h2
  | d + 1, e, σ', hk, h1, h2 => by
    have hx8 := pow_le_256 hw.2.1
    have h06 := hw.1
    have he : e < 2 ^ T 3 := by omega
    have hxu := hu
    refine ep_iln t120_22 rfl ?_
    refine ep_aln t120_23 rfl ?_
    refine ep_cv t120_24 rfl rfl (Nat.le_of_ble_eq_true rfl) (Nat.le_of_ble_eq_true rfl) (cl_M_states (T := T) ((congrFun (h1 33 (by decide) (by decide)) 3).trans (hT.1 3 (by decide))) hw.2.1) ?_
    refine ep_ifP t120_27 (ic_ge (by have := live_lt hw.1 e; have := earth_lt hw.1 e; omega) (by have := live_lt hw.1 e; have := earth_lt hw.1 e; omega)) (fun (c27 : (2 ^ T 3) ≤ e) => (by omega)) (fun (c27 : ¬ ((2 ^ T 3) ≤ e)) => ?_)
    refine ep_aln t120_30 rfl ?_
    refine ep_getr (q := 45) t120_31 rfl (Nat.le_of_ble_eq_true rfl) rfl (rfl) ?_
    refine ep_iln t120_34 rfl ?_
    refine ep_aln t120_35 rfl ?_
    refine ep_aln t120_36 rfl ?_
    refine ep_getr (q := 33) t120_37 rfl (Nat.le_of_ble_eq_true rfl) rfl (rfl) ?_
    refine ep_iln t120_40 rfl ?_
    obtain ⟨v8, g8, hm8, σa, la, rfl, rfl, a1, -, -⟩ := cl_M_liveBy_33 (X := X) (q := q) (σ := σ') (T := T) (c := e) (by rw [h1 33 (by decide) (by decide)]; exact hT) hw h31 (by omega)
    refine ep_cv t120_41 rfl rfl (Nat.le_of_ble_eq_true rfl) (Nat.le_of_ble_eq_true rfl) (hm8) ?_
    refine ep_iln t120_44 rfl ?_
    refine ep_cs t120_45 (Nat.ne_of_beq_eq_false rfl) rfl (Nat.le_of_ble_eq_true rfl) (cl_M_has (by have := live_lt hw.1 e; have := earth_lt hw.1 e; omega) (by have := live_lt hw.1 e; have := earth_lt hw.1 e; omega)) ?_
    refine ep_bT t120_48 (fun (c48 : (Nat.testBit (liveM T e) u) = true) => ?_) (fun (c48 : (Nat.testBit (liveM T e) u) = false) => ?_)
    · refine ep_k1 (w := nI 0) t120_71 rfl ?_
      refine ep_bstN t120_72 rfl (Nat.le_of_ble_eq_true rfl) (Nat.le_of_ble_eq_true rfl) (by have := live_lt hw.1 e; have := earth_lt hw.1 e; omega) ?_
      refine ep_inc (b := nI (e + 1)) (L' := [some (.ref 31), some (.int (nI u)), o2, some (.int (nI (e + 1)))]) t120_73 rfl (nI_add e 1) rfl (Nat.le_of_ble_eq_true rfl) ?_
      refine ep_gt t120_76 ?_
      refine L_wk hT hw h31 hu K d (e + 1) _ (by omega) (fun r g1 g2 => (g_up_ne g2).trans ((a1 r g1).trans (h1 r g1 g2))) (fun t ht => ?_)
      by_cases e9 : t = e
      · subst e9
        rw [g_up_eq]
        first
        | (rw [c48, c64]; rfl)
        | (rw [c48]; rfl)
      · rw [g_up_j e9]; exact (congrFun (a1 45 (by decide)) t).trans (h2 t (by omega))
    · refine ep_aln t120_51 rfl ?_
      refine ep_aln t120_52 rfl ?_
      refine ep_getr (q := 33) t120_53 rfl (Nat.le_of_ble_eq_true rfl) rfl (rfl) ?_
      refine ep_iln t120_56 rfl ?_
      obtain ⟨v9, g9, hm9, σb, lb, rfl, rfl, b1, -, -⟩ := cl_M_earthedBy_33 (X := X) (q := q) (σ := σa) (T := T) (c := e) (by rw [a1 33 (by decide), h1 33 (by decide) (by decide)]; exact hT) hw (by omega)
      refine ep_cv t120_57 rfl rfl (Nat.le_of_ble_eq_true rfl) (Nat.le_of_ble_eq_true rfl) (hm9) ?_
      refine ep_iln t120_60 rfl ?_
      refine ep_cs t120_61 (Nat.ne_of_beq_eq_false rfl) rfl (Nat.le_of_ble_eq_true rfl) (cl_M_has (by have := live_lt hw.1 e; have := earth_lt hw.1 e; omega) (by have := live_lt hw.1 e; have := earth_lt hw.1 e; omega)) ?_
      refine ep_bF t120_64 (fun (c64 : (Nat.testBit (earthM T e) u) = false) => ?_) (fun (c64 : (Nat.testBit (earthM T e) u) = true) => ?_)
      · refine ep_k1 (w := nI 0) t120_71 rfl ?_
        refine ep_bstN t120_72 rfl (Nat.le_of_ble_eq_true rfl) (Nat.le_of_ble_eq_true rfl) (by have := live_lt hw.1 e; have := earth_lt hw.1 e; omega) ?_
        refine ep_inc (b := nI (e + 1)) (L' := [some (.ref 31), some (.int (nI u)), o2, some (.int (nI (e + 1)))]) t120_73 rfl (nI_add e 1) rfl (Nat.le_of_ble_eq_true rfl) ?_
        refine ep_gt t120_76 ?_
        refine L_wk hT hw h31 hu K d (e + 1) _ (by omega) (fun r g1 g2 => (g_up_ne g2).trans ((b1 r g1).trans ((a1 r g1).trans (h1 r g1 g2)))) (fun t ht => ?_)
        by_cases e9 : t = e
        · subst e9
          rw [g_up_eq]
          first
          | (rw [c48, c64]; rfl)
          | (rw [c48]; rfl)
        · rw [g_up_j e9]; exact (congrFun (b1 45 (by decide)) t).trans ((congrFun (a1 45 (by decide)) t).trans (h2 t (by omega)))
      · refine ep_k1 (w := nI 1) t120_67 rfl ?_
        refine ep_gt t120_68 ?_
        refine ep_bstN t120_72 rfl (Nat.le_of_ble_eq_true rfl) (Nat.le_of_ble_eq_true rfl) (by have := live_lt hw.1 e; have := earth_lt hw.1 e; omega) ?_
        refine ep_inc (b := nI (e + 1)) (L' := [some (.ref 31), some (.int (nI u)), o2, some (.int (nI (e + 1)))]) t120_73 rfl (nI_add e 1) rfl (Nat.le_of_ble_eq_true rfl) ?_
        refine ep_gt t120_76 ?_
        refine L_wk hT hw h31 hu K d (e + 1) _ (by omega) (fun r g1 g2 => (g_up_ne g2).trans ((b1 r g1).trans ((a1 r g1).trans (h1 r g1 g2)))) (fun t ht => ?_)
        by_cases e9 : t = e
        · subst e9
          rw [g_up_eq]
          first
          | (rw [c48, c64]; rfl)
          | (rw [c48]; rfl)
        · rw [g_up_j e9]; exact (congrFun (b1 45 (by decide)) t).trans ((congrFun (a1 45 (by decide)) t).trans (h2 t (by omega)))
theorem L_sy {X : gX} {q : Bool} {σ : gT1} {T : Nat → Nat} {P : Option Value → gS → Prop} (hT : ToldM (σ 33) T) (hw : WF0 T) (h31 : T 1 < 2147483648) {o1 : Option Value} (h2l : T 2 < 2 ^ T 0) (K : ∀ (σ' : gT1), (∀ r, r ≠ 43 → r ≠ 45 → σ' r = σ r) → (∀ t, t < 2 ^ T 3 → σ' 45 t = bI (decide (andN (T 2) (liveM T t) = 0))) → EvP X 122 60 [some (.ref 31), o1, some (.int (nI (2 ^ T 3)))] [] (47, g_rho q, σ') P) : ∀ (d e : Nat) (σ' : gT1), e + d = 2 ^ T 3 → (∀ r, r ≠ 43 → r ≠ 45 → σ' r = σ r) → (∀ t, t < e → σ' 45 t = bI (decide (andN (T 2) (liveM T t) = 0))) → EvP X 122 14 [some (.ref 31), o1, some (.int (nI e))] [] (47, g_rho q, σ') P
  | 0, e, σ', hk, h1, h2 => by
    obtain rfl : e = 2 ^ T 3 := by omega
    have hx8 := pow_le_256 hw.2.1
    refine ep_iln t122_14 rfl ?_
    refine ep_aln t122_15 rfl ?_
    refine ep_cv t122_16 rfl rfl (Nat.le_of_ble_eq_true rfl) (Nat.le_of_ble_eq_true rfl) (cl_M_states (T := T) ((congrFun (h1 33 (by decide) (by decide)) 3).trans (hT.1 3 (by decide))) hw.2.1) ?_
    refine ep_ifP t122_19 (ic_ge (by omega) (by omega)) (fun (c19 : (2 ^ T 3) ≤ (2 ^ T 3)) => ?_) (fun (c19 : ¬ ((2 ^ T 3) ≤ (2 ^ T 3))) => (by exact absurd (Nat.le_refl _) c19))
    exact K σ' h1 h2
  | d + 1, e, σ', hk, h1, h2 => by
    have hx8 := pow_le_256 hw.2.1
    have h06 := hw.1
    have he : e < 2 ^ T 3 := by omega
    have han : andN (T 2) (liveM T e) < 64 := Nat.lt_of_lt_of_le (andN_le (n := T 0) _ _ h2l) (Nat.pow_le_pow_right (by decide) h06)
    refine ep_iln t122_14 rfl ?_
    refine ep_aln t122_15 rfl ?_
    refine ep_cv t122_16 rfl rfl (Nat.le_of_ble_eq_true rfl) (Nat.le_of_ble_eq_true rfl) (cl_M_states (T := T) ((congrFun (h1 33 (by decide) (by decide)) 3).trans (hT.1 3 (by decide))) hw.2.1) ?_
    refine ep_ifP t122_19 (ic_ge (by have := live_lt hw.1 e; have := earth_lt hw.1 e; omega) (by have := live_lt hw.1 e; have := earth_lt hw.1 e; omega)) (fun (c19 : (2 ^ T 3) ≤ e) => (by omega)) (fun (c19 : ¬ ((2 ^ T 3) ≤ e)) => ?_)
    refine ep_aln t122_22 rfl ?_
    refine ep_getr (q := 45) t122_23 rfl (Nat.le_of_ble_eq_true rfl) rfl (rfl) ?_
    refine ep_iln t122_26 rfl ?_
    refine ep_aln t122_27 rfl ?_
    refine ep_getr (q := 33) t122_28 rfl (Nat.le_of_ble_eq_true rfl) rfl (rfl) ?_
    refine ep_k1 (w := nI 2) t122_31 rfl ?_
    refine ep_aldN t122_32 rfl (Nat.le_of_ble_eq_true rfl) (Nat.ne_of_beq_eq_false rfl) (Nat.le_of_ble_eq_true rfl) (by have := live_lt hw.1 e; have := earth_lt hw.1 e; omega) ?_
    refine ep_val (b := nI (T 2)) ((congrFun (h1 33 (by decide) (by decide)) 2).trans (hT.1 2 (by decide))) ?_
    refine ep_aln t122_33 rfl ?_
    refine ep_aln t122_34 rfl ?_
    refine ep_getr (q := 33) t122_35 rfl (Nat.le_of_ble_eq_true rfl) rfl (rfl) ?_
    refine ep_iln t122_38 rfl ?_
    obtain ⟨v8, g8, hm8, σa, la, rfl, rfl, a1, -, -⟩ := cl_M_liveBy_33 (X := X) (q := q) (σ := σ') (T := T) (c := e) (by rw [h1 33 (by decide) (by decide)]; exact hT) hw h31 (by omega)
    refine ep_cv t122_39 rfl rfl (Nat.le_of_ble_eq_true rfl) (Nat.le_of_ble_eq_true rfl) (hm8) ?_
    refine ep_k1 (w := (-1)) t122_42 rfl ?_
    refine ep_xor t122_43 ?_
    refine ep_and t122_44 ?_
    refine ep_val (b := nI (andN (T 2) (liveM T e))) (and_notG _ _) ?_
    refine ep_if0P t122_45 (ic0_ne (by have := live_lt hw.1 e; have := earth_lt hw.1 e; omega)) (fun (c45 : ¬ (andN (T 2) (liveM T e)) = 0) => ?_) (fun (c45 : ¬ (¬ (andN (T 2) (liveM T e)) = 0)) => ?_)
    · refine ep_k1 (w := nI 0) t122_52 rfl ?_
      refine ep_bstN t122_53 rfl (Nat.le_of_ble_eq_true rfl) (Nat.le_of_ble_eq_true rfl) (by have := live_lt hw.1 e; have := earth_lt hw.1 e; omega) ?_
      refine ep_inc (b := nI (e + 1)) (L' := [some (.ref 31), o1, some (.int (nI (e + 1)))]) t122_54 rfl (nI_add e 1) rfl (Nat.le_of_ble_eq_true rfl) ?_
      refine ep_gt t122_57 ?_
      refine L_sy hT hw h31 h2l K d (e + 1) _ (by omega) (fun r g1 g2 => (g_up_ne g2).trans ((a1 r g1).trans (h1 r g1 g2))) (fun t ht => ?_)
      by_cases e9 : t = e
      · subst e9
        rw [g_up_eq]
        first
        | (rw [decide_eq_true (Classical.byContradiction c45)]; rfl)
        | (rw [decide_eq_false c45]; rfl)
      · rw [g_up_j e9]; exact (congrFun (a1 45 (by decide)) t).trans (h2 t (by omega))
    · refine ep_k1 (w := nI 1) t122_48 rfl ?_
      refine ep_gt t122_49 ?_
      refine ep_bstN t122_53 rfl (Nat.le_of_ble_eq_true rfl) (Nat.le_of_ble_eq_true rfl) (by have := live_lt hw.1 e; have := earth_lt hw.1 e; omega) ?_
      refine ep_inc (b := nI (e + 1)) (L' := [some (.ref 31), o1, some (.int (nI (e + 1)))]) t122_54 rfl (nI_add e 1) rfl (Nat.le_of_ble_eq_true rfl) ?_
      refine ep_gt t122_57 ?_
      refine L_sy hT hw h31 h2l K d (e + 1) _ (by omega) (fun r g1 g2 => (g_up_ne g2).trans ((a1 r g1).trans (h1 r g1 g2))) (fun t ht => ?_)
      by_cases e9 : t = e
      · subst e9
        rw [g_up_eq]
        first
        | (rw [decide_eq_true (Classical.byContradiction c45)]; rfl)
        | (rw [decide_eq_false c45]; rfl)
      · rw [g_up_j e9]; exact (congrFun (a1 45 (by decide)) t).trans (h2 t (by omega))
theorem pr_plan {X : gX} {q : Bool} {σ : gT1} (hR : Rel q σ) (a : Int32) (b : Int32) (c_ : Int32) : Pair X 115 118 [.int a, .int b, .int c_] q σ := by
  have hR0 := hR
  obtain ⟨T, c, l, pr, hN, hW, hT, hO, hU, hI, hS⟩ := hR
  obtain ⟨⟨hwf0, hwf1⟩, ⟨hwf2, hwf3⟩, hwf4, hwf5, hwf6⟩ := hN.1
  have hB3 : σ (np q) 3 = nI (T 3) := hN.2.1.1 3 (by decide)
  have hB0 : σ (np q) 0 = nI (T 0) := hN.2.1.1 0 (by decide)
  have hM3 : σ 33 3 = nI (T 3) := hN.2.2.1 3 (by decide)
  have hM0 : σ 33 0 = nI (T 0) := hN.2.2.1 0 (by decide)
  obtain ⟨hsn, e4, e5, e25, e36⟩ := id hW
  obtain ⟨hc, hl, hp0, hp1, hp2⟩ := hsn.lt hwf4
  have hw0 := hN.1.w0
  have hx2 := pow_le_256 hwf4
  have hx3 : (2 : Nat) ^ T 0 ≤ 256 := pow_le_256 (by omega)
  have h31 : T 1 < 2147483648 := by omega
  have h32 : T 2 < 2147483648 := by omega
  have hl31 : l < 2147483648 := by omega
  have hpp := Nat.two_pow_pos (T 3)
  have hp : np q = 7 ∨ np q = 16 := by cases q <;> decide
  have hpr := hsn.2.2.2
  have ep2 : ∀ i, i < 3 → σ 36 (2 + i) = nI (pr i) := fun i hi => (e36 (2 + i) (by omega)).trans (by rw [Nat.add_comm 2 i]; rfl)
  cases hin : inR a (2 ^ T 3) with
  | false =>
    refine Pair.one (v := -1) hR0 ?_ (fun σ1 h1 => ?_)
    · cases q
      · refine ClP.of ⟨Nat.le_of_ble_eq_true rfl, rfl⟩ ?_
        show EvP X 115 0 [some (.ref 0), some (.int a), some (.int b), some (.int c_)] [] (47, g_rho false, σ) _
        refine ep_iln t115_0 rfl ?_
        refine ep_aln t115_1 rfl ?_
        refine ep_getr (q := 7) t115_2 rfl (Nat.le_of_ble_eq_true rfl) rfl (rfl) ?_
        refine ep_cv t115_5 rfl rfl (Nat.le_of_ble_eq_true rfl) (Nat.le_of_ble_eq_true rfl) (cl_Net_all_7 (T := T) hN.2.1 hwf4) ?_
        refine ep_k1 (w := (-1)) t115_8 rfl ?_
        refine ep_xor t115_9 ?_
        refine ep_and t115_10 ?_
        refine ep_if0 t115_11 (fun (c11 : ¬ (a &&& ((nI (2 ^ T 3 - 1)) ^^^ ((-1)))) = 0) => ?_) (fun (c11 : ¬ (¬ (a &&& ((nI (2 ^ T 3 - 1)) ^^^ ((-1)))) = 0)) => (by obtain ⟨w9, g1, g2, -⟩ := sub_of (n := T 3) (by omega) (by omega) (Classical.byContradiction c11); rw [g2, inR_nI g1 (by omega)] at hin; exact absurd hin (by decide)))
        refine ep_k1 (w := (-1)) t115_27 rfl ?_
        refine ep_ri t115_28 (fun h => absurd h (by decide)) ?_
        exact ⟨σ, rfl, rfl, fun _ _ _ => rfl⟩
      · refine ClP.of ⟨Nat.le_of_ble_eq_true rfl, rfl⟩ ?_
        show EvP X 115 0 [some (.ref 0), some (.int a), some (.int b), some (.int c_)] [] (47, g_rho true, σ) _
        refine ep_iln t115_0 rfl ?_
        refine ep_aln t115_1 rfl ?_
        refine ep_getr (q := 16) t115_2 rfl (Nat.le_of_ble_eq_true rfl) rfl (rfl) ?_
        refine ep_cv t115_5 rfl rfl (Nat.le_of_ble_eq_true rfl) (Nat.le_of_ble_eq_true rfl) (cl_Net_all_16 (T := T) hN.2.1 hwf4) ?_
        refine ep_k1 (w := (-1)) t115_8 rfl ?_
        refine ep_xor t115_9 ?_
        refine ep_and t115_10 ?_
        refine ep_if0 t115_11 (fun (c11 : ¬ (a &&& ((nI (2 ^ T 3 - 1)) ^^^ ((-1)))) = 0) => ?_) (fun (c11 : ¬ (¬ (a &&& ((nI (2 ^ T 3 - 1)) ^^^ ((-1)))) = 0)) => (by obtain ⟨w9, g1, g2, -⟩ := sub_of (n := T 3) (by omega) (by omega) (Classical.byContradiction c11); rw [g2, inR_nI g1 (by omega)] at hin; exact absurd hin (by decide)))
        refine ep_k1 (w := (-1)) t115_27 rfl ?_
        refine ep_ri t115_28 (fun h => absurd h (by decide)) ?_
        exact ⟨σ, rfl, rfl, fun _ _ _ => rfl⟩
    · have r : ∀ p, (p < 7 ∨ 30 < p) → σ1 p = σ p := fun p hp2 => h1 p (by omega) (by omega)
      refine ClP.of ⟨Nat.le_of_ble_eq_true rfl, rfl⟩ ?_
      show EvP X 118 0 [some (.ref 31), some (.int a), some (.int b), some (.int c_), none] [] (47, g_rho q, σ1) _
      refine ep_aln t118_0 rfl ?_
      refine ep_k1 (w := nI 0) t118_1 rfl ?_
      refine ep_put t118_2 rfl (Nat.le_of_ble_eq_true rfl) rfl ?_
      refine ep_iln t118_5 rfl ?_
      refine ep_k1 (w := nI 0) t118_6 rfl ?_
      refine ep_aln t118_7 rfl ?_
      refine ep_cv t118_8 rfl rfl (Nat.le_of_ble_eq_true rfl) (Nat.le_of_ble_eq_true rfl) (cl_M_states (T := T) ((congrFun (r 33 (by decide)) 3).trans hM3) hwf4) ?_
      refine ep_k1 (w := nI 1) t118_11 rfl ?_
      refine ep_subN (a := 2 ^ T 3) (b := 1) t118_12 (by omega) ?_
      refine ep_cs t118_13 (Nat.ne_of_beq_eq_false rfl) rfl (Nat.le_of_ble_eq_true rfl) (cl_M_inB (y := 2 ^ T 3 - 1) _ (by decide) (by omega)) ?_
      refine ep_bF t118_16 (fun (c16 : (inB a 0 (2 ^ T 3 - 1)) = false) => ?_) (fun (c16 : (inB a 0 (2 ^ T 3 - 1)) = true) => (by rw [inB_pred hpp, hin] at c16; exact absurd c16 (by decide)))
      refine ep_k1 (w := (-1)) t118_36 rfl ?_
      refine ep_ri t118_37 (fun h => absurd h (by decide)) ?_
      exact ⟨g_up σ1 31 0 (nI 0), rfl, rfl, fun p a _ _ _ _ => g_up_ne a, fun k hk => g_up_j hk⟩
  | true =>
    obtain ⟨set, hset, rfl⟩ := inR_of (by omega) hin
    have hz0 : nI set &&& (nI (2 ^ T 3 - 1) ^^^ (-1)) = nI 0 := (and_notG _ _).trans (congrArg nI (andN_all hset))
    by_cases hbz : b &&& (nI set ^^^ (-1)) = 0
    · obtain ⟨wd, hwd, rfl, -⟩ := sub_of (by omega) hset hbz
      by_cases hk : (-1 : Int32) ≤ c_
      · rcases ge_m1 hk with rfl | ⟨k, hkk, rfl⟩
        · refine Pair.one (v := a0 (dst (lw T l) (pcs T pr) (fun s => s &&& set = wd) c)) hR0 ?_ (fun σ1 h1 => ?_)
          · cases q
            · refine ClP.of ⟨Nat.le_of_ble_eq_true rfl, rfl⟩ ?_
              show EvP X 115 0 [some (.ref 0), some (.int (nI set)), some (.int (nI wd)), some (.int ((-1 : Int32)))] [] (47, g_rho false, σ) _
              refine ep_iln t115_0 rfl ?_
              refine ep_aln t115_1 rfl ?_
              refine ep_getr (q := 7) t115_2 rfl (Nat.le_of_ble_eq_true rfl) rfl (rfl) ?_
              refine ep_cv t115_5 rfl rfl (Nat.le_of_ble_eq_true rfl) (Nat.le_of_ble_eq_true rfl) (cl_Net_all_7 (T := T) hN.2.1 hwf4) ?_
              refine ep_k1 (w := (-1)) t115_8 rfl ?_
              refine ep_xor t115_9 ?_
              refine ep_and t115_10 ?_
              refine ep_val (b := nI 0) (hz0) ?_
              refine ep_if0P t115_11 (ic0_ne (by omega)) (fun (c11 : ¬ 0 = 0) => (by omega)) (fun (c11 : ¬ (¬ 0 = 0)) => ?_)
              refine ep_iln t115_14 rfl ?_
              refine ep_iln t115_15 rfl ?_
              refine ep_k1 (w := (-1)) t115_16 rfl ?_
              refine ep_xor t115_17 ?_
              refine ep_and t115_18 ?_
              refine ep_val (b := nI 0) (hbz) ?_
              refine ep_if0P t115_19 (ic0_ne (by omega)) (fun (c19 : ¬ 0 = 0) => (by omega)) (fun (c19 : ¬ (¬ 0 = 0)) => ?_)
              refine ep_iln t115_22 rfl ?_
              refine ep_k1 (w := (-1)) t115_23 rfl ?_
              refine ep_if t115_24 (fun (c24 : ((-1)) ≤ ((-1 : Int32))) => ?_) (fun (c24 : ¬ (((-1)) ≤ ((-1 : Int32)))) => (by exact absurd hk c24))
              refine ep_aln t115_29 rfl ?_
              refine ep_iln t115_30 rfl ?_
              refine ep_iln t115_31 rfl ?_
              refine ep_k1 (w := nI 0) t115_32 rfl ?_
              refine ep_k1 (w := nI 0) t115_33 rfl ?_
              obtain ⟨v7, g7, ha7, rfl, σ3, rfl, b1, b2⟩ := cl_B_aim_7 (X := X) (σ := σ) (T := T) (pr := pr) (l := l) (W := (fun s => s &&& set = wd)) hN.2.1 hw0 hsn.2.1 e5 e25 hpr (set := set) (wd := wd) (dae := 0) (lit := 0) (⟨by omega, by omega, by omega, by omega⟩) (fun s _ _ => by rw [Nat.and_zero, Nat.and_zero]; exact ⟨fun h => h.1, fun h => ⟨h, rfl, rfl⟩⟩)
              have hN3 : NetC σ3 (np false) T := hN.2.1.mv (fun r g1 g2 => b1 r (by omega))
              refine ep_cv t115_34 rfl rfl (Nat.le_of_ble_eq_true rfl) (Nat.le_of_ble_eq_true rfl) (ha7) ?_
              refine ep_aln t115_37 rfl ?_
              refine ep_iln t115_38 rfl ?_
              refine ep_cv t115_39 rfl rfl (Nat.le_of_ble_eq_true rfl) (Nat.le_of_ble_eq_true rfl) (cl_B_cheap_m_7 (W := (fun s => s &&& set = wd)) hN3 hw0 hsn.2.1 ((congrFun (b1 0 (by decide)) 5).trans e5) (fun i hi => (congrFun (b1 25 (by decide)) i).trans (e25 i hi)) hpr b2 hsn.1 hsn.2.2.1 ((congrFun (b1 0 (by decide)) 4).trans e4)) ?_
              refine ep_ri t115_42 (fun h => absurd h (by decide)) ?_
              exact ⟨σ3, rfl, rfl, fun p _ h9 => b1 p h9⟩
            · refine ClP.of ⟨Nat.le_of_ble_eq_true rfl, rfl⟩ ?_
              show EvP X 115 0 [some (.ref 0), some (.int (nI set)), some (.int (nI wd)), some (.int ((-1 : Int32)))] [] (47, g_rho true, σ) _
              refine ep_iln t115_0 rfl ?_
              refine ep_aln t115_1 rfl ?_
              refine ep_getr (q := 16) t115_2 rfl (Nat.le_of_ble_eq_true rfl) rfl (rfl) ?_
              refine ep_cv t115_5 rfl rfl (Nat.le_of_ble_eq_true rfl) (Nat.le_of_ble_eq_true rfl) (cl_Net_all_16 (T := T) hN.2.1 hwf4) ?_
              refine ep_k1 (w := (-1)) t115_8 rfl ?_
              refine ep_xor t115_9 ?_
              refine ep_and t115_10 ?_
              refine ep_val (b := nI 0) (hz0) ?_
              refine ep_if0P t115_11 (ic0_ne (by omega)) (fun (c11 : ¬ 0 = 0) => (by omega)) (fun (c11 : ¬ (¬ 0 = 0)) => ?_)
              refine ep_iln t115_14 rfl ?_
              refine ep_iln t115_15 rfl ?_
              refine ep_k1 (w := (-1)) t115_16 rfl ?_
              refine ep_xor t115_17 ?_
              refine ep_and t115_18 ?_
              refine ep_val (b := nI 0) (hbz) ?_
              refine ep_if0P t115_19 (ic0_ne (by omega)) (fun (c19 : ¬ 0 = 0) => (by omega)) (fun (c19 : ¬ (¬ 0 = 0)) => ?_)
              refine ep_iln t115_22 rfl ?_
              refine ep_k1 (w := (-1)) t115_23 rfl ?_
              refine ep_if t115_24 (fun (c24 : ((-1)) ≤ ((-1 : Int32))) => ?_) (fun (c24 : ¬ (((-1)) ≤ ((-1 : Int32)))) => (by exact absurd hk c24))
              refine ep_aln t115_29 rfl ?_
              refine ep_iln t115_30 rfl ?_
              refine ep_iln t115_31 rfl ?_
              refine ep_k1 (w := nI 0) t115_32 rfl ?_
              refine ep_k1 (w := nI 0) t115_33 rfl ?_
              obtain ⟨v7, g7, ha7, rfl, σ3, rfl, b1, b2⟩ := cl_B_aim_16 (X := X) (σ := σ) (T := T) (pr := pr) (l := l) (W := (fun s => s &&& set = wd)) hN.2.1 hw0 hsn.2.1 e5 e25 hpr (set := set) (wd := wd) (dae := 0) (lit := 0) (⟨by omega, by omega, by omega, by omega⟩) (fun s _ _ => by rw [Nat.and_zero, Nat.and_zero]; exact ⟨fun h => h.1, fun h => ⟨h, rfl, rfl⟩⟩)
              have hN3 : NetC σ3 (np true) T := hN.2.1.mv (fun r g1 g2 => b1 r (by omega))
              refine ep_cv t115_34 rfl rfl (Nat.le_of_ble_eq_true rfl) (Nat.le_of_ble_eq_true rfl) (ha7) ?_
              refine ep_aln t115_37 rfl ?_
              refine ep_iln t115_38 rfl ?_
              refine ep_cv t115_39 rfl rfl (Nat.le_of_ble_eq_true rfl) (Nat.le_of_ble_eq_true rfl) (cl_B_cheap_m_16 (W := (fun s => s &&& set = wd)) hN3 hw0 hsn.2.1 ((congrFun (b1 0 (by decide)) 5).trans e5) (fun i hi => (congrFun (b1 25 (by decide)) i).trans (e25 i hi)) hpr b2 hsn.1 hsn.2.2.1 ((congrFun (b1 0 (by decide)) 4).trans e4)) ?_
              refine ep_ri t115_42 (fun h => absurd h (by decide)) ?_
              exact ⟨σ3, rfl, rfl, fun p _ h9 => b1 p h9⟩
          · have r : ∀ p, (p < 7 ∨ 30 < p) → σ1 p = σ p := fun p hp2 => h1 p (by omega) (by omega)
            refine ClP.of ⟨Nat.le_of_ble_eq_true rfl, rfl⟩ ?_
            show EvP X 118 0 [some (.ref 31), some (.int (nI set)), some (.int (nI wd)), some (.int ((-1 : Int32))), none] [] (47, g_rho q, σ1) _
            refine ep_aln t118_0 rfl ?_
            refine ep_k1 (w := nI 0) t118_1 rfl ?_
            refine ep_put t118_2 rfl (Nat.le_of_ble_eq_true rfl) rfl ?_
            refine ep_iln t118_5 rfl ?_
            refine ep_k1 (w := nI 0) t118_6 rfl ?_
            refine ep_aln t118_7 rfl ?_
            refine ep_cv t118_8 rfl rfl (Nat.le_of_ble_eq_true rfl) (Nat.le_of_ble_eq_true rfl) (cl_M_states (T := T) ((congrFun (r 33 (by decide)) 3).trans hM3) hwf4) ?_
            refine ep_k1 (w := nI 1) t118_11 rfl ?_
            refine ep_subN (a := 2 ^ T 3) (b := 1) t118_12 (by omega) ?_
            refine ep_cs t118_13 (Nat.ne_of_beq_eq_false rfl) rfl (Nat.le_of_ble_eq_true rfl) (cl_M_inB (y := 2 ^ T 3 - 1) _ (by decide) (by omega)) ?_
            refine ep_bF t118_16 (fun (c16 : (inB (nI set) 0 (2 ^ T 3 - 1)) = false) => (by rw [inB_pred hpp, hin] at c16; exact absurd c16 (by decide))) (fun (c16 : (inB (nI set) 0 (2 ^ T 3 - 1)) = true) => ?_)
            refine ep_iln t118_19 rfl ?_
            refine ep_if0P t118_20 (ic0_lt (by omega)) (fun (c20 : wd < 0) => (by omega)) (fun (c20 : ¬ (wd < 0)) => ?_)
            refine ep_iln t118_23 rfl ?_
            refine ep_iln t118_24 rfl ?_
            refine ep_k1 (w := (-1)) t118_25 rfl ?_
            refine ep_xor t118_26 ?_
            refine ep_and t118_27 ?_
            refine ep_val (b := nI 0) (hbz) ?_
            refine ep_if0P t118_28 (ic0_ne (by omega)) (fun (c28 : ¬ 0 = 0) => (by omega)) (fun (c28 : ¬ (¬ 0 = 0)) => ?_)
            refine ep_iln t118_31 rfl ?_
            refine ep_k1 (w := (-1)) t118_32 rfl ?_
            refine ep_if t118_33 (fun (c33 : ((-1)) ≤ ((-1 : Int32))) => ?_) (fun (c33 : ¬ (((-1)) ≤ ((-1 : Int32)))) => (by exact absurd hk c33))
            refine ep_k1 (w := nI 0) t118_38 rfl ?_
            refine ep_is (L' := [some (.ref 31), some (.int (nI set)), some (.int (nI wd)), some (.int ((-1 : Int32))), some (.int (nI 0))]) t118_39 rfl (Nat.le_of_ble_eq_true rfl) ?_
            have hT1 : ToldM (g_up σ1 31 0 (nI 0) 33) T := by show ToldM (σ1 33) T; rw [r 33 (by decide)]; exact hN.2.2
            refine L_pl (σ := g_up σ1 31 0 (nI 0)) hT1 hw0 h31 hset hwd (fun σ4 d1 d2 => ?_) (2 ^ T 3) 0 _ (by omega) (fun _ _ _ => rfl) (fun t ht => absurd ht (Nat.not_lt_zero t))
            refine ep_aln t118_76 rfl ?_
            refine ep_iln t118_77 rfl ?_
            obtain ⟨v9, g9, hm9, σ5, rfl, rfl, f1⟩ := cl_M_tells_m (X := X) (q := q) (σ := σ4) (T := T) (pr := pr) (l := l) (c := c) (W := (fun s => s &&& set = wd)) (wb := (fun t => decide (t &&& set = wd))) (by rw [d1 33 (by decide) (by decide)]; exact hT1) hw0 h31 h32 ((congrFun (d1 36 (by decide) (by decide)) 1).trans ((congrFun (r 36 (by decide)) 1).trans (e36 1 (by decide)))) hl31 (fun i hi => (congrFun (d1 36 (by decide) (by decide)) _).trans ((congrFun (r 36 (by decide)) _).trans (ep2 i hi))) hpr d2 (fun s hs => by rw [decide_eq_true_eq]) hsn.1 hsn.2.2.1 ((congrFun (d1 36 (by decide) (by decide)) 0).trans ((congrFun (r 36 (by decide)) 0).trans (e36 0 (by decide))))
            refine ep_cv t118_78 rfl rfl (Nat.le_of_ble_eq_true rfl) (Nat.le_of_ble_eq_true rfl) (hm9) ?_
            refine ep_ri t118_81 (fun h => absurd h (by decide)) ?_
            exact ⟨σ5, rfl, rfl, fun p a b c d e => (f1 p b c e).trans ((d1 p b d).trans (g_up_ne a)), fun k hk => (congrFun (f1 31 (by decide) (by decide) (by decide)) k).trans ((congrFun (d1 31 (by decide) (by decide)) k).trans (g_up_j hk))⟩
        · refine Pair.one (v := a1 (dst (lw T l) (pcs T pr) (fun s => s &&& set = wd) c) (ansK (lw T l) (pcs T pr) (fun s => s &&& set = wd) c k)) hR0 ?_ (fun σ1 h1 => ?_)
          · cases q
            · refine ClP.of ⟨Nat.le_of_ble_eq_true rfl, rfl⟩ ?_
              show EvP X 115 0 [some (.ref 0), some (.int (nI set)), some (.int (nI wd)), some (.int (nI k))] [] (47, g_rho false, σ) _
              refine ep_iln t115_0 rfl ?_
              refine ep_aln t115_1 rfl ?_
              refine ep_getr (q := 7) t115_2 rfl (Nat.le_of_ble_eq_true rfl) rfl (rfl) ?_
              refine ep_cv t115_5 rfl rfl (Nat.le_of_ble_eq_true rfl) (Nat.le_of_ble_eq_true rfl) (cl_Net_all_7 (T := T) hN.2.1 hwf4) ?_
              refine ep_k1 (w := (-1)) t115_8 rfl ?_
              refine ep_xor t115_9 ?_
              refine ep_and t115_10 ?_
              refine ep_val (b := nI 0) (hz0) ?_
              refine ep_if0P t115_11 (ic0_ne (by omega)) (fun (c11 : ¬ 0 = 0) => (by omega)) (fun (c11 : ¬ (¬ 0 = 0)) => ?_)
              refine ep_iln t115_14 rfl ?_
              refine ep_iln t115_15 rfl ?_
              refine ep_k1 (w := (-1)) t115_16 rfl ?_
              refine ep_xor t115_17 ?_
              refine ep_and t115_18 ?_
              refine ep_val (b := nI 0) (hbz) ?_
              refine ep_if0P t115_19 (ic0_ne (by omega)) (fun (c19 : ¬ 0 = 0) => (by omega)) (fun (c19 : ¬ (¬ 0 = 0)) => ?_)
              refine ep_iln t115_22 rfl ?_
              refine ep_k1 (w := (-1)) t115_23 rfl ?_
              refine ep_if t115_24 (fun (c24 : ((-1)) ≤ (nI k)) => ?_) (fun (c24 : ¬ (((-1)) ≤ (nI k))) => (by exact absurd hk c24))
              refine ep_aln t115_29 rfl ?_
              refine ep_iln t115_30 rfl ?_
              refine ep_iln t115_31 rfl ?_
              refine ep_k1 (w := nI 0) t115_32 rfl ?_
              refine ep_k1 (w := nI 0) t115_33 rfl ?_
              obtain ⟨v7, g7, ha7, rfl, σ3, rfl, b1, b2⟩ := cl_B_aim_7 (X := X) (σ := σ) (T := T) (pr := pr) (l := l) (W := (fun s => s &&& set = wd)) hN.2.1 hw0 hsn.2.1 e5 e25 hpr (set := set) (wd := wd) (dae := 0) (lit := 0) (⟨by omega, by omega, by omega, by omega⟩) (fun s _ _ => by rw [Nat.and_zero, Nat.and_zero]; exact ⟨fun h => h.1, fun h => ⟨h, rfl, rfl⟩⟩)
              have hN3 : NetC σ3 (np false) T := hN.2.1.mv (fun r g1 g2 => b1 r (by omega))
              refine ep_cv t115_34 rfl rfl (Nat.le_of_ble_eq_true rfl) (Nat.le_of_ble_eq_true rfl) (ha7) ?_
              refine ep_aln t115_37 rfl ?_
              refine ep_iln t115_38 rfl ?_
              refine ep_cv t115_39 rfl rfl (Nat.le_of_ble_eq_true rfl) (Nat.le_of_ble_eq_true rfl) (cl_B_cheap_n_7 (W := (fun s => s &&& set = wd)) hN3 hw0 hsn.2.1 ((congrFun (b1 0 (by decide)) 5).trans e5) (fun i hi => (congrFun (b1 25 (by decide)) i).trans (e25 i hi)) hpr b2 hsn.1 hsn.2.2.1 ((congrFun (b1 0 (by decide)) 4).trans e4) hkk) ?_
              refine ep_ri t115_42 (fun h => absurd h (by decide)) ?_
              exact ⟨σ3, rfl, rfl, fun p _ h9 => b1 p h9⟩
            · refine ClP.of ⟨Nat.le_of_ble_eq_true rfl, rfl⟩ ?_
              show EvP X 115 0 [some (.ref 0), some (.int (nI set)), some (.int (nI wd)), some (.int (nI k))] [] (47, g_rho true, σ) _
              refine ep_iln t115_0 rfl ?_
              refine ep_aln t115_1 rfl ?_
              refine ep_getr (q := 16) t115_2 rfl (Nat.le_of_ble_eq_true rfl) rfl (rfl) ?_
              refine ep_cv t115_5 rfl rfl (Nat.le_of_ble_eq_true rfl) (Nat.le_of_ble_eq_true rfl) (cl_Net_all_16 (T := T) hN.2.1 hwf4) ?_
              refine ep_k1 (w := (-1)) t115_8 rfl ?_
              refine ep_xor t115_9 ?_
              refine ep_and t115_10 ?_
              refine ep_val (b := nI 0) (hz0) ?_
              refine ep_if0P t115_11 (ic0_ne (by omega)) (fun (c11 : ¬ 0 = 0) => (by omega)) (fun (c11 : ¬ (¬ 0 = 0)) => ?_)
              refine ep_iln t115_14 rfl ?_
              refine ep_iln t115_15 rfl ?_
              refine ep_k1 (w := (-1)) t115_16 rfl ?_
              refine ep_xor t115_17 ?_
              refine ep_and t115_18 ?_
              refine ep_val (b := nI 0) (hbz) ?_
              refine ep_if0P t115_19 (ic0_ne (by omega)) (fun (c19 : ¬ 0 = 0) => (by omega)) (fun (c19 : ¬ (¬ 0 = 0)) => ?_)
              refine ep_iln t115_22 rfl ?_
              refine ep_k1 (w := (-1)) t115_23 rfl ?_
              refine ep_if t115_24 (fun (c24 : ((-1)) ≤ (nI k)) => ?_) (fun (c24 : ¬ (((-1)) ≤ (nI k))) => (by exact absurd hk c24))
              refine ep_aln t115_29 rfl ?_
              refine ep_iln t115_30 rfl ?_
              refine ep_iln t115_31 rfl ?_
              refine ep_k1 (w := nI 0) t115_32 rfl ?_
              refine ep_k1 (w := nI 0) t115_33 rfl ?_
              obtain ⟨v7, g7, ha7, rfl, σ3, rfl, b1, b2⟩ := cl_B_aim_16 (X := X) (σ := σ) (T := T) (pr := pr) (l := l) (W := (fun s => s &&& set = wd)) hN.2.1 hw0 hsn.2.1 e5 e25 hpr (set := set) (wd := wd) (dae := 0) (lit := 0) (⟨by omega, by omega, by omega, by omega⟩) (fun s _ _ => by rw [Nat.and_zero, Nat.and_zero]; exact ⟨fun h => h.1, fun h => ⟨h, rfl, rfl⟩⟩)
              have hN3 : NetC σ3 (np true) T := hN.2.1.mv (fun r g1 g2 => b1 r (by omega))
              refine ep_cv t115_34 rfl rfl (Nat.le_of_ble_eq_true rfl) (Nat.le_of_ble_eq_true rfl) (ha7) ?_
              refine ep_aln t115_37 rfl ?_
              refine ep_iln t115_38 rfl ?_
              refine ep_cv t115_39 rfl rfl (Nat.le_of_ble_eq_true rfl) (Nat.le_of_ble_eq_true rfl) (cl_B_cheap_n_16 (W := (fun s => s &&& set = wd)) hN3 hw0 hsn.2.1 ((congrFun (b1 0 (by decide)) 5).trans e5) (fun i hi => (congrFun (b1 25 (by decide)) i).trans (e25 i hi)) hpr b2 hsn.1 hsn.2.2.1 ((congrFun (b1 0 (by decide)) 4).trans e4) hkk) ?_
              refine ep_ri t115_42 (fun h => absurd h (by decide)) ?_
              exact ⟨σ3, rfl, rfl, fun p _ h9 => b1 p h9⟩
          · have r : ∀ p, (p < 7 ∨ 30 < p) → σ1 p = σ p := fun p hp2 => h1 p (by omega) (by omega)
            refine ClP.of ⟨Nat.le_of_ble_eq_true rfl, rfl⟩ ?_
            show EvP X 118 0 [some (.ref 31), some (.int (nI set)), some (.int (nI wd)), some (.int (nI k)), none] [] (47, g_rho q, σ1) _
            refine ep_aln t118_0 rfl ?_
            refine ep_k1 (w := nI 0) t118_1 rfl ?_
            refine ep_put t118_2 rfl (Nat.le_of_ble_eq_true rfl) rfl ?_
            refine ep_iln t118_5 rfl ?_
            refine ep_k1 (w := nI 0) t118_6 rfl ?_
            refine ep_aln t118_7 rfl ?_
            refine ep_cv t118_8 rfl rfl (Nat.le_of_ble_eq_true rfl) (Nat.le_of_ble_eq_true rfl) (cl_M_states (T := T) ((congrFun (r 33 (by decide)) 3).trans hM3) hwf4) ?_
            refine ep_k1 (w := nI 1) t118_11 rfl ?_
            refine ep_subN (a := 2 ^ T 3) (b := 1) t118_12 (by omega) ?_
            refine ep_cs t118_13 (Nat.ne_of_beq_eq_false rfl) rfl (Nat.le_of_ble_eq_true rfl) (cl_M_inB (y := 2 ^ T 3 - 1) _ (by decide) (by omega)) ?_
            refine ep_bF t118_16 (fun (c16 : (inB (nI set) 0 (2 ^ T 3 - 1)) = false) => (by rw [inB_pred hpp, hin] at c16; exact absurd c16 (by decide))) (fun (c16 : (inB (nI set) 0 (2 ^ T 3 - 1)) = true) => ?_)
            refine ep_iln t118_19 rfl ?_
            refine ep_if0P t118_20 (ic0_lt (by omega)) (fun (c20 : wd < 0) => (by omega)) (fun (c20 : ¬ (wd < 0)) => ?_)
            refine ep_iln t118_23 rfl ?_
            refine ep_iln t118_24 rfl ?_
            refine ep_k1 (w := (-1)) t118_25 rfl ?_
            refine ep_xor t118_26 ?_
            refine ep_and t118_27 ?_
            refine ep_val (b := nI 0) (hbz) ?_
            refine ep_if0P t118_28 (ic0_ne (by omega)) (fun (c28 : ¬ 0 = 0) => (by omega)) (fun (c28 : ¬ (¬ 0 = 0)) => ?_)
            refine ep_iln t118_31 rfl ?_
            refine ep_k1 (w := (-1)) t118_32 rfl ?_
            refine ep_if t118_33 (fun (c33 : ((-1)) ≤ (nI k)) => ?_) (fun (c33 : ¬ (((-1)) ≤ (nI k))) => (by exact absurd hk c33))
            refine ep_k1 (w := nI 0) t118_38 rfl ?_
            refine ep_is (L' := [some (.ref 31), some (.int (nI set)), some (.int (nI wd)), some (.int (nI k)), some (.int (nI 0))]) t118_39 rfl (Nat.le_of_ble_eq_true rfl) ?_
            have hT1 : ToldM (g_up σ1 31 0 (nI 0) 33) T := by show ToldM (σ1 33) T; rw [r 33 (by decide)]; exact hN.2.2
            refine L_pl (σ := g_up σ1 31 0 (nI 0)) hT1 hw0 h31 hset hwd (fun σ4 d1 d2 => ?_) (2 ^ T 3) 0 _ (by omega) (fun _ _ _ => rfl) (fun t ht => absurd ht (Nat.not_lt_zero t))
            refine ep_aln t118_76 rfl ?_
            refine ep_iln t118_77 rfl ?_
            obtain ⟨v9, g9, hm9, σ5, rfl, rfl, f1⟩ := cl_M_tells_n (X := X) (q := q) (σ := σ4) (T := T) (pr := pr) (l := l) (c := c) (W := (fun s => s &&& set = wd)) (wb := (fun t => decide (t &&& set = wd))) (by rw [d1 33 (by decide) (by decide)]; exact hT1) hw0 h31 h32 ((congrFun (d1 36 (by decide) (by decide)) 1).trans ((congrFun (r 36 (by decide)) 1).trans (e36 1 (by decide)))) hl31 (fun i hi => (congrFun (d1 36 (by decide) (by decide)) _).trans ((congrFun (r 36 (by decide)) _).trans (ep2 i hi))) hpr d2 (fun s hs => by rw [decide_eq_true_eq]) hsn.1 hsn.2.2.1 ((congrFun (d1 36 (by decide) (by decide)) 0).trans ((congrFun (r 36 (by decide)) 0).trans (e36 0 (by decide)))) hkk
            refine ep_cv t118_78 rfl rfl (Nat.le_of_ble_eq_true rfl) (Nat.le_of_ble_eq_true rfl) (hm9) ?_
            refine ep_ri t118_81 (fun h => absurd h (by decide)) ?_
            exact ⟨σ5, rfl, rfl, fun p a b c d e => (f1 p b c e).trans ((d1 p b d).trans (g_up_ne a)), fun k hk => (congrFun (f1 31 (by decide) (by decide) (by decide)) k).trans ((congrFun (d1 31 (by decide) (by decide)) k).trans (g_up_j hk))⟩
      · refine Pair.one (v := -1) hR0 ?_ (fun σ1 h1 => ?_)
        · cases q
          · refine ClP.of ⟨Nat.le_of_ble_eq_true rfl, rfl⟩ ?_
            show EvP X 115 0 [some (.ref 0), some (.int (nI set)), some (.int (nI wd)), some (.int c_)] [] (47, g_rho false, σ) _
            refine ep_iln t115_0 rfl ?_
            refine ep_aln t115_1 rfl ?_
            refine ep_getr (q := 7) t115_2 rfl (Nat.le_of_ble_eq_true rfl) rfl (rfl) ?_
            refine ep_cv t115_5 rfl rfl (Nat.le_of_ble_eq_true rfl) (Nat.le_of_ble_eq_true rfl) (cl_Net_all_7 (T := T) hN.2.1 hwf4) ?_
            refine ep_k1 (w := (-1)) t115_8 rfl ?_
            refine ep_xor t115_9 ?_
            refine ep_and t115_10 ?_
            refine ep_val (b := nI 0) (hz0) ?_
            refine ep_if0P t115_11 (ic0_ne (by omega)) (fun (c11 : ¬ 0 = 0) => (by omega)) (fun (c11 : ¬ (¬ 0 = 0)) => ?_)
            refine ep_iln t115_14 rfl ?_
            refine ep_iln t115_15 rfl ?_
            refine ep_k1 (w := (-1)) t115_16 rfl ?_
            refine ep_xor t115_17 ?_
            refine ep_and t115_18 ?_
            refine ep_val (b := nI 0) (hbz) ?_
            refine ep_if0P t115_19 (ic0_ne (by omega)) (fun (c19 : ¬ 0 = 0) => (by omega)) (fun (c19 : ¬ (¬ 0 = 0)) => ?_)
            refine ep_iln t115_22 rfl ?_
            refine ep_k1 (w := (-1)) t115_23 rfl ?_
            refine ep_if t115_24 (fun (c24 : ((-1)) ≤ c_) => (by exact absurd c24 hk)) (fun (c24 : ¬ (((-1)) ≤ c_)) => ?_)
            refine ep_k1 (w := (-1)) t115_27 rfl ?_
            refine ep_ri t115_28 (fun h => absurd h (by decide)) ?_
            exact ⟨σ, rfl, rfl, fun _ _ _ => rfl⟩
          · refine ClP.of ⟨Nat.le_of_ble_eq_true rfl, rfl⟩ ?_
            show EvP X 115 0 [some (.ref 0), some (.int (nI set)), some (.int (nI wd)), some (.int c_)] [] (47, g_rho true, σ) _
            refine ep_iln t115_0 rfl ?_
            refine ep_aln t115_1 rfl ?_
            refine ep_getr (q := 16) t115_2 rfl (Nat.le_of_ble_eq_true rfl) rfl (rfl) ?_
            refine ep_cv t115_5 rfl rfl (Nat.le_of_ble_eq_true rfl) (Nat.le_of_ble_eq_true rfl) (cl_Net_all_16 (T := T) hN.2.1 hwf4) ?_
            refine ep_k1 (w := (-1)) t115_8 rfl ?_
            refine ep_xor t115_9 ?_
            refine ep_and t115_10 ?_
            refine ep_val (b := nI 0) (hz0) ?_
            refine ep_if0P t115_11 (ic0_ne (by omega)) (fun (c11 : ¬ 0 = 0) => (by omega)) (fun (c11 : ¬ (¬ 0 = 0)) => ?_)
            refine ep_iln t115_14 rfl ?_
            refine ep_iln t115_15 rfl ?_
            refine ep_k1 (w := (-1)) t115_16 rfl ?_
            refine ep_xor t115_17 ?_
            refine ep_and t115_18 ?_
            refine ep_val (b := nI 0) (hbz) ?_
            refine ep_if0P t115_19 (ic0_ne (by omega)) (fun (c19 : ¬ 0 = 0) => (by omega)) (fun (c19 : ¬ (¬ 0 = 0)) => ?_)
            refine ep_iln t115_22 rfl ?_
            refine ep_k1 (w := (-1)) t115_23 rfl ?_
            refine ep_if t115_24 (fun (c24 : ((-1)) ≤ c_) => (by exact absurd c24 hk)) (fun (c24 : ¬ (((-1)) ≤ c_)) => ?_)
            refine ep_k1 (w := (-1)) t115_27 rfl ?_
            refine ep_ri t115_28 (fun h => absurd h (by decide)) ?_
            exact ⟨σ, rfl, rfl, fun _ _ _ => rfl⟩
        · have r : ∀ p, (p < 7 ∨ 30 < p) → σ1 p = σ p := fun p hp2 => h1 p (by omega) (by omega)
          refine ClP.of ⟨Nat.le_of_ble_eq_true rfl, rfl⟩ ?_
          show EvP X 118 0 [some (.ref 31), some (.int (nI set)), some (.int (nI wd)), some (.int c_), none] [] (47, g_rho q, σ1) _
          refine ep_aln t118_0 rfl ?_
          refine ep_k1 (w := nI 0) t118_1 rfl ?_
          refine ep_put t118_2 rfl (Nat.le_of_ble_eq_true rfl) rfl ?_
          refine ep_iln t118_5 rfl ?_
          refine ep_k1 (w := nI 0) t118_6 rfl ?_
          refine ep_aln t118_7 rfl ?_
          refine ep_cv t118_8 rfl rfl (Nat.le_of_ble_eq_true rfl) (Nat.le_of_ble_eq_true rfl) (cl_M_states (T := T) ((congrFun (r 33 (by decide)) 3).trans hM3) hwf4) ?_
          refine ep_k1 (w := nI 1) t118_11 rfl ?_
          refine ep_subN (a := 2 ^ T 3) (b := 1) t118_12 (by omega) ?_
          refine ep_cs t118_13 (Nat.ne_of_beq_eq_false rfl) rfl (Nat.le_of_ble_eq_true rfl) (cl_M_inB (y := 2 ^ T 3 - 1) _ (by decide) (by omega)) ?_
          refine ep_bF t118_16 (fun (c16 : (inB (nI set) 0 (2 ^ T 3 - 1)) = false) => (by rw [inB_pred hpp, hin] at c16; exact absurd c16 (by decide))) (fun (c16 : (inB (nI set) 0 (2 ^ T 3 - 1)) = true) => ?_)
          refine ep_iln t118_19 rfl ?_
          refine ep_if0P t118_20 (ic0_lt (by omega)) (fun (c20 : wd < 0) => (by omega)) (fun (c20 : ¬ (wd < 0)) => ?_)
          refine ep_iln t118_23 rfl ?_
          refine ep_iln t118_24 rfl ?_
          refine ep_k1 (w := (-1)) t118_25 rfl ?_
          refine ep_xor t118_26 ?_
          refine ep_and t118_27 ?_
          refine ep_val (b := nI 0) (hbz) ?_
          refine ep_if0P t118_28 (ic0_ne (by omega)) (fun (c28 : ¬ 0 = 0) => (by omega)) (fun (c28 : ¬ (¬ 0 = 0)) => ?_)
          refine ep_iln t118_31 rfl ?_
          refine ep_k1 (w := (-1)) t118_32 rfl ?_
          refine ep_if t118_33 (fun (c33 : ((-1)) ≤ c_) => (by exact absurd c33 hk)) (fun (c33 : ¬ (((-1)) ≤ c_)) => ?_)
          refine ep_k1 (w := (-1)) t118_36 rfl ?_
          refine ep_ri t118_37 (fun h => absurd h (by decide)) ?_
          exact ⟨g_up σ1 31 0 (nI 0), rfl, rfl, fun p a _ _ _ _ => g_up_ne a, fun k hk => g_up_j hk⟩
    · refine Pair.one (v := -1) hR0 ?_ (fun σ1 h1 => ?_)
      · cases q
        · refine ClP.of ⟨Nat.le_of_ble_eq_true rfl, rfl⟩ ?_
          show EvP X 115 0 [some (.ref 0), some (.int (nI set)), some (.int b), some (.int c_)] [] (47, g_rho false, σ) _
          refine ep_iln t115_0 rfl ?_
          refine ep_aln t115_1 rfl ?_
          refine ep_getr (q := 7) t115_2 rfl (Nat.le_of_ble_eq_true rfl) rfl (rfl) ?_
          refine ep_cv t115_5 rfl rfl (Nat.le_of_ble_eq_true rfl) (Nat.le_of_ble_eq_true rfl) (cl_Net_all_7 (T := T) hN.2.1 hwf4) ?_
          refine ep_k1 (w := (-1)) t115_8 rfl ?_
          refine ep_xor t115_9 ?_
          refine ep_and t115_10 ?_
          refine ep_val (b := nI 0) (hz0) ?_
          refine ep_if0P t115_11 (ic0_ne (by omega)) (fun (c11 : ¬ 0 = 0) => (by omega)) (fun (c11 : ¬ (¬ 0 = 0)) => ?_)
          refine ep_iln t115_14 rfl ?_
          refine ep_iln t115_15 rfl ?_
          refine ep_k1 (w := (-1)) t115_16 rfl ?_
          refine ep_xor t115_17 ?_
          refine ep_and t115_18 ?_
          refine ep_if0 t115_19 (fun (c19 : ¬ (b &&& ((nI set) ^^^ ((-1)))) = 0) => ?_) (fun (c19 : ¬ (¬ (b &&& ((nI set) ^^^ ((-1)))) = 0)) => (by exact absurd (Classical.byContradiction c19) hbz))
          refine ep_k1 (w := (-1)) t115_27 rfl ?_
          refine ep_ri t115_28 (fun h => absurd h (by decide)) ?_
          exact ⟨σ, rfl, rfl, fun _ _ _ => rfl⟩
        · refine ClP.of ⟨Nat.le_of_ble_eq_true rfl, rfl⟩ ?_
          show EvP X 115 0 [some (.ref 0), some (.int (nI set)), some (.int b), some (.int c_)] [] (47, g_rho true, σ) _
          refine ep_iln t115_0 rfl ?_
          refine ep_aln t115_1 rfl ?_
          refine ep_getr (q := 16) t115_2 rfl (Nat.le_of_ble_eq_true rfl) rfl (rfl) ?_
          refine ep_cv t115_5 rfl rfl (Nat.le_of_ble_eq_true rfl) (Nat.le_of_ble_eq_true rfl) (cl_Net_all_16 (T := T) hN.2.1 hwf4) ?_
          refine ep_k1 (w := (-1)) t115_8 rfl ?_
          refine ep_xor t115_9 ?_
          refine ep_and t115_10 ?_
          refine ep_val (b := nI 0) (hz0) ?_
          refine ep_if0P t115_11 (ic0_ne (by omega)) (fun (c11 : ¬ 0 = 0) => (by omega)) (fun (c11 : ¬ (¬ 0 = 0)) => ?_)
          refine ep_iln t115_14 rfl ?_
          refine ep_iln t115_15 rfl ?_
          refine ep_k1 (w := (-1)) t115_16 rfl ?_
          refine ep_xor t115_17 ?_
          refine ep_and t115_18 ?_
          refine ep_if0 t115_19 (fun (c19 : ¬ (b &&& ((nI set) ^^^ ((-1)))) = 0) => ?_) (fun (c19 : ¬ (¬ (b &&& ((nI set) ^^^ ((-1)))) = 0)) => (by exact absurd (Classical.byContradiction c19) hbz))
          refine ep_k1 (w := (-1)) t115_27 rfl ?_
          refine ep_ri t115_28 (fun h => absurd h (by decide)) ?_
          exact ⟨σ, rfl, rfl, fun _ _ _ => rfl⟩
      · have r : ∀ p, (p < 7 ∨ 30 < p) → σ1 p = σ p := fun p hp2 => h1 p (by omega) (by omega)
        refine ClP.of ⟨Nat.le_of_ble_eq_true rfl, rfl⟩ ?_
        show EvP X 118 0 [some (.ref 31), some (.int (nI set)), some (.int b), some (.int c_), none] [] (47, g_rho q, σ1) _
        refine ep_aln t118_0 rfl ?_
        refine ep_k1 (w := nI 0) t118_1 rfl ?_
        refine ep_put t118_2 rfl (Nat.le_of_ble_eq_true rfl) rfl ?_
        refine ep_iln t118_5 rfl ?_
        refine ep_k1 (w := nI 0) t118_6 rfl ?_
        refine ep_aln t118_7 rfl ?_
        refine ep_cv t118_8 rfl rfl (Nat.le_of_ble_eq_true rfl) (Nat.le_of_ble_eq_true rfl) (cl_M_states (T := T) ((congrFun (r 33 (by decide)) 3).trans hM3) hwf4) ?_
        refine ep_k1 (w := nI 1) t118_11 rfl ?_
        refine ep_subN (a := 2 ^ T 3) (b := 1) t118_12 (by omega) ?_
        refine ep_cs t118_13 (Nat.ne_of_beq_eq_false rfl) rfl (Nat.le_of_ble_eq_true rfl) (cl_M_inB (y := 2 ^ T 3 - 1) _ (by decide) (by omega)) ?_
        refine ep_bF t118_16 (fun (c16 : (inB (nI set) 0 (2 ^ T 3 - 1)) = false) => (by rw [inB_pred hpp, hin] at c16; exact absurd c16 (by decide))) (fun (c16 : (inB (nI set) 0 (2 ^ T 3 - 1)) = true) => ?_)
        refine ep_iln t118_19 rfl ?_
        refine ep_if0 t118_20 (fun (c20 : b < 0) => ?_) (fun (c20 : ¬ (b < 0)) => ?_)
        · refine ep_k1 (w := (-1)) t118_36 rfl ?_
          refine ep_ri t118_37 (fun h => absurd h (by decide)) ?_
          exact ⟨g_up σ1 31 0 (nI 0), rfl, rfl, fun p a _ _ _ _ => g_up_ne a, fun k hk => g_up_j hk⟩
        · refine ep_iln t118_23 rfl ?_
          refine ep_iln t118_24 rfl ?_
          refine ep_k1 (w := (-1)) t118_25 rfl ?_
          refine ep_xor t118_26 ?_
          refine ep_and t118_27 ?_
          refine ep_if0 t118_28 (fun (c28 : ¬ (b &&& ((nI set) ^^^ ((-1)))) = 0) => ?_) (fun (c28 : ¬ (¬ (b &&& ((nI set) ^^^ ((-1)))) = 0)) => (by exact absurd (Classical.byContradiction c28) hbz))
          refine ep_k1 (w := (-1)) t118_36 rfl ?_
          refine ep_ri t118_37 (fun h => absurd h (by decide)) ?_
          exact ⟨g_up σ1 31 0 (nI 0), rfl, rfl, fun p a _ _ _ _ => g_up_ne a, fun k hk => g_up_j hk⟩
theorem pr_work {X : gX} {q : Bool} {σ : gT1} (hR : Rel q σ) (a : Int32) (b : Int32) : Pair X 119 120 [.int a, .int b] q σ := by
  have hR0 := hR
  obtain ⟨T, c, l, pr, hN, hW, hT, hO, hU, hI, hS⟩ := hR
  obtain ⟨⟨hwf0, hwf1⟩, ⟨hwf2, hwf3⟩, hwf4, hwf5, hwf6⟩ := hN.1
  have hB3 : σ (np q) 3 = nI (T 3) := hN.2.1.1 3 (by decide)
  have hB0 : σ (np q) 0 = nI (T 0) := hN.2.1.1 0 (by decide)
  have hM3 : σ 33 3 = nI (T 3) := hN.2.2.1 3 (by decide)
  have hM0 : σ 33 0 = nI (T 0) := hN.2.2.1 0 (by decide)
  obtain ⟨hsn, e4, e5, e25, e36⟩ := id hW
  obtain ⟨hc, hl, hp0, hp1, hp2⟩ := hsn.lt hwf4
  have hw0 := hN.1.w0
  have hx2 := pow_le_256 hwf4
  have hx3 : (2 : Nat) ^ T 0 ≤ 256 := pow_le_256 (by omega)
  have h31 : T 1 < 2147483648 := by omega
  have h32 : T 2 < 2147483648 := by omega
  have hl31 : l < 2147483648 := by omega
  have hpp := Nat.two_pow_pos (T 3)
  have hp : np q = 7 ∨ np q = 16 := by cases q <;> decide
  have hpr := hsn.2.2.2
  have ep2 : ∀ i, i < 3 → σ 36 (2 + i) = nI (pr i) := fun i hi => (e36 (2 + i) (by omega)).trans (by rw [Nat.add_comm 2 i]; rfl)
  cases hin : inR a (T 0) with
  | false =>
    refine Pair.one (v := -1) hR0 ?_ (fun σ1 h1 => ?_)
    · cases q
      · refine ClP.of ⟨Nat.le_of_ble_eq_true rfl, rfl⟩ ?_
        show EvP X 119 0 [some (.ref 0), some (.int a), some (.int b)] [] (47, g_rho false, σ) _
        refine ep_aln t119_0 rfl ?_
        refine ep_iln t119_1 rfl ?_
        refine ep_cv t119_2 rfl rfl (Nat.le_of_ble_eq_true rfl) (Nat.le_of_ble_eq_true rfl) (cl_B_isNode (q := false) _ (by omega) hB0) ?_
        refine ep_bF t119_5 (fun (c5 : (inR a (T 0)) = false) => ?_) (fun (c5 : (inR a (T 0)) = true) => (by exact absurd c5 (by rw [hin]; decide)))
        refine ep_k1 (w := (-1)) t119_13 rfl ?_
        refine ep_ri t119_14 (fun h => absurd h (by decide)) ?_
        exact ⟨σ, rfl, rfl, fun _ _ _ => rfl⟩
      · refine ClP.of ⟨Nat.le_of_ble_eq_true rfl, rfl⟩ ?_
        show EvP X 119 0 [some (.ref 0), some (.int a), some (.int b)] [] (47, g_rho true, σ) _
        refine ep_aln t119_0 rfl ?_
        refine ep_iln t119_1 rfl ?_
        refine ep_cv t119_2 rfl rfl (Nat.le_of_ble_eq_true rfl) (Nat.le_of_ble_eq_true rfl) (cl_B_isNode (q := true) _ (by omega) hB0) ?_
        refine ep_bF t119_5 (fun (c5 : (inR a (T 0)) = false) => ?_) (fun (c5 : (inR a (T 0)) = true) => (by exact absurd c5 (by rw [hin]; decide)))
        refine ep_k1 (w := (-1)) t119_13 rfl ?_
        refine ep_ri t119_14 (fun h => absurd h (by decide)) ?_
        exact ⟨σ, rfl, rfl, fun _ _ _ => rfl⟩
    · have r : ∀ p, (p < 7 ∨ 30 < p) → σ1 p = σ p := fun p hp2 => h1 p (by omega) (by omega)
      refine ClP.of ⟨Nat.le_of_ble_eq_true rfl, rfl⟩ ?_
      show EvP X 120 0 [some (.ref 31), some (.int a), some (.int b), none] [] (47, g_rho q, σ1) _
      refine ep_aln t120_0 rfl ?_
      refine ep_k1 (w := nI 0) t120_1 rfl ?_
      refine ep_put t120_2 rfl (Nat.le_of_ble_eq_true rfl) rfl ?_
      refine ep_aln t120_5 rfl ?_
      refine ep_iln t120_6 rfl ?_
      refine ep_cv t120_7 rfl rfl (Nat.le_of_ble_eq_true rfl) (Nat.le_of_ble_eq_true rfl) (cl_M_isNode (n := T 0) _ (by omega) ((congrFun (r 33 (by decide)) 0).trans hM0)) ?_
      refine ep_bF t120_10 (fun (c10 : (inR a (T 0)) = false) => ?_) (fun (c10 : (inR a (T 0)) = true) => (by exact absurd c10 (by rw [hin]; decide)))
      refine ep_k1 (w := (-1)) t120_18 rfl ?_
      refine ep_ri t120_19 (fun h => absurd h (by decide)) ?_
      exact ⟨g_up σ1 31 0 (nI 0), rfl, rfl, fun p a _ _ _ _ => g_up_ne a, fun k hk => g_up_j hk⟩
  | true =>
    obtain ⟨u, hu, rfl⟩ := inR_of (by omega) hin
    have hpu : 2 ^ u < 256 := pow_lt_256 (by omega)
    by_cases hk : (-1 : Int32) ≤ b
    · rcases ge_m1 hk with rfl | ⟨k, hkk, rfl⟩
      · refine Pair.one (v := a0 (dst (lw T l) (pcs T pr) (fun s => (liveM T s).testBit u = false ∧ (earthM T s).testBit u = true) c)) hR0 ?_ (fun σ1 h1 => ?_)
        · cases q
          · refine ClP.of ⟨Nat.le_of_ble_eq_true rfl, rfl⟩ ?_
            show EvP X 119 0 [some (.ref 0), some (.int (nI u)), some (.int ((-1 : Int32)))] [] (47, g_rho false, σ) _
            refine ep_aln t119_0 rfl ?_
            refine ep_iln t119_1 rfl ?_
            refine ep_cv t119_2 rfl rfl (Nat.le_of_ble_eq_true rfl) (Nat.le_of_ble_eq_true rfl) (cl_B_isNode (q := false) _ (by omega) hB0) ?_
            refine ep_bF t119_5 (fun (c5 : (inR (nI u) (T 0)) = false) => (by exact absurd c5 (by rw [hin]; decide))) (fun (c5 : (inR (nI u) (T 0)) = true) => ?_)
            refine ep_iln t119_8 rfl ?_
            refine ep_k1 (w := (-1)) t119_9 rfl ?_
            refine ep_if t119_10 (fun (c10 : ((-1)) ≤ ((-1 : Int32))) => ?_) (fun (c10 : ¬ (((-1)) ≤ ((-1 : Int32)))) => (by exact absurd hk c10))
            refine ep_aln t119_15 rfl ?_
            refine ep_k1 (w := nI 0) t119_16 rfl ?_
            refine ep_k1 (w := nI 0) t119_17 rfl ?_
            refine ep_k1 (w := nI 1) t119_18 rfl ?_
            refine ep_iln t119_19 rfl ?_
            refine ep_oneN (b := u) t119_20 (by omega) ?_
            refine ep_k1 (w := nI 0) t119_21 rfl ?_
            obtain ⟨v7, g7, ha7, rfl, σ3, rfl, b1, b2⟩ := cl_B_aim_7 (X := X) (σ := σ) (T := T) (pr := pr) (l := l) (W := (fun s => (liveM T s).testBit u = false ∧ (earthM T s).testBit u = true)) hN.2.1 hw0 hsn.2.1 e5 e25 hpr (set := 0) (wd := 0) (dae := 2 ^ u) (lit := 0) (⟨by omega, by omega, by omega, by omega⟩) (fun s _ _ => by rw [Nat.and_zero, Nat.and_zero, and_pow, andN_bit]; cases (liveM T s).testBit u <;> cases (earthM T s).testBit u <;> simp)
            have hN3 : NetC σ3 (np false) T := hN.2.1.mv (fun r g1 g2 => b1 r (by omega))
            refine ep_cv t119_22 rfl rfl (Nat.le_of_ble_eq_true rfl) (Nat.le_of_ble_eq_true rfl) (ha7) ?_
            refine ep_aln t119_25 rfl ?_
            refine ep_iln t119_26 rfl ?_
            refine ep_cv t119_27 rfl rfl (Nat.le_of_ble_eq_true rfl) (Nat.le_of_ble_eq_true rfl) (cl_B_cheap_m_7 (W := (fun s => (liveM T s).testBit u = false ∧ (earthM T s).testBit u = true)) hN3 hw0 hsn.2.1 ((congrFun (b1 0 (by decide)) 5).trans e5) (fun i hi => (congrFun (b1 25 (by decide)) i).trans (e25 i hi)) hpr b2 hsn.1 hsn.2.2.1 ((congrFun (b1 0 (by decide)) 4).trans e4)) ?_
            refine ep_ri t119_30 (fun h => absurd h (by decide)) ?_
            exact ⟨σ3, rfl, rfl, fun p _ h9 => b1 p h9⟩
          · refine ClP.of ⟨Nat.le_of_ble_eq_true rfl, rfl⟩ ?_
            show EvP X 119 0 [some (.ref 0), some (.int (nI u)), some (.int ((-1 : Int32)))] [] (47, g_rho true, σ) _
            refine ep_aln t119_0 rfl ?_
            refine ep_iln t119_1 rfl ?_
            refine ep_cv t119_2 rfl rfl (Nat.le_of_ble_eq_true rfl) (Nat.le_of_ble_eq_true rfl) (cl_B_isNode (q := true) _ (by omega) hB0) ?_
            refine ep_bF t119_5 (fun (c5 : (inR (nI u) (T 0)) = false) => (by exact absurd c5 (by rw [hin]; decide))) (fun (c5 : (inR (nI u) (T 0)) = true) => ?_)
            refine ep_iln t119_8 rfl ?_
            refine ep_k1 (w := (-1)) t119_9 rfl ?_
            refine ep_if t119_10 (fun (c10 : ((-1)) ≤ ((-1 : Int32))) => ?_) (fun (c10 : ¬ (((-1)) ≤ ((-1 : Int32)))) => (by exact absurd hk c10))
            refine ep_aln t119_15 rfl ?_
            refine ep_k1 (w := nI 0) t119_16 rfl ?_
            refine ep_k1 (w := nI 0) t119_17 rfl ?_
            refine ep_k1 (w := nI 1) t119_18 rfl ?_
            refine ep_iln t119_19 rfl ?_
            refine ep_oneN (b := u) t119_20 (by omega) ?_
            refine ep_k1 (w := nI 0) t119_21 rfl ?_
            obtain ⟨v7, g7, ha7, rfl, σ3, rfl, b1, b2⟩ := cl_B_aim_16 (X := X) (σ := σ) (T := T) (pr := pr) (l := l) (W := (fun s => (liveM T s).testBit u = false ∧ (earthM T s).testBit u = true)) hN.2.1 hw0 hsn.2.1 e5 e25 hpr (set := 0) (wd := 0) (dae := 2 ^ u) (lit := 0) (⟨by omega, by omega, by omega, by omega⟩) (fun s _ _ => by rw [Nat.and_zero, Nat.and_zero, and_pow, andN_bit]; cases (liveM T s).testBit u <;> cases (earthM T s).testBit u <;> simp)
            have hN3 : NetC σ3 (np true) T := hN.2.1.mv (fun r g1 g2 => b1 r (by omega))
            refine ep_cv t119_22 rfl rfl (Nat.le_of_ble_eq_true rfl) (Nat.le_of_ble_eq_true rfl) (ha7) ?_
            refine ep_aln t119_25 rfl ?_
            refine ep_iln t119_26 rfl ?_
            refine ep_cv t119_27 rfl rfl (Nat.le_of_ble_eq_true rfl) (Nat.le_of_ble_eq_true rfl) (cl_B_cheap_m_16 (W := (fun s => (liveM T s).testBit u = false ∧ (earthM T s).testBit u = true)) hN3 hw0 hsn.2.1 ((congrFun (b1 0 (by decide)) 5).trans e5) (fun i hi => (congrFun (b1 25 (by decide)) i).trans (e25 i hi)) hpr b2 hsn.1 hsn.2.2.1 ((congrFun (b1 0 (by decide)) 4).trans e4)) ?_
            refine ep_ri t119_30 (fun h => absurd h (by decide)) ?_
            exact ⟨σ3, rfl, rfl, fun p _ h9 => b1 p h9⟩
        · have r : ∀ p, (p < 7 ∨ 30 < p) → σ1 p = σ p := fun p hp2 => h1 p (by omega) (by omega)
          refine ClP.of ⟨Nat.le_of_ble_eq_true rfl, rfl⟩ ?_
          show EvP X 120 0 [some (.ref 31), some (.int (nI u)), some (.int ((-1 : Int32))), none] [] (47, g_rho q, σ1) _
          refine ep_aln t120_0 rfl ?_
          refine ep_k1 (w := nI 0) t120_1 rfl ?_
          refine ep_put t120_2 rfl (Nat.le_of_ble_eq_true rfl) rfl ?_
          refine ep_aln t120_5 rfl ?_
          refine ep_iln t120_6 rfl ?_
          refine ep_cv t120_7 rfl rfl (Nat.le_of_ble_eq_true rfl) (Nat.le_of_ble_eq_true rfl) (cl_M_isNode (n := T 0) _ (by omega) ((congrFun (r 33 (by decide)) 0).trans hM0)) ?_
          refine ep_bF t120_10 (fun (c10 : (inR (nI u) (T 0)) = false) => (by exact absurd c10 (by rw [hin]; decide))) (fun (c10 : (inR (nI u) (T 0)) = true) => ?_)
          refine ep_iln t120_13 rfl ?_
          refine ep_k1 (w := (-1)) t120_14 rfl ?_
          refine ep_if t120_15 (fun (c15 : ((-1)) ≤ ((-1 : Int32))) => ?_) (fun (c15 : ¬ (((-1)) ≤ ((-1 : Int32)))) => (by exact absurd hk c15))
          refine ep_k1 (w := nI 0) t120_20 rfl ?_
          refine ep_isn (L' := [some (.ref 31), some (.int (nI u)), some (.int ((-1 : Int32))), some (.int (nI 0))]) t120_21 rfl (Nat.le_of_ble_eq_true rfl) ?_
          have hT1 : ToldM (g_up σ1 31 0 (nI 0) 33) T := by show ToldM (σ1 33) T; rw [r 33 (by decide)]; exact hN.2.2
          refine L_wk (σ := g_up σ1 31 0 (nI 0)) hT1 hw0 h31 hu (fun σ4 d1 d2 => ?_) (2 ^ T 3) 0 _ (by omega) (fun _ _ _ => rfl) (fun t ht => absurd ht (Nat.not_lt_zero t))
          refine ep_aln t120_79 rfl ?_
          refine ep_iln t120_80 rfl ?_
          obtain ⟨v9, g9, hm9, σ5, rfl, rfl, f1⟩ := cl_M_tells_m (X := X) (q := q) (σ := σ4) (T := T) (pr := pr) (l := l) (c := c) (W := (fun s => (liveM T s).testBit u = false ∧ (earthM T s).testBit u = true)) (wb := (fun t => !(liveM T t).testBit u && (earthM T t).testBit u)) (by rw [d1 33 (by decide) (by decide)]; exact hT1) hw0 h31 h32 ((congrFun (d1 36 (by decide) (by decide)) 1).trans ((congrFun (r 36 (by decide)) 1).trans (e36 1 (by decide)))) hl31 (fun i hi => (congrFun (d1 36 (by decide) (by decide)) _).trans ((congrFun (r 36 (by decide)) _).trans (ep2 i hi))) hpr d2 (fun s hs => by cases (liveM T s).testBit u <;> cases (earthM T s).testBit u <;> simp) hsn.1 hsn.2.2.1 ((congrFun (d1 36 (by decide) (by decide)) 0).trans ((congrFun (r 36 (by decide)) 0).trans (e36 0 (by decide))))
          refine ep_cv t120_81 rfl rfl (Nat.le_of_ble_eq_true rfl) (Nat.le_of_ble_eq_true rfl) (hm9) ?_
          refine ep_ri t120_84 (fun h => absurd h (by decide)) ?_
          exact ⟨σ5, rfl, rfl, fun p a b c d e => (f1 p b c e).trans ((d1 p b d).trans (g_up_ne a)), fun k hk => (congrFun (f1 31 (by decide) (by decide) (by decide)) k).trans ((congrFun (d1 31 (by decide) (by decide)) k).trans (g_up_j hk))⟩
      · refine Pair.one (v := a1 (dst (lw T l) (pcs T pr) (fun s => (liveM T s).testBit u = false ∧ (earthM T s).testBit u = true) c) (ansK (lw T l) (pcs T pr) (fun s => (liveM T s).testBit u = false ∧ (earthM T s).testBit u = true) c k)) hR0 ?_ (fun σ1 h1 => ?_)
        · cases q
          · refine ClP.of ⟨Nat.le_of_ble_eq_true rfl, rfl⟩ ?_
            show EvP X 119 0 [some (.ref 0), some (.int (nI u)), some (.int (nI k))] [] (47, g_rho false, σ) _
            refine ep_aln t119_0 rfl ?_
            refine ep_iln t119_1 rfl ?_
            refine ep_cv t119_2 rfl rfl (Nat.le_of_ble_eq_true rfl) (Nat.le_of_ble_eq_true rfl) (cl_B_isNode (q := false) _ (by omega) hB0) ?_
            refine ep_bF t119_5 (fun (c5 : (inR (nI u) (T 0)) = false) => (by exact absurd c5 (by rw [hin]; decide))) (fun (c5 : (inR (nI u) (T 0)) = true) => ?_)
            refine ep_iln t119_8 rfl ?_
            refine ep_k1 (w := (-1)) t119_9 rfl ?_
            refine ep_if t119_10 (fun (c10 : ((-1)) ≤ (nI k)) => ?_) (fun (c10 : ¬ (((-1)) ≤ (nI k))) => (by exact absurd hk c10))
            refine ep_aln t119_15 rfl ?_
            refine ep_k1 (w := nI 0) t119_16 rfl ?_
            refine ep_k1 (w := nI 0) t119_17 rfl ?_
            refine ep_k1 (w := nI 1) t119_18 rfl ?_
            refine ep_iln t119_19 rfl ?_
            refine ep_oneN (b := u) t119_20 (by omega) ?_
            refine ep_k1 (w := nI 0) t119_21 rfl ?_
            obtain ⟨v7, g7, ha7, rfl, σ3, rfl, b1, b2⟩ := cl_B_aim_7 (X := X) (σ := σ) (T := T) (pr := pr) (l := l) (W := (fun s => (liveM T s).testBit u = false ∧ (earthM T s).testBit u = true)) hN.2.1 hw0 hsn.2.1 e5 e25 hpr (set := 0) (wd := 0) (dae := 2 ^ u) (lit := 0) (⟨by omega, by omega, by omega, by omega⟩) (fun s _ _ => by rw [Nat.and_zero, Nat.and_zero, and_pow, andN_bit]; cases (liveM T s).testBit u <;> cases (earthM T s).testBit u <;> simp)
            have hN3 : NetC σ3 (np false) T := hN.2.1.mv (fun r g1 g2 => b1 r (by omega))
            refine ep_cv t119_22 rfl rfl (Nat.le_of_ble_eq_true rfl) (Nat.le_of_ble_eq_true rfl) (ha7) ?_
            refine ep_aln t119_25 rfl ?_
            refine ep_iln t119_26 rfl ?_
            refine ep_cv t119_27 rfl rfl (Nat.le_of_ble_eq_true rfl) (Nat.le_of_ble_eq_true rfl) (cl_B_cheap_n_7 (W := (fun s => (liveM T s).testBit u = false ∧ (earthM T s).testBit u = true)) hN3 hw0 hsn.2.1 ((congrFun (b1 0 (by decide)) 5).trans e5) (fun i hi => (congrFun (b1 25 (by decide)) i).trans (e25 i hi)) hpr b2 hsn.1 hsn.2.2.1 ((congrFun (b1 0 (by decide)) 4).trans e4) hkk) ?_
            refine ep_ri t119_30 (fun h => absurd h (by decide)) ?_
            exact ⟨σ3, rfl, rfl, fun p _ h9 => b1 p h9⟩
          · refine ClP.of ⟨Nat.le_of_ble_eq_true rfl, rfl⟩ ?_
            show EvP X 119 0 [some (.ref 0), some (.int (nI u)), some (.int (nI k))] [] (47, g_rho true, σ) _
            refine ep_aln t119_0 rfl ?_
            refine ep_iln t119_1 rfl ?_
            refine ep_cv t119_2 rfl rfl (Nat.le_of_ble_eq_true rfl) (Nat.le_of_ble_eq_true rfl) (cl_B_isNode (q := true) _ (by omega) hB0) ?_
            refine ep_bF t119_5 (fun (c5 : (inR (nI u) (T 0)) = false) => (by exact absurd c5 (by rw [hin]; decide))) (fun (c5 : (inR (nI u) (T 0)) = true) => ?_)
            refine ep_iln t119_8 rfl ?_
            refine ep_k1 (w := (-1)) t119_9 rfl ?_
            refine ep_if t119_10 (fun (c10 : ((-1)) ≤ (nI k)) => ?_) (fun (c10 : ¬ (((-1)) ≤ (nI k))) => (by exact absurd hk c10))
            refine ep_aln t119_15 rfl ?_
            refine ep_k1 (w := nI 0) t119_16 rfl ?_
            refine ep_k1 (w := nI 0) t119_17 rfl ?_
            refine ep_k1 (w := nI 1) t119_18 rfl ?_
            refine ep_iln t119_19 rfl ?_
            refine ep_oneN (b := u) t119_20 (by omega) ?_
            refine ep_k1 (w := nI 0) t119_21 rfl ?_
            obtain ⟨v7, g7, ha7, rfl, σ3, rfl, b1, b2⟩ := cl_B_aim_16 (X := X) (σ := σ) (T := T) (pr := pr) (l := l) (W := (fun s => (liveM T s).testBit u = false ∧ (earthM T s).testBit u = true)) hN.2.1 hw0 hsn.2.1 e5 e25 hpr (set := 0) (wd := 0) (dae := 2 ^ u) (lit := 0) (⟨by omega, by omega, by omega, by omega⟩) (fun s _ _ => by rw [Nat.and_zero, Nat.and_zero, and_pow, andN_bit]; cases (liveM T s).testBit u <;> cases (earthM T s).testBit u <;> simp)
            have hN3 : NetC σ3 (np true) T := hN.2.1.mv (fun r g1 g2 => b1 r (by omega))
            refine ep_cv t119_22 rfl rfl (Nat.le_of_ble_eq_true rfl) (Nat.le_of_ble_eq_true rfl) (ha7) ?_
            refine ep_aln t119_25 rfl ?_
            refine ep_iln t119_26 rfl ?_
            refine ep_cv t119_27 rfl rfl (Nat.le_of_ble_eq_true rfl) (Nat.le_of_ble_eq_true rfl) (cl_B_cheap_n_16 (W := (fun s => (liveM T s).testBit u = false ∧ (earthM T s).testBit u = true)) hN3 hw0 hsn.2.1 ((congrFun (b1 0 (by decide)) 5).trans e5) (fun i hi => (congrFun (b1 25 (by decide)) i).trans (e25 i hi)) hpr b2 hsn.1 hsn.2.2.1 ((congrFun (b1 0 (by decide)) 4).trans e4) hkk) ?_
            refine ep_ri t119_30 (fun h => absurd h (by decide)) ?_
            exact ⟨σ3, rfl, rfl, fun p _ h9 => b1 p h9⟩
        · have r : ∀ p, (p < 7 ∨ 30 < p) → σ1 p = σ p := fun p hp2 => h1 p (by omega) (by omega)
          refine ClP.of ⟨Nat.le_of_ble_eq_true rfl, rfl⟩ ?_
          show EvP X 120 0 [some (.ref 31), some (.int (nI u)), some (.int (nI k)), none] [] (47, g_rho q, σ1) _
          refine ep_aln t120_0 rfl ?_
          refine ep_k1 (w := nI 0) t120_1 rfl ?_
          refine ep_put t120_2 rfl (Nat.le_of_ble_eq_true rfl) rfl ?_
          refine ep_aln t120_5 rfl ?_
          refine ep_iln t120_6 rfl ?_
          refine ep_cv t120_7 rfl rfl (Nat.le_of_ble_eq_true rfl) (Nat.le_of_ble_eq_true rfl) (cl_M_isNode (n := T 0) _ (by omega) ((congrFun (r 33 (by decide)) 0).trans hM0)) ?_
          refine ep_bF t120_10 (fun (c10 : (inR (nI u) (T 0)) = false) => (by exact absurd c10 (by rw [hin]; decide))) (fun (c10 : (inR (nI u) (T 0)) = true) => ?_)
          refine ep_iln t120_13 rfl ?_
          refine ep_k1 (w := (-1)) t120_14 rfl ?_
          refine ep_if t120_15 (fun (c15 : ((-1)) ≤ (nI k)) => ?_) (fun (c15 : ¬ (((-1)) ≤ (nI k))) => (by exact absurd hk c15))
          refine ep_k1 (w := nI 0) t120_20 rfl ?_
          refine ep_isn (L' := [some (.ref 31), some (.int (nI u)), some (.int (nI k)), some (.int (nI 0))]) t120_21 rfl (Nat.le_of_ble_eq_true rfl) ?_
          have hT1 : ToldM (g_up σ1 31 0 (nI 0) 33) T := by show ToldM (σ1 33) T; rw [r 33 (by decide)]; exact hN.2.2
          refine L_wk (σ := g_up σ1 31 0 (nI 0)) hT1 hw0 h31 hu (fun σ4 d1 d2 => ?_) (2 ^ T 3) 0 _ (by omega) (fun _ _ _ => rfl) (fun t ht => absurd ht (Nat.not_lt_zero t))
          refine ep_aln t120_79 rfl ?_
          refine ep_iln t120_80 rfl ?_
          obtain ⟨v9, g9, hm9, σ5, rfl, rfl, f1⟩ := cl_M_tells_n (X := X) (q := q) (σ := σ4) (T := T) (pr := pr) (l := l) (c := c) (W := (fun s => (liveM T s).testBit u = false ∧ (earthM T s).testBit u = true)) (wb := (fun t => !(liveM T t).testBit u && (earthM T t).testBit u)) (by rw [d1 33 (by decide) (by decide)]; exact hT1) hw0 h31 h32 ((congrFun (d1 36 (by decide) (by decide)) 1).trans ((congrFun (r 36 (by decide)) 1).trans (e36 1 (by decide)))) hl31 (fun i hi => (congrFun (d1 36 (by decide) (by decide)) _).trans ((congrFun (r 36 (by decide)) _).trans (ep2 i hi))) hpr d2 (fun s hs => by cases (liveM T s).testBit u <;> cases (earthM T s).testBit u <;> simp) hsn.1 hsn.2.2.1 ((congrFun (d1 36 (by decide) (by decide)) 0).trans ((congrFun (r 36 (by decide)) 0).trans (e36 0 (by decide)))) hkk
          refine ep_cv t120_81 rfl rfl (Nat.le_of_ble_eq_true rfl) (Nat.le_of_ble_eq_true rfl) (hm9) ?_
          refine ep_ri t120_84 (fun h => absurd h (by decide)) ?_
          exact ⟨σ5, rfl, rfl, fun p a b c d e => (f1 p b c e).trans ((d1 p b d).trans (g_up_ne a)), fun k hk => (congrFun (f1 31 (by decide) (by decide) (by decide)) k).trans ((congrFun (d1 31 (by decide) (by decide)) k).trans (g_up_j hk))⟩
    · refine Pair.one (v := -1) hR0 ?_ (fun σ1 h1 => ?_)
      · cases q
        · refine ClP.of ⟨Nat.le_of_ble_eq_true rfl, rfl⟩ ?_
          show EvP X 119 0 [some (.ref 0), some (.int (nI u)), some (.int b)] [] (47, g_rho false, σ) _
          refine ep_aln t119_0 rfl ?_
          refine ep_iln t119_1 rfl ?_
          refine ep_cv t119_2 rfl rfl (Nat.le_of_ble_eq_true rfl) (Nat.le_of_ble_eq_true rfl) (cl_B_isNode (q := false) _ (by omega) hB0) ?_
          refine ep_bF t119_5 (fun (c5 : (inR (nI u) (T 0)) = false) => (by exact absurd c5 (by rw [hin]; decide))) (fun (c5 : (inR (nI u) (T 0)) = true) => ?_)
          refine ep_iln t119_8 rfl ?_
          refine ep_k1 (w := (-1)) t119_9 rfl ?_
          refine ep_if t119_10 (fun (c10 : ((-1)) ≤ b) => (by exact absurd c10 hk)) (fun (c10 : ¬ (((-1)) ≤ b)) => ?_)
          refine ep_k1 (w := (-1)) t119_13 rfl ?_
          refine ep_ri t119_14 (fun h => absurd h (by decide)) ?_
          exact ⟨σ, rfl, rfl, fun _ _ _ => rfl⟩
        · refine ClP.of ⟨Nat.le_of_ble_eq_true rfl, rfl⟩ ?_
          show EvP X 119 0 [some (.ref 0), some (.int (nI u)), some (.int b)] [] (47, g_rho true, σ) _
          refine ep_aln t119_0 rfl ?_
          refine ep_iln t119_1 rfl ?_
          refine ep_cv t119_2 rfl rfl (Nat.le_of_ble_eq_true rfl) (Nat.le_of_ble_eq_true rfl) (cl_B_isNode (q := true) _ (by omega) hB0) ?_
          refine ep_bF t119_5 (fun (c5 : (inR (nI u) (T 0)) = false) => (by exact absurd c5 (by rw [hin]; decide))) (fun (c5 : (inR (nI u) (T 0)) = true) => ?_)
          refine ep_iln t119_8 rfl ?_
          refine ep_k1 (w := (-1)) t119_9 rfl ?_
          refine ep_if t119_10 (fun (c10 : ((-1)) ≤ b) => (by exact absurd c10 hk)) (fun (c10 : ¬ (((-1)) ≤ b)) => ?_)
          refine ep_k1 (w := (-1)) t119_13 rfl ?_
          refine ep_ri t119_14 (fun h => absurd h (by decide)) ?_
          exact ⟨σ, rfl, rfl, fun _ _ _ => rfl⟩
      · have r : ∀ p, (p < 7 ∨ 30 < p) → σ1 p = σ p := fun p hp2 => h1 p (by omega) (by omega)
        refine ClP.of ⟨Nat.le_of_ble_eq_true rfl, rfl⟩ ?_
        show EvP X 120 0 [some (.ref 31), some (.int (nI u)), some (.int b), none] [] (47, g_rho q, σ1) _
        refine ep_aln t120_0 rfl ?_
        refine ep_k1 (w := nI 0) t120_1 rfl ?_
        refine ep_put t120_2 rfl (Nat.le_of_ble_eq_true rfl) rfl ?_
        refine ep_aln t120_5 rfl ?_
        refine ep_iln t120_6 rfl ?_
        refine ep_cv t120_7 rfl rfl (Nat.le_of_ble_eq_true rfl) (Nat.le_of_ble_eq_true rfl) (cl_M_isNode (n := T 0) _ (by omega) ((congrFun (r 33 (by decide)) 0).trans hM0)) ?_
        refine ep_bF t120_10 (fun (c10 : (inR (nI u) (T 0)) = false) => (by exact absurd c10 (by rw [hin]; decide))) (fun (c10 : (inR (nI u) (T 0)) = true) => ?_)
        refine ep_iln t120_13 rfl ?_
        refine ep_k1 (w := (-1)) t120_14 rfl ?_
        refine ep_if t120_15 (fun (c15 : ((-1)) ≤ b) => (by exact absurd c15 hk)) (fun (c15 : ¬ (((-1)) ≤ b)) => ?_)
        refine ep_k1 (w := (-1)) t120_18 rfl ?_
        refine ep_ri t120_19 (fun h => absurd h (by decide)) ?_
        exact ⟨g_up σ1 31 0 (nI 0), rfl, rfl, fun p a _ _ _ _ => g_up_ne a, fun k hk => g_up_j hk⟩
theorem pr_supply {X : gX} {q : Bool} {σ : gT1} (hR : Rel q σ) (a : Int32) : Pair X 121 122 [.int a] q σ := by
  have hR0 := hR
  obtain ⟨T, c, l, pr, hN, hW, hT, hO, hU, hI, hS⟩ := hR
  obtain ⟨⟨hwf0, hwf1⟩, ⟨hwf2, hwf3⟩, hwf4, hwf5, hwf6⟩ := hN.1
  have hB3 : σ (np q) 3 = nI (T 3) := hN.2.1.1 3 (by decide)
  have hB0 : σ (np q) 0 = nI (T 0) := hN.2.1.1 0 (by decide)
  have hM3 : σ 33 3 = nI (T 3) := hN.2.2.1 3 (by decide)
  have hM0 : σ 33 0 = nI (T 0) := hN.2.2.1 0 (by decide)
  obtain ⟨hsn, e4, e5, e25, e36⟩ := id hW
  obtain ⟨hc, hl, hp0, hp1, hp2⟩ := hsn.lt hwf4
  have hw0 := hN.1.w0
  have hx2 := pow_le_256 hwf4
  have hx3 : (2 : Nat) ^ T 0 ≤ 256 := pow_le_256 (by omega)
  have h31 : T 1 < 2147483648 := by omega
  have h32 : T 2 < 2147483648 := by omega
  have hl31 : l < 2147483648 := by omega
  have hpp := Nat.two_pow_pos (T 3)
  have hp : np q = 7 ∨ np q = 16 := by cases q <;> decide
  have hpr := hsn.2.2.2
  have ep2 : ∀ i, i < 3 → σ 36 (2 + i) = nI (pr i) := fun i hi => (e36 (2 + i) (by omega)).trans (by rw [Nat.add_comm 2 i]; rfl)
  by_cases hk : (-1 : Int32) ≤ a
  · rcases ge_m1 hk with rfl | ⟨k, hkk, rfl⟩
    · refine Pair.one (v := a0 (dst (lw T l) (pcs T pr) (fun s => liveM T s &&& T 2 = T 2) c)) hR0 ?_ (fun σ1 h1 => ?_)
      · cases q
        · refine ClP.of ⟨Nat.le_of_ble_eq_true rfl, rfl⟩ ?_
          show EvP X 121 0 [some (.ref 0), some (.int ((-1 : Int32)))] [] (47, g_rho false, σ) _
          refine ep_iln t121_0 rfl ?_
          refine ep_k1 (w := (-1)) t121_1 rfl ?_
          refine ep_if t121_2 (fun (c2 : ((-1)) ≤ ((-1 : Int32))) => ?_) (fun (c2 : ¬ (((-1)) ≤ ((-1 : Int32)))) => (by exact absurd hk c2))
          refine ep_aln t121_7 rfl ?_
          refine ep_k1 (w := nI 0) t121_8 rfl ?_
          refine ep_k1 (w := nI 0) t121_9 rfl ?_
          refine ep_k1 (w := nI 0) t121_10 rfl ?_
          refine ep_aln t121_11 rfl ?_
          refine ep_getr (q := 7) t121_12 rfl (Nat.le_of_ble_eq_true rfl) rfl (rfl) ?_
          refine ep_get t121_15 rfl (Nat.le_of_ble_eq_true rfl) rfl ?_
          refine ep_val (b := nI (T 2)) (hN.2.1.1 2 (by decide)) ?_
          obtain ⟨v7, g7, ha7, rfl, σ3, rfl, b1, b2⟩ := cl_B_aim_7 (X := X) (σ := σ) (T := T) (pr := pr) (l := l) (W := (fun s => liveM T s &&& T 2 = T 2)) hN.2.1 hw0 hsn.2.1 e5 e25 hpr (set := 0) (wd := 0) (dae := 0) (lit := T 2) (⟨by omega, by omega, by omega, by omega⟩) (fun s _ _ => by rw [Nat.and_zero, Nat.and_zero]; exact ⟨fun h => h.2.2, fun h => ⟨rfl, rfl, h⟩⟩)
          have hN3 : NetC σ3 (np false) T := hN.2.1.mv (fun r g1 g2 => b1 r (by omega))
          refine ep_cv t121_18 rfl rfl (Nat.le_of_ble_eq_true rfl) (Nat.le_of_ble_eq_true rfl) (ha7) ?_
          refine ep_aln t121_21 rfl ?_
          refine ep_iln t121_22 rfl ?_
          refine ep_cv t121_23 rfl rfl (Nat.le_of_ble_eq_true rfl) (Nat.le_of_ble_eq_true rfl) (cl_B_cheap_m_7 (W := (fun s => liveM T s &&& T 2 = T 2)) hN3 hw0 hsn.2.1 ((congrFun (b1 0 (by decide)) 5).trans e5) (fun i hi => (congrFun (b1 25 (by decide)) i).trans (e25 i hi)) hpr b2 hsn.1 hsn.2.2.1 ((congrFun (b1 0 (by decide)) 4).trans e4)) ?_
          refine ep_ri t121_26 (fun h => absurd h (by decide)) ?_
          exact ⟨σ3, rfl, rfl, fun p _ h9 => b1 p h9⟩
        · refine ClP.of ⟨Nat.le_of_ble_eq_true rfl, rfl⟩ ?_
          show EvP X 121 0 [some (.ref 0), some (.int ((-1 : Int32)))] [] (47, g_rho true, σ) _
          refine ep_iln t121_0 rfl ?_
          refine ep_k1 (w := (-1)) t121_1 rfl ?_
          refine ep_if t121_2 (fun (c2 : ((-1)) ≤ ((-1 : Int32))) => ?_) (fun (c2 : ¬ (((-1)) ≤ ((-1 : Int32)))) => (by exact absurd hk c2))
          refine ep_aln t121_7 rfl ?_
          refine ep_k1 (w := nI 0) t121_8 rfl ?_
          refine ep_k1 (w := nI 0) t121_9 rfl ?_
          refine ep_k1 (w := nI 0) t121_10 rfl ?_
          refine ep_aln t121_11 rfl ?_
          refine ep_getr (q := 16) t121_12 rfl (Nat.le_of_ble_eq_true rfl) rfl (rfl) ?_
          refine ep_get t121_15 rfl (Nat.le_of_ble_eq_true rfl) rfl ?_
          refine ep_val (b := nI (T 2)) (hN.2.1.1 2 (by decide)) ?_
          obtain ⟨v7, g7, ha7, rfl, σ3, rfl, b1, b2⟩ := cl_B_aim_16 (X := X) (σ := σ) (T := T) (pr := pr) (l := l) (W := (fun s => liveM T s &&& T 2 = T 2)) hN.2.1 hw0 hsn.2.1 e5 e25 hpr (set := 0) (wd := 0) (dae := 0) (lit := T 2) (⟨by omega, by omega, by omega, by omega⟩) (fun s _ _ => by rw [Nat.and_zero, Nat.and_zero]; exact ⟨fun h => h.2.2, fun h => ⟨rfl, rfl, h⟩⟩)
          have hN3 : NetC σ3 (np true) T := hN.2.1.mv (fun r g1 g2 => b1 r (by omega))
          refine ep_cv t121_18 rfl rfl (Nat.le_of_ble_eq_true rfl) (Nat.le_of_ble_eq_true rfl) (ha7) ?_
          refine ep_aln t121_21 rfl ?_
          refine ep_iln t121_22 rfl ?_
          refine ep_cv t121_23 rfl rfl (Nat.le_of_ble_eq_true rfl) (Nat.le_of_ble_eq_true rfl) (cl_B_cheap_m_16 (W := (fun s => liveM T s &&& T 2 = T 2)) hN3 hw0 hsn.2.1 ((congrFun (b1 0 (by decide)) 5).trans e5) (fun i hi => (congrFun (b1 25 (by decide)) i).trans (e25 i hi)) hpr b2 hsn.1 hsn.2.2.1 ((congrFun (b1 0 (by decide)) 4).trans e4)) ?_
          refine ep_ri t121_26 (fun h => absurd h (by decide)) ?_
          exact ⟨σ3, rfl, rfl, fun p _ h9 => b1 p h9⟩
      · have r : ∀ p, (p < 7 ∨ 30 < p) → σ1 p = σ p := fun p hp2 => h1 p (by omega) (by omega)
        refine ClP.of ⟨Nat.le_of_ble_eq_true rfl, rfl⟩ ?_
        show EvP X 122 0 [some (.ref 31), some (.int ((-1 : Int32))), none] [] (47, g_rho q, σ1) _
        refine ep_aln t122_0 rfl ?_
        refine ep_k1 (w := nI 0) t122_1 rfl ?_
        refine ep_put t122_2 rfl (Nat.le_of_ble_eq_true rfl) rfl ?_
        refine ep_iln t122_5 rfl ?_
        refine ep_k1 (w := (-1)) t122_6 rfl ?_
        refine ep_if t122_7 (fun (c7 : ((-1)) ≤ ((-1 : Int32))) => ?_) (fun (c7 : ¬ (((-1)) ≤ ((-1 : Int32)))) => (by exact absurd hk c7))
        refine ep_k1 (w := nI 0) t122_12 rfl ?_
        refine ep_isn (L' := [some (.ref 31), some (.int ((-1 : Int32))), some (.int (nI 0))]) t122_13 rfl (Nat.le_of_ble_eq_true rfl) ?_
        have hT1 : ToldM (g_up σ1 31 0 (nI 0) 33) T := by show ToldM (σ1 33) T; rw [r 33 (by decide)]; exact hN.2.2
        refine L_sy (σ := g_up σ1 31 0 (nI 0)) hT1 hw0 h31 hwf3 (fun σ4 d1 d2 => ?_) (2 ^ T 3) 0 _ (by omega) (fun _ _ _ => rfl) (fun t ht => absurd ht (Nat.not_lt_zero t))
        refine ep_aln t122_60 rfl ?_
        refine ep_iln t122_61 rfl ?_
        obtain ⟨v9, g9, hm9, σ5, rfl, rfl, f1⟩ := cl_M_tells_m (X := X) (q := q) (σ := σ4) (T := T) (pr := pr) (l := l) (c := c) (W := (fun s => liveM T s &&& T 2 = T 2)) (wb := (fun t => decide (andN (T 2) (liveM T t) = 0))) (by rw [d1 33 (by decide) (by decide)]; exact hT1) hw0 h31 h32 ((congrFun (d1 36 (by decide) (by decide)) 1).trans ((congrFun (r 36 (by decide)) 1).trans (e36 1 (by decide)))) hl31 (fun i hi => (congrFun (d1 36 (by decide) (by decide)) _).trans ((congrFun (r 36 (by decide)) _).trans (ep2 i hi))) hpr d2 (fun s hs => by rw [decide_eq_true_eq, andN_sub]) hsn.1 hsn.2.2.1 ((congrFun (d1 36 (by decide) (by decide)) 0).trans ((congrFun (r 36 (by decide)) 0).trans (e36 0 (by decide))))
        refine ep_cv t122_62 rfl rfl (Nat.le_of_ble_eq_true rfl) (Nat.le_of_ble_eq_true rfl) (hm9) ?_
        refine ep_ri t122_65 (fun h => absurd h (by decide)) ?_
        exact ⟨σ5, rfl, rfl, fun p a b c d e => (f1 p b c e).trans ((d1 p b d).trans (g_up_ne a)), fun k hk => (congrFun (f1 31 (by decide) (by decide) (by decide)) k).trans ((congrFun (d1 31 (by decide) (by decide)) k).trans (g_up_j hk))⟩
    · refine Pair.one (v := a1 (dst (lw T l) (pcs T pr) (fun s => liveM T s &&& T 2 = T 2) c) (ansK (lw T l) (pcs T pr) (fun s => liveM T s &&& T 2 = T 2) c k)) hR0 ?_ (fun σ1 h1 => ?_)
      · cases q
        · refine ClP.of ⟨Nat.le_of_ble_eq_true rfl, rfl⟩ ?_
          show EvP X 121 0 [some (.ref 0), some (.int (nI k))] [] (47, g_rho false, σ) _
          refine ep_iln t121_0 rfl ?_
          refine ep_k1 (w := (-1)) t121_1 rfl ?_
          refine ep_if t121_2 (fun (c2 : ((-1)) ≤ (nI k)) => ?_) (fun (c2 : ¬ (((-1)) ≤ (nI k))) => (by exact absurd hk c2))
          refine ep_aln t121_7 rfl ?_
          refine ep_k1 (w := nI 0) t121_8 rfl ?_
          refine ep_k1 (w := nI 0) t121_9 rfl ?_
          refine ep_k1 (w := nI 0) t121_10 rfl ?_
          refine ep_aln t121_11 rfl ?_
          refine ep_getr (q := 7) t121_12 rfl (Nat.le_of_ble_eq_true rfl) rfl (rfl) ?_
          refine ep_get t121_15 rfl (Nat.le_of_ble_eq_true rfl) rfl ?_
          refine ep_val (b := nI (T 2)) (hN.2.1.1 2 (by decide)) ?_
          obtain ⟨v7, g7, ha7, rfl, σ3, rfl, b1, b2⟩ := cl_B_aim_7 (X := X) (σ := σ) (T := T) (pr := pr) (l := l) (W := (fun s => liveM T s &&& T 2 = T 2)) hN.2.1 hw0 hsn.2.1 e5 e25 hpr (set := 0) (wd := 0) (dae := 0) (lit := T 2) (⟨by omega, by omega, by omega, by omega⟩) (fun s _ _ => by rw [Nat.and_zero, Nat.and_zero]; exact ⟨fun h => h.2.2, fun h => ⟨rfl, rfl, h⟩⟩)
          have hN3 : NetC σ3 (np false) T := hN.2.1.mv (fun r g1 g2 => b1 r (by omega))
          refine ep_cv t121_18 rfl rfl (Nat.le_of_ble_eq_true rfl) (Nat.le_of_ble_eq_true rfl) (ha7) ?_
          refine ep_aln t121_21 rfl ?_
          refine ep_iln t121_22 rfl ?_
          refine ep_cv t121_23 rfl rfl (Nat.le_of_ble_eq_true rfl) (Nat.le_of_ble_eq_true rfl) (cl_B_cheap_n_7 (W := (fun s => liveM T s &&& T 2 = T 2)) hN3 hw0 hsn.2.1 ((congrFun (b1 0 (by decide)) 5).trans e5) (fun i hi => (congrFun (b1 25 (by decide)) i).trans (e25 i hi)) hpr b2 hsn.1 hsn.2.2.1 ((congrFun (b1 0 (by decide)) 4).trans e4) hkk) ?_
          refine ep_ri t121_26 (fun h => absurd h (by decide)) ?_
          exact ⟨σ3, rfl, rfl, fun p _ h9 => b1 p h9⟩
        · refine ClP.of ⟨Nat.le_of_ble_eq_true rfl, rfl⟩ ?_
          show EvP X 121 0 [some (.ref 0), some (.int (nI k))] [] (47, g_rho true, σ) _
          refine ep_iln t121_0 rfl ?_
          refine ep_k1 (w := (-1)) t121_1 rfl ?_
          refine ep_if t121_2 (fun (c2 : ((-1)) ≤ (nI k)) => ?_) (fun (c2 : ¬ (((-1)) ≤ (nI k))) => (by exact absurd hk c2))
          refine ep_aln t121_7 rfl ?_
          refine ep_k1 (w := nI 0) t121_8 rfl ?_
          refine ep_k1 (w := nI 0) t121_9 rfl ?_
          refine ep_k1 (w := nI 0) t121_10 rfl ?_
          refine ep_aln t121_11 rfl ?_
          refine ep_getr (q := 16) t121_12 rfl (Nat.le_of_ble_eq_true rfl) rfl (rfl) ?_
          refine ep_get t121_15 rfl (Nat.le_of_ble_eq_true rfl) rfl ?_
          refine ep_val (b := nI (T 2)) (hN.2.1.1 2 (by decide)) ?_
          obtain ⟨v7, g7, ha7, rfl, σ3, rfl, b1, b2⟩ := cl_B_aim_16 (X := X) (σ := σ) (T := T) (pr := pr) (l := l) (W := (fun s => liveM T s &&& T 2 = T 2)) hN.2.1 hw0 hsn.2.1 e5 e25 hpr (set := 0) (wd := 0) (dae := 0) (lit := T 2) (⟨by omega, by omega, by omega, by omega⟩) (fun s _ _ => by rw [Nat.and_zero, Nat.and_zero]; exact ⟨fun h => h.2.2, fun h => ⟨rfl, rfl, h⟩⟩)
          have hN3 : NetC σ3 (np true) T := hN.2.1.mv (fun r g1 g2 => b1 r (by omega))
          refine ep_cv t121_18 rfl rfl (Nat.le_of_ble_eq_true rfl) (Nat.le_of_ble_eq_true rfl) (ha7) ?_
          refine ep_aln t121_21 rfl ?_
          refine ep_iln t121_22 rfl ?_
          refine ep_cv t121_23 rfl rfl (Nat.le_of_ble_eq_true rfl) (Nat.le_of_ble_eq_true rfl) (cl_B_cheap_n_16 (W := (fun s => liveM T s &&& T 2 = T 2)) hN3 hw0 hsn.2.1 ((congrFun (b1 0 (by decide)) 5).trans e5) (fun i hi => (congrFun (b1 25 (by decide)) i).trans (e25 i hi)) hpr b2 hsn.1 hsn.2.2.1 ((congrFun (b1 0 (by decide)) 4).trans e4) hkk) ?_
          refine ep_ri t121_26 (fun h => absurd h (by decide)) ?_
          exact ⟨σ3, rfl, rfl, fun p _ h9 => b1 p h9⟩
      · have r : ∀ p, (p < 7 ∨ 30 < p) → σ1 p = σ p := fun p hp2 => h1 p (by omega) (by omega)
        refine ClP.of ⟨Nat.le_of_ble_eq_true rfl, rfl⟩ ?_
        show EvP X 122 0 [some (.ref 31), some (.int (nI k)), none] [] (47, g_rho q, σ1) _
        refine ep_aln t122_0 rfl ?_
        refine ep_k1 (w := nI 0) t122_1 rfl ?_
        refine ep_put t122_2 rfl (Nat.le_of_ble_eq_true rfl) rfl ?_
        refine ep_iln t122_5 rfl ?_
        refine ep_k1 (w := (-1)) t122_6 rfl ?_
        refine ep_if t122_7 (fun (c7 : ((-1)) ≤ (nI k)) => ?_) (fun (c7 : ¬ (((-1)) ≤ (nI k))) => (by exact absurd hk c7))
        refine ep_k1 (w := nI 0) t122_12 rfl ?_
        refine ep_isn (L' := [some (.ref 31), some (.int (nI k)), some (.int (nI 0))]) t122_13 rfl (Nat.le_of_ble_eq_true rfl) ?_
        have hT1 : ToldM (g_up σ1 31 0 (nI 0) 33) T := by show ToldM (σ1 33) T; rw [r 33 (by decide)]; exact hN.2.2
        refine L_sy (σ := g_up σ1 31 0 (nI 0)) hT1 hw0 h31 hwf3 (fun σ4 d1 d2 => ?_) (2 ^ T 3) 0 _ (by omega) (fun _ _ _ => rfl) (fun t ht => absurd ht (Nat.not_lt_zero t))
        refine ep_aln t122_60 rfl ?_
        refine ep_iln t122_61 rfl ?_
        obtain ⟨v9, g9, hm9, σ5, rfl, rfl, f1⟩ := cl_M_tells_n (X := X) (q := q) (σ := σ4) (T := T) (pr := pr) (l := l) (c := c) (W := (fun s => liveM T s &&& T 2 = T 2)) (wb := (fun t => decide (andN (T 2) (liveM T t) = 0))) (by rw [d1 33 (by decide) (by decide)]; exact hT1) hw0 h31 h32 ((congrFun (d1 36 (by decide) (by decide)) 1).trans ((congrFun (r 36 (by decide)) 1).trans (e36 1 (by decide)))) hl31 (fun i hi => (congrFun (d1 36 (by decide) (by decide)) _).trans ((congrFun (r 36 (by decide)) _).trans (ep2 i hi))) hpr d2 (fun s hs => by rw [decide_eq_true_eq, andN_sub]) hsn.1 hsn.2.2.1 ((congrFun (d1 36 (by decide) (by decide)) 0).trans ((congrFun (r 36 (by decide)) 0).trans (e36 0 (by decide)))) hkk
        refine ep_cv t122_62 rfl rfl (Nat.le_of_ble_eq_true rfl) (Nat.le_of_ble_eq_true rfl) (hm9) ?_
        refine ep_ri t122_65 (fun h => absurd h (by decide)) ?_
        exact ⟨σ5, rfl, rfl, fun p a b c d e => (f1 p b c e).trans ((d1 p b d).trans (g_up_ne a)), fun k hk => (congrFun (f1 31 (by decide) (by decide) (by decide)) k).trans ((congrFun (d1 31 (by decide) (by decide)) k).trans (g_up_j hk))⟩
  · refine Pair.one (v := -1) hR0 ?_ (fun σ1 h1 => ?_)
    · cases q
      · refine ClP.of ⟨Nat.le_of_ble_eq_true rfl, rfl⟩ ?_
        show EvP X 121 0 [some (.ref 0), some (.int a)] [] (47, g_rho false, σ) _
        refine ep_iln t121_0 rfl ?_
        refine ep_k1 (w := (-1)) t121_1 rfl ?_
        refine ep_if t121_2 (fun (c2 : ((-1)) ≤ a) => (by exact absurd c2 hk)) (fun (c2 : ¬ (((-1)) ≤ a)) => ?_)
        refine ep_k1 (w := (-1)) t121_5 rfl ?_
        refine ep_ri t121_6 (fun h => absurd h (by decide)) ?_
        exact ⟨σ, rfl, rfl, fun _ _ _ => rfl⟩
      · refine ClP.of ⟨Nat.le_of_ble_eq_true rfl, rfl⟩ ?_
        show EvP X 121 0 [some (.ref 0), some (.int a)] [] (47, g_rho true, σ) _
        refine ep_iln t121_0 rfl ?_
        refine ep_k1 (w := (-1)) t121_1 rfl ?_
        refine ep_if t121_2 (fun (c2 : ((-1)) ≤ a) => (by exact absurd c2 hk)) (fun (c2 : ¬ (((-1)) ≤ a)) => ?_)
        refine ep_k1 (w := (-1)) t121_5 rfl ?_
        refine ep_ri t121_6 (fun h => absurd h (by decide)) ?_
        exact ⟨σ, rfl, rfl, fun _ _ _ => rfl⟩
    · have r : ∀ p, (p < 7 ∨ 30 < p) → σ1 p = σ p := fun p hp2 => h1 p (by omega) (by omega)
      refine ClP.of ⟨Nat.le_of_ble_eq_true rfl, rfl⟩ ?_
      show EvP X 122 0 [some (.ref 31), some (.int a), none] [] (47, g_rho q, σ1) _
      refine ep_aln t122_0 rfl ?_
      refine ep_k1 (w := nI 0) t122_1 rfl ?_
      refine ep_put t122_2 rfl (Nat.le_of_ble_eq_true rfl) rfl ?_
      refine ep_iln t122_5 rfl ?_
      refine ep_k1 (w := (-1)) t122_6 rfl ?_
      refine ep_if t122_7 (fun (c7 : ((-1)) ≤ a) => (by exact absurd c7 hk)) (fun (c7 : ¬ (((-1)) ≤ a)) => ?_)
      refine ep_k1 (w := (-1)) t122_10 rfl ?_
      refine ep_ri t122_11 (fun h => absurd h (by decide)) ?_
      exact ⟨g_up σ1 31 0 (nI 0), rfl, rfl, fun p a _ _ _ _ => g_up_ne a, fun k hk => g_up_j hk⟩
