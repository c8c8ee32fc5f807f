/-! The net's states are measured. -/
noncomputable def pwJ (T : Nat → Nat) (c s j : Nat) : Nat := mk (T 0) (fun v => ∃ u, u < j ∧ s.testBit u = true ∧ Cn T c u v)
section PW
variable {T : Nat → Nat} {c s j : Nat}
theorem pwJ_0 : pwJ T c s 0 = 0 := mk_zero _ _ (fun i _ h => by obtain ⟨u, h1, _⟩ := h; exact absurd h1 (Nat.not_lt_zero u))
theorem pwJ_lt (h : T 0 ≤ 6) : pwJ T c s j < 64 := Nat.lt_of_lt_of_le (mk_lt _ _) (Nat.le_trans (Nat.pow_le_pow_right (by decide) h) (by decide))
theorem pwJ_no (h : s.testBit j = false) : pwJ T c s j = pwJ T c s (j + 1) := mk_congr (fun i _ => ⟨fun ⟨u, a, b⟩ => ⟨u, by omega, b⟩, fun ⟨u, a, b, d⟩ => by
  by_cases e : u = j
  · subst e
    exact absurd (h.symm.trans b) (by decide)
  · exact ⟨u, by omega, b, d⟩⟩)
theorem pwJ_yes (h : s.testBit j = true) : pwJ T c s j ||| pm T c (T 3) j = pwJ T c s (j + 1) := mk_eq (fun i => by
  rw [Nat.testBit_or, Bool.or_eq_true, pm_bit]
  unfold pwJ
  rw [mk_bit]
  constructor
  · rintro (⟨h1, u, a, b, d⟩ | ⟨h1, h2⟩)
    · exact ⟨h1, u, by omega, b, d⟩
    · exact ⟨h1, j, Nat.lt_succ_self j, h, h2⟩
  · rintro ⟨h1, u, a, b, d⟩
    by_cases e : u = j
    · subst e
      exact Or.inr ⟨h1, d⟩
    · exact Or.inl ⟨h1, u, by omega, b, d⟩)
noncomputable def enJ (T : Nat → Nat) (c j : Nat) : Nat := mk (T 0) (fun v => ∃ k, k < j ∧ c.testBit k = true ∧ T (4 + k) = 2 ∧ T (20 + k) = v)
theorem enJ_0 : enJ T c 0 = 0 := mk_zero _ _ (fun i _ h => by obtain ⟨u, h1, _⟩ := h; exact absurd h1 (Nat.not_lt_zero u))
theorem enJ_lt (h : T 0 ≤ 6) : enJ T c j < 64 := Nat.lt_of_lt_of_le (mk_lt _ _) (Nat.le_trans (Nat.pow_le_pow_right (by decide) h) (by decide))
theorem enJ_no (h : ¬ (c.testBit j = true ∧ T (4 + j) = 2)) : enJ T c j = enJ T c (j + 1) := mk_congr (fun i _ => ⟨fun ⟨u, a, b⟩ => ⟨u, by omega, b⟩, fun ⟨u, a, b, d, f⟩ => by
  by_cases e : u = j
  · subst e
    exact absurd ⟨b, d⟩ h
  · exact ⟨u, by omega, b, d, f⟩⟩)
theorem enJ_yes (h1 : c.testBit j = true) (h2 : T (4 + j) = 2) (h3 : T (20 + j) < T 0) : enJ T c j ||| 2 ^ T (20 + j) = enJ T c (j + 1) := mk_eq (fun i => by
  rw [or_bit]
  unfold enJ
  rw [mk_bit]
  constructor
  · rintro (⟨a1, u, a, b⟩ | e)
    · exact ⟨a1, u, by omega, b⟩
    · rw [e]
      exact ⟨h3, j, Nat.lt_succ_self j, h1, h2, rfl⟩
  · rintro ⟨a1, u, a, b, d, f⟩
    by_cases e : u = j
    · subst e
      exact Or.inr f.symm
    · exact Or.inl ⟨a1, u, by omega, b, d, f⟩)
theorem pw_earth (hw : WF0 T) : pwJ T c (enJ T c (T 3)) (T 0) = earthM T c := mk_congr (fun v _ => by
  constructor
  · rintro ⟨u, a, b, d⟩
    unfold enJ at b
    obtain ⟨_, k, b1, b2, b3, b4⟩ := (mk_bit _ _ _).mp b
    subst b4
    exact ⟨k, b1, b2, b3, d⟩
  · rintro ⟨k, b1, b2, b3, d⟩
    refine ⟨T (20 + k), (hw.2.2.1 k b1).1, ?_, d⟩
    unfold enJ
    exact (mk_bit _ _ _).mpr ⟨(hw.2.2.1 k b1).1, k, b1, b2, b3, rfl⟩)
/-- who is held, by the states below s and, of s, the switches below k -/
noncomputable def hM (T : Nat → Nat) (s k c : Nat) : Nat := mk (T 3) (fun i => (T (4 + i) = 1 ∧ under T (clr c i) i) ∧ (clr c i < s ∨ clr c i = s ∧ i < k))
end PW
section HM
variable {T : Nat → Nat} {s k c : Nat}
theorem hM_lt (h : T 3 ≤ 8) : hM T s k c < 256 := Nat.lt_of_lt_of_le (mk_lt _ _) (pow_le_256 h)
theorem hM_0 : hM T 0 0 c = 0 := mk_zero _ _ (fun i _ h => by have := h.2; omega)
theorem hM_next : hM T s (T 3) c = hM T (s + 1) 0 c := mk_congr (fun i hi => ⟨fun h => ⟨h.1, by have := h.2; omega⟩, fun h => ⟨h.1, by have := h.2; omega⟩⟩)
theorem hM_end (hc : c < 2 ^ T 3) : hM T (2 ^ T 3) 0 c = heldM T c := mk_congr (fun i hi => ⟨fun h => h.1, fun h => ⟨h, Or.inl (clr_le c i _ hc)⟩⟩)
theorem hM_skip (h : ¬ clr c k = s) : hM T s k c = hM T s (k + 1) c := mk_congr (fun i hi => ⟨fun h => ⟨h.1, by have := h.2; omega⟩, fun h2 => ⟨h2.1, by
  have z := h2.2
  by_cases e : i = k
  · subst e
    omega
  · omega⟩⟩)
theorem hM_no (h : ¬ (T (4 + k) = 1 ∧ s.testBit k = false ∧ under T s k)) : hM T s k c = hM T s (k + 1) c := by
  by_cases q : clr c k = s
  · refine mk_congr (fun i hi => ⟨fun h => ⟨h.1, by have := h.2; omega⟩, fun h2 => ⟨h2.1, ?_⟩⟩)
    have z := h2.2
    by_cases e : i = k
    · subst e
      refine absurd ⟨h2.1.1, ?_, ?_⟩ h
      · rw [← q, clr_bit]
        simp
      · rw [← q]
        exact h2.1.2
    · omega
  · exact hM_skip q
theorem hM_yes (hk : k < T 3) (h1 : T (4 + k) = 1) (h3 : under T s k) (hc : clr c k = s) : hM T s k c ||| 2 ^ k = hM T s (k + 1) c := mk_eq (fun i => by
  rw [or_bit]
  unfold hM
  rw [mk_bit]
  constructor
  · rintro (⟨a1, a2, a3⟩ | e)
    · exact ⟨a1, a2, by omega⟩
    · subst e
      exact ⟨hk, ⟨h1, by rw [hc]; exact h3⟩, Or.inr ⟨hc, by omega⟩⟩
  · rintro ⟨a1, a2, a3⟩
    by_cases e : i = k
    · exact Or.inr e
    · exact Or.inl ⟨a1, a2, by omega⟩)
theorem clr_s (h : s.testBit k = false) : clr s k = s := Nat.eq_of_testBit_eq (fun i => by
  rw [clr_bit]
  by_cases e : k = i
  · subst e
    rw [h]
    rfl
  · simp [e])
theorem clr_or (h : s.testBit k = false) : clr (s ||| 2 ^ k) k = s := Nat.eq_of_testBit_eq (fun i => by
  rw [clr_bit, Nat.testBit_or, Nat.testBit_two_pow]
  by_cases e : k = i
  · subst e
    simp [h]
  · simp [e])
theorem clr_inv (hc : clr c k = s) : c = s ∨ c = s ||| 2 ^ k := by
  cases hb : c.testBit k with
  | false => exact Or.inl ((clr_s hb).symm.trans hc)
  | true =>
    refine Or.inr (Nat.eq_of_testBit_eq (fun i => ?_))
    rw [← hc, Nat.testBit_or, Nat.testBit_two_pow, clr_bit]
    by_cases e : k = i
    · subst e
      simp [hb]
    · simp [e]
theorem or_ne (h : s.testBit k = false) : s ||| 2 ^ k ≠ s := fun z => by
  have q : (s ||| 2 ^ k).testBit k = true := or_bit.mpr (Or.inr rfl)
  rw [z] at q
  exact absurd (h.symm.trans q) (by decide)
end HM
theorem L_pw_7 {X : gX} {q : Bool} {σ : gT1} {T : Nat → Nat} {c s : Nat} (e0 : σ 7 0 = nI (T 0)) (h6 : T 0 ≤ 6) (hs : s < 2147483648) (hpt : ∀ v, v < T 0 → σ 15 v = nI (pm T c (T 3) v)) : ∀ (d u : Nat), u + d = T 0 → EvP X 38 4 [some (.ref 7), some (.int (nI s)), some (.int (nI (pwJ T c s u))), some (.int (nI u))] [] (47, g_rho q, σ) (fun w g2 => w = some (.int (nI (pwJ T c s (T 0)))) ∧ g2 = (47, g_rho q, σ))
  | 0, u, hk => by
    obtain rfl : u = T 0 := by omega
    refine ep_iln t38_4 rfl ?_
    refine ep_aln t38_5 rfl ?_
    refine ep_get t38_6 rfl (Nat.le_of_ble_eq_true rfl) rfl ?_
    refine ep_val (b := nI (T 0)) (e0) ?_
    refine ep_ifP t38_9 (ic_ge (by omega) (by omega)) (fun (c9 : (T 0) ≤ (T 0)) => ?_) (fun (c9 : ¬ ((T 0) ≤ (T 0))) => (by exact absurd (Nat.le_refl _) c9))
    refine ep_iln t38_36 rfl ?_
    refine ep_ri t38_37 (fun h => absurd h (by decide)) ?_
    exact ⟨rfl, rfl⟩
  | d + 1, u, hk => by
    refine ep_iln t38_4 rfl ?_
    refine ep_aln t38_5 rfl ?_
    refine ep_get t38_6 rfl (Nat.le_of_ble_eq_true rfl) rfl ?_
    refine ep_val (b := nI (T 0)) (e0) ?_
    refine ep_ifP t38_9 (ic_ge (by omega) (by omega)) (fun (c9 : (T 0) ≤ u) => (by omega)) (fun (c9 : ¬ ((T 0) ≤ u)) => ?_)
    refine ep_iln t38_12 rfl ?_
    refine ep_iln t38_13 rfl ?_
    refine ep_cs t38_14 (Nat.ne_of_beq_eq_false rfl) rfl (Nat.le_of_ble_eq_true rfl) (cl_B_bit (by omega) (by omega)) ?_
    refine ep_k1 (w := nI 1) t38_17 rfl ?_
    refine ep_b1n t38_18 (fun (c18 : (Nat.testBit s u) = false) => ?_) (fun (c18 : (Nat.testBit s u) = true) => ?_)
    · refine ep_inc (b := nI (u + 1)) (L' := [some (.ref 7), some (.int (nI s)), some (.int (nI (pwJ T c s u))), some (.int (nI (u + 1)))]) t38_30 rfl (nI_add u 1) rfl (Nat.le_of_ble_eq_true rfl) ?_
      refine ep_gt t38_33 ?_
      rw [pwJ_no c18]
      exact L_pw_7 e0 h6 hs hpt d (u + 1) (by omega)
    · refine ep_iln t38_21 rfl ?_
      refine ep_aln t38_22 rfl ?_
      refine ep_getr (q := 15) t38_23 rfl (Nat.le_of_ble_eq_true rfl) rfl (rfl) ?_
      refine ep_iln t38_26 rfl ?_
      refine ep_aldN t38_27 rfl (Nat.le_of_ble_eq_true rfl) (Nat.ne_of_beq_eq_false rfl) (Nat.le_of_ble_eq_true rfl) (by omega) ?_
      refine ep_val (b := nI (pm T c (T 3) u)) (hpt u (by omega)) ?_
      refine ep_orN (a := pwJ T c s u) (b := pm T c (T 3) u) t38_28 ?_
      refine ep_isn (L' := [some (.ref 7), some (.int (nI s)), some (.int (nI ((pwJ T c s u) ||| (pm T c (T 3) u)))), some (.int (nI u))]) t38_29 rfl (Nat.le_of_ble_eq_true rfl) ?_
      refine ep_inc (b := nI (u + 1)) (L' := [some (.ref 7), some (.int (nI s)), some (.int (nI ((pwJ T c s u) ||| (pm T c (T 3) u)))), some (.int (nI (u + 1)))]) t38_30 rfl (nI_add u 1) rfl (Nat.le_of_ble_eq_true rfl) ?_
      refine ep_gt t38_33 ?_
      rw [pwJ_yes c18]
      exact L_pw_7 e0 h6 hs hpt d (u + 1) (by omega)
theorem cl_Net_partsWith_7 {X : gX} {q : Bool} {σ : gT1} {T : Nat → Nat} {c s : Nat} (e0 : σ 7 0 = nI (T 0)) (h6 : T 0 ≤ 6) (hs : s < 2147483648) (hpt : ∀ v, v < T 0 → σ 15 v = nI (pm T c (T 3) v)) : Cl X 38 [.ref 7, .int (nI s)] (47, g_rho q, σ) (some (.int (nI (pwJ T c s (T 0))))) (47, g_rho q, σ) := by
  refine Cl.of ⟨Nat.le_of_ble_eq_true rfl, rfl⟩ ?_
  show EvP X 38 0 [some (.ref 7), some (.int (nI s)), none, none] [] (47, g_rho q, σ) _
  refine ep_k1 (w := nI 0) t38_0 rfl ?_
  refine ep_isn (L' := [some (.ref 7), some (.int (nI s)), some (.int (nI 0)), none]) t38_1 rfl (Nat.le_of_ble_eq_true rfl) ?_
  refine ep_k1 (w := nI 0) t38_2 rfl ?_
  refine ep_isn (L' := [some (.ref 7), some (.int (nI s)), some (.int (nI 0)), some (.int (nI 0))]) t38_3 rfl (Nat.le_of_ble_eq_true rfl) ?_
  have z := L_pw_7 (X := X) (q := q) (σ := σ) (T := T) (c := c) (s := s) e0 h6 hs hpt (T 0) 0 (by omega)
  rw [pwJ_0] at z
  exact z

theorem L_en_7 {X : gX} {q : Bool} {σ : gT1} {T : Nat → Nat} {c : Nat} (hA : ((∀ j, j < 4 → σ 7 j = nI (T j)) ∧ ∀ k, k < T 3 → σ 8 k = nI (T (4 + k)) ∧ σ 9 k = nI (T (12 + k)) ∧ σ 10 k = nI (T (20 + k)) ∧ σ 11 k = sec T k)) (hw : WF0 T) (hc : c < 2147483648) : ∀ (d k : Nat), k + d = T 3 → EvP X 39 4 [some (.ref 7), some (.int (nI c)), some (.int (nI (enJ T c k))), some (.int (nI k))] [] (47, g_rho q, σ) (fun w g2 => w = some (.int (nI (enJ T c (T 3)))) ∧ g2 = (47, g_rho q, σ))
  | 0, k, hk => by
    obtain rfl : k = T 3 := by omega
    refine ep_iln t39_4 rfl ?_
    refine ep_aln t39_5 rfl ?_
    refine ep_get t39_6 rfl (Nat.le_of_ble_eq_true rfl) rfl ?_
    refine ep_val (b := nI (T 3)) (hA.1 3 (by decide)) ?_
    refine ep_ifP t39_9 (ic_ge (by have := hw.1; have := hw.2.1; omega) (by have := hw.1; have := hw.2.1; omega)) (fun (c9 : (T 3) ≤ (T 3)) => ?_) (fun (c9 : ¬ ((T 3) ≤ (T 3))) => (by exact absurd (Nat.le_refl _) c9))
    refine ep_iln t39_48 rfl ?_
    refine ep_ri t39_49 (fun h => absurd h (by decide)) ?_
    exact ⟨rfl, rfl⟩
  | d + 1, k, hk => by
    have hk3 : k < T 3 := by omega
    refine ep_iln t39_4 rfl ?_
    refine ep_aln t39_5 rfl ?_
    refine ep_get t39_6 rfl (Nat.le_of_ble_eq_true rfl) rfl ?_
    refine ep_val (b := nI (T 3)) (hA.1 3 (by decide)) ?_
    refine ep_ifP t39_9 (ic_ge (by have := hw.1; have := hw.2.1; have := hw.2.2.2 k hk3; omega) (by have := hw.1; have := hw.2.1; have := hw.2.2.2 k hk3; omega)) (fun (c9 : (T 3) ≤ k) => (by omega)) (fun (c9 : ¬ ((T 3) ≤ k)) => ?_)
    refine ep_aln t39_12 rfl ?_
    refine ep_getr (q := 8) t39_13 rfl (Nat.le_of_ble_eq_true rfl) rfl (rfl) ?_
    refine ep_iln t39_16 rfl ?_
    refine ep_aldN t39_17 rfl (Nat.le_of_ble_eq_true rfl) (Nat.ne_of_beq_eq_false rfl) (Nat.le_of_ble_eq_true rfl) (by have := hw.1; have := hw.2.1; have := hw.2.2.2 k hk3; omega) ?_
    refine ep_val (b := nI (T (4 + k))) ((hA.2 k hk3).1) ?_
    refine ep_k1 (w := nI 2) t39_18 rfl ?_
    refine ep_ifP t39_19 (ic_ne (by have := hw.1; have := hw.2.1; have := hw.2.2.2 k hk3; omega) (by have := hw.1; have := hw.2.1; have := hw.2.2.2 k hk3; omega)) (fun (c19 : ¬ (T (4 + k)) = 2) => ?_) (fun (c19 : ¬ (¬ (T (4 + k)) = 2)) => ?_)
    · refine ep_inc (b := nI (k + 1)) (L' := [some (.ref 7), some (.int (nI c)), some (.int (nI (enJ T c k))), some (.int (nI (k + 1)))]) t39_42 rfl (nI_add k 1) rfl (Nat.le_of_ble_eq_true rfl) ?_
      refine ep_gt t39_45 ?_
      rw [enJ_no (T := T) (c := c) (j := k) (by
        intro z
        first
        | exact c19 z.2
        | exact absurd (c28.symm.trans z.1) (by decide))]
      exact L_en_7 hA hw hc d (k + 1) (by omega)
    · refine ep_iln t39_22 rfl ?_
      refine ep_iln t39_23 rfl ?_
      refine ep_cs t39_24 (Nat.ne_of_beq_eq_false rfl) rfl (Nat.le_of_ble_eq_true rfl) (cl_B_bit (by have := hw.1; have := hw.2.1; have := hw.2.2.2 k hk3; omega) (by have := hw.1; have := hw.2.1; have := hw.2.2.2 k hk3; omega)) ?_
      refine ep_k1 (w := nI 1) t39_27 rfl ?_
      refine ep_b1n t39_28 (fun (c28 : (Nat.testBit c k) = false) => ?_) (fun (c28 : (Nat.testBit c k) = true) => ?_)
      · refine ep_inc (b := nI (k + 1)) (L' := [some (.ref 7), some (.int (nI c)), some (.int (nI (enJ T c k))), some (.int (nI (k + 1)))]) t39_42 rfl (nI_add k 1) rfl (Nat.le_of_ble_eq_true rfl) ?_
        refine ep_gt t39_45 ?_
        rw [enJ_no (T := T) (c := c) (j := k) (by
          intro z
          first
          | exact c19 z.2
          | exact absurd (c28.symm.trans z.1) (by decide))]
        exact L_en_7 hA hw hc d (k + 1) (by omega)
      · refine ep_iln t39_31 rfl ?_
        refine ep_k1 (w := nI 1) t39_32 rfl ?_
        refine ep_aln t39_33 rfl ?_
        refine ep_getr (q := 10) t39_34 rfl (Nat.le_of_ble_eq_true rfl) rfl (rfl) ?_
        refine ep_iln t39_37 rfl ?_
        refine ep_aldN t39_38 rfl (Nat.le_of_ble_eq_true rfl) (Nat.ne_of_beq_eq_false rfl) (Nat.le_of_ble_eq_true rfl) (by have := hw.1; have := hw.2.1; have := hw.2.2.2 k hk3; omega) ?_
        refine ep_val (b := nI (T (20 + k))) ((hA.2 k hk3).2.2.1) ?_
        refine ep_oneN (b := T (20 + k)) t39_39 (by have := hw.1; have := (hw.2.2.1 k hk3).1; omega) ?_
        refine ep_orN (a := enJ T c k) (b := 2 ^ (T (20 + k))) t39_40 ?_
        refine ep_isn (L' := [some (.ref 7), some (.int (nI c)), some (.int (nI ((enJ T c k) ||| (2 ^ (T (20 + k)))))), some (.int (nI k))]) t39_41 rfl (Nat.le_of_ble_eq_true rfl) ?_
        refine ep_inc (b := nI (k + 1)) (L' := [some (.ref 7), some (.int (nI c)), some (.int (nI ((enJ T c k) ||| (2 ^ (T (20 + k)))))), some (.int (nI (k + 1)))]) t39_42 rfl (nI_add k 1) rfl (Nat.le_of_ble_eq_true rfl) ?_
        refine ep_gt t39_45 ?_
        rw [enJ_yes c28 (Classical.byContradiction c19) (hw.2.2.1 k hk3).1]
        exact L_en_7 hA hw hc d (k + 1) (by omega)
theorem cl_Net_earths_7 {X : gX} {q : Bool} {σ : gT1} {T : Nat → Nat} {c : Nat} (hA : ((∀ j, j < 4 → σ 7 j = nI (T j)) ∧ ∀ k, k < T 3 → σ 8 k = nI (T (4 + k)) ∧ σ 9 k = nI (T (12 + k)) ∧ σ 10 k = nI (T (20 + k)) ∧ σ 11 k = sec T k)) (hw : WF0 T) (hc : c < 2147483648) : Cl X 39 [.ref 7, .int (nI c)] (47, g_rho q, σ) (some (.int (nI (enJ T c (T 3))))) (47, g_rho q, σ) := by
  refine Cl.of ⟨Nat.le_of_ble_eq_true rfl, rfl⟩ ?_
  show EvP X 39 0 [some (.ref 7), some (.int (nI c)), none, none] [] (47, g_rho q, σ) _
  refine ep_k1 (w := nI 0) t39_0 rfl ?_
  refine ep_isn (L' := [some (.ref 7), some (.int (nI c)), some (.int (nI 0)), none]) t39_1 rfl (Nat.le_of_ble_eq_true rfl) ?_
  refine ep_k1 (w := nI 0) t39_2 rfl ?_
  refine ep_isn (L' := [some (.ref 7), some (.int (nI c)), some (.int (nI 0)), some (.int (nI 0))]) t39_3 rfl (Nat.le_of_ble_eq_true rfl) ?_
  have z := L_en_7 (X := X) (q := q) (σ := σ) (T := T) (c := c) hA hw hc (T 3) 0 (by omega)
  rw [enJ_0] at z
  exact z

theorem cl_Net_under_7 {X : gX} {q : Bool} {σ : gT1} {T : Nat → Nat} {c k : Nat} (hA : ((∀ j, j < 4 → σ 7 j = nI (T j)) ∧ ∀ k, k < T 3 → σ 8 k = nI (T (4 + k)) ∧ σ 9 k = nI (T (12 + k)) ∧ σ 10 k = nI (T (20 + k)) ∧ σ 11 k = sec T k)) (hw : WF0 T) (hpt : ∀ v, v < T 0 → σ 15 v = nI (pm T c (T 3) v)) (hk3 : k < T 3) (hk2 : ¬ T (4 + k) = 2) : ClP X 40 [.ref 7, .int (nI k), .int (nI (liveM T c)), .int (nI (loadM T c))] (47, g_rho q, σ) (fun v g1 => ∃ b : Bool, v = some (.int (bI b)) ∧ g1 = (47, g_rho q, σ) ∧ (b = true ↔ under T c k)) := by
  have hf := (hw.2.2.1 k hk3).1
  have hs := (hw.2.2.1 k hk3).2 hk2
  have h6 := hw.1
  have h8 := hw.2.1
  have b1 := live_lt hw.1 c
  have b2 : loadM T c < 64 := pwJ_lt (s := T 2) (j := T 0) hw.1
  have b3 := pm_lt hw.1 c (T 3) (T (20 + k))
  have b4 := or_lt64 b1 b2
  have ho : (liveM T c ||| loadM T c).testBit (T (28 + k)) = true ↔ (liveM T c).testBit (T (28 + k)) = true ∨ (loadM T c).testBit (T (28 + k)) = true := by rw [Nat.testBit_or, Bool.or_eq_true]
  refine ClP.of ⟨Nat.le_of_ble_eq_true rfl, rfl⟩ ?_
  show EvP X 40 0 [some (.ref 7), some (.int (nI k)), some (.int (nI (liveM T c))), some (.int (nI (loadM T c))), none, none] [] (47, g_rho q, σ) _
  refine ep_aln t40_0 rfl ?_
  refine ep_getr (q := 10) t40_1 rfl (Nat.le_of_ble_eq_true rfl) rfl (rfl) ?_
  refine ep_iln t40_4 rfl ?_
  refine ep_aldN t40_5 rfl (Nat.le_of_ble_eq_true rfl) (Nat.ne_of_beq_eq_false rfl) (Nat.le_of_ble_eq_true rfl) (by omega) ?_
  refine ep_val (b := nI (T (20 + k))) ((hA.2 k hk3).2.2.1) ?_
  refine ep_is (L' := [some (.ref 7), some (.int (nI k)), some (.int (nI (liveM T c))), some (.int (nI (loadM T c))), some (.int (nI (T (20 + k)))), none]) t40_6 rfl (Nat.le_of_ble_eq_true rfl) ?_
  refine ep_aln t40_8 rfl ?_
  refine ep_getr (q := 11) t40_9 rfl (Nat.le_of_ble_eq_true rfl) rfl (rfl) ?_
  refine ep_iln t40_12 rfl ?_
  refine ep_aldN t40_13 rfl (Nat.le_of_ble_eq_true rfl) (Nat.ne_of_beq_eq_false rfl) (Nat.le_of_ble_eq_true rfl) (by omega) ?_
  refine ep_val (b := sec T k) ((hA.2 k hk3).2.2.2) ?_
  refine ep_val (b := nI (T (28 + k))) (if_neg hk2) ?_
  refine ep_is (L' := [some (.ref 7), some (.int (nI k)), some (.int (nI (liveM T c))), some (.int (nI (loadM T c))), some (.int (nI (T (20 + k)))), some (.int (nI (T (28 + k))))]) t40_14 rfl (Nat.le_of_ble_eq_true rfl) ?_
  refine ep_aln t40_16 rfl ?_
  refine ep_getr (q := 15) t40_17 rfl (Nat.le_of_ble_eq_true rfl) rfl (rfl) ?_
  refine ep_il t40_20 rfl ?_
  refine ep_aldN t40_22 rfl (Nat.le_of_ble_eq_true rfl) (Nat.ne_of_beq_eq_false rfl) (Nat.le_of_ble_eq_true rfl) (by omega) ?_
  refine ep_val (b := nI (pm T c (T 3) (T (20 + k)))) (hpt _ hf) ?_
  refine ep_il t40_23 rfl ?_
  refine ep_cs t40_25 (Nat.ne_of_beq_eq_false rfl) rfl (Nat.le_of_ble_eq_true rfl) (cl_B_bit (by omega) (by omega)) ?_
  refine ep_k1 (w := nI 1) t40_28 rfl ?_
  refine ep_b1n t40_29 (fun (c29 : (Nat.testBit (pm T c (T 3) (T (20 + k))) (T (28 + k))) = false) => ?_) (fun (c29 : (Nat.testBit (pm T c (T 3) (T (20 + k))) (T (28 + k))) = true) => ?_)
  · have nc : ¬ Cn T c (T (20 + k)) (T (28 + k)) := fun z => by
      have z2 := pm_bit.mpr ⟨hs, z⟩
      exact absurd (c29.symm.trans z2) (by decide)
    refine ep_iln t40_34 rfl ?_
    refine ep_il t40_35 rfl ?_
    refine ep_cs t40_37 (Nat.ne_of_beq_eq_false rfl) rfl (Nat.le_of_ble_eq_true rfl) (cl_B_bit (by omega) (by omega)) ?_
    refine ep_k1 (w := nI 1) t40_40 rfl ?_
    refine ep_b1n t40_41 (fun (c41 : (Nat.testBit (liveM T c) (T (20 + k))) = false) => ?_) (fun (c41 : (Nat.testBit (liveM T c) (T (20 + k))) = true) => ?_)
    · refine ep_iln t40_56 rfl ?_
      refine ep_il t40_57 rfl ?_
      refine ep_cs t40_59 (Nat.ne_of_beq_eq_false rfl) rfl (Nat.le_of_ble_eq_true rfl) (cl_B_bit (by omega) (by omega)) ?_
      refine ep_k1 (w := nI 1) t40_62 rfl ?_
      refine ep_b1n t40_63 (fun (c63 : (Nat.testBit (liveM T c) (T (28 + k))) = false) => ?_) (fun (c63 : (Nat.testBit (liveM T c) (T (28 + k))) = true) => ?_)
      · refine ep_k1 (w := nI 0) t40_80 rfl ?_
        refine ep_ri t40_81 (fun _ => rfl) ?_
        refine ⟨false, rfl, rfl, fun z => absurd z (by decide), fun z => ?_⟩
        rcases z.2 with ⟨a, b⟩ | ⟨a, b⟩ | ⟨a, b⟩
        · first
          | exact absurd (c41.symm.trans a) (by decide)
          | exact absurd (c53.symm.trans (ho.mpr (Or.inl b))) (by decide)
        · first
          | exact absurd (c41.symm.trans a) (by decide)
          | exact absurd (c53.symm.trans (ho.mpr (Or.inr b))) (by decide)
        · first
          | exact absurd (c63.symm.trans a) (by decide)
          | exact absurd (c73.symm.trans b) (by decide)
      · refine ep_iln t40_66 rfl ?_
        refine ep_il t40_67 rfl ?_
        refine ep_cs t40_69 (Nat.ne_of_beq_eq_false rfl) rfl (Nat.le_of_ble_eq_true rfl) (cl_B_bit (by omega) (by omega)) ?_
        refine ep_k1 (w := nI 1) t40_72 rfl ?_
        refine ep_b1n t40_73 (fun (c73 : (Nat.testBit (loadM T c) (T (20 + k))) = false) => ?_) (fun (c73 : (Nat.testBit (loadM T c) (T (20 + k))) = true) => ?_)
        · refine ep_k1 (w := nI 0) t40_80 rfl ?_
          refine ep_ri t40_81 (fun _ => rfl) ?_
          refine ⟨false, rfl, rfl, fun z => absurd z (by decide), fun z => ?_⟩
          rcases z.2 with ⟨a, b⟩ | ⟨a, b⟩ | ⟨a, b⟩
          · first
            | exact absurd (c41.symm.trans a) (by decide)
            | exact absurd (c53.symm.trans (ho.mpr (Or.inl b))) (by decide)
          · first
            | exact absurd (c41.symm.trans a) (by decide)
            | exact absurd (c53.symm.trans (ho.mpr (Or.inr b))) (by decide)
          · first
            | exact absurd (c63.symm.trans a) (by decide)
            | exact absurd (c73.symm.trans b) (by decide)
        · refine ep_k1 (w := nI 1) t40_76 rfl ?_
          refine ep_gt t40_77 ?_
          refine ep_ri t40_81 (fun _ => rfl) ?_
          refine ⟨true, rfl, rfl, fun _ => ⟨nc, ?_⟩, fun _ => rfl⟩
          first
          | exact (ho.mp c53).elim (fun z => Or.inl ⟨c41, z⟩) (fun z => Or.inr (Or.inl ⟨c41, z⟩))
          | exact Or.inr (Or.inr ⟨c63, c73⟩)
    · refine ep_iln t40_44 rfl ?_
      refine ep_iln t40_45 rfl ?_
      refine ep_orN (a := liveM T c) (b := loadM T c) t40_46 ?_
      refine ep_il t40_47 rfl ?_
      refine ep_cs t40_49 (Nat.ne_of_beq_eq_false rfl) rfl (Nat.le_of_ble_eq_true rfl) (cl_B_bit (by omega) (by omega)) ?_
      refine ep_k1 (w := nI 1) t40_52 rfl ?_
      refine ep_b1e t40_53 (fun (c53 : (Nat.testBit ((liveM T c) ||| (loadM T c)) (T (28 + k))) = true) => ?_) (fun (c53 : (Nat.testBit ((liveM T c) ||| (loadM T c)) (T (28 + k))) = false) => ?_)
      · refine ep_k1 (w := nI 1) t40_76 rfl ?_
        refine ep_gt t40_77 ?_
        refine ep_ri t40_81 (fun _ => rfl) ?_
        refine ⟨true, rfl, rfl, fun _ => ⟨nc, ?_⟩, fun _ => rfl⟩
        first
        | exact (ho.mp c53).elim (fun z => Or.inl ⟨c41, z⟩) (fun z => Or.inr (Or.inl ⟨c41, z⟩))
        | exact Or.inr (Or.inr ⟨c63, c73⟩)
      · refine ep_iln t40_56 rfl ?_
        refine ep_il t40_57 rfl ?_
        refine ep_cs t40_59 (Nat.ne_of_beq_eq_false rfl) rfl (Nat.le_of_ble_eq_true rfl) (cl_B_bit (by omega) (by omega)) ?_
        refine ep_k1 (w := nI 1) t40_62 rfl ?_
        refine ep_b1n t40_63 (fun (c63 : (Nat.testBit (liveM T c) (T (28 + k))) = false) => ?_) (fun (c63 : (Nat.testBit (liveM T c) (T (28 + k))) = true) => ?_)
        · refine ep_k1 (w := nI 0) t40_80 rfl ?_
          refine ep_ri t40_81 (fun _ => rfl) ?_
          refine ⟨false, rfl, rfl, fun z => absurd z (by decide), fun z => ?_⟩
          rcases z.2 with ⟨a, b⟩ | ⟨a, b⟩ | ⟨a, b⟩
          · first
            | exact absurd (c41.symm.trans a) (by decide)
            | exact absurd (c53.symm.trans (ho.mpr (Or.inl b))) (by decide)
          · first
            | exact absurd (c41.symm.trans a) (by decide)
            | exact absurd (c53.symm.trans (ho.mpr (Or.inr b))) (by decide)
          · first
            | exact absurd (c63.symm.trans a) (by decide)
            | exact absurd (c73.symm.trans b) (by decide)
        · refine ep_iln t40_66 rfl ?_
          refine ep_il t40_67 rfl ?_
          refine ep_cs t40_69 (Nat.ne_of_beq_eq_false rfl) rfl (Nat.le_of_ble_eq_true rfl) (cl_B_bit (by omega) (by omega)) ?_
          refine ep_k1 (w := nI 1) t40_72 rfl ?_
          refine ep_b1n t40_73 (fun (c73 : (Nat.testBit (loadM T c) (T (20 + k))) = false) => ?_) (fun (c73 : (Nat.testBit (loadM T c) (T (20 + k))) = true) => ?_)
          · refine ep_k1 (w := nI 0) t40_80 rfl ?_
            refine ep_ri t40_81 (fun _ => rfl) ?_
            refine ⟨false, rfl, rfl, fun z => absurd z (by decide), fun z => ?_⟩
            rcases z.2 with ⟨a, b⟩ | ⟨a, b⟩ | ⟨a, b⟩
            · first
              | exact absurd (c41.symm.trans a) (by decide)
              | exact absurd (c53.symm.trans (ho.mpr (Or.inl b))) (by decide)
            · first
              | exact absurd (c41.symm.trans a) (by decide)
              | exact absurd (c53.symm.trans (ho.mpr (Or.inr b))) (by decide)
            · first
              | exact absurd (c63.symm.trans a) (by decide)
              | exact absurd (c73.symm.trans b) (by decide)
          · refine ep_k1 (w := nI 1) t40_76 rfl ?_
            refine ep_gt t40_77 ?_
            refine ep_ri t40_81 (fun _ => rfl) ?_
            refine ⟨true, rfl, rfl, fun _ => ⟨nc, ?_⟩, fun _ => rfl⟩
            first
            | exact (ho.mp c53).elim (fun z => Or.inl ⟨c41, z⟩) (fun z => Or.inr (Or.inl ⟨c41, z⟩))
            | exact Or.inr (Or.inr ⟨c63, c73⟩)
  · refine ep_k1 (w := nI 0) t40_32 rfl ?_
    refine ep_ri t40_33 (fun _ => rfl) ?_
    refine ⟨false, rfl, rfl, fun z => absurd z (by decide), fun z => ?_⟩
    exact absurd (pm_bit.mp c29).2 z.1

theorem L_hi_7 {X : gX} {q : Bool} {σ : gT1} {T : Nat → Nat} {s : Nat} {P : Option Value → gS → Prop} (hA : ((∀ j, j < 4 → σ 7 j = nI (T j)) ∧ ∀ k, k < T 3 → σ 8 k = nI (T (4 + k)) ∧ σ 9 k = nI (T (12 + k)) ∧ σ 10 k = nI (T (20 + k)) ∧ σ 11 k = sec T k)) (hw : WF0 T) (hs : s < 2 ^ T 3) (e5 : σ 12 s = nI (liveM T s)) (hpt : ∀ v, v < T 0 → σ 15 v = nI (pm T s (T 3) v)) (K : ∀ σ' : gT1, (∀ r, r ≠ 14 → σ' r = σ r) → (∀ c, c < 2 ^ T 3 → σ' 14 c = nI (hM T s (T 3) c)) → P none (47, g_rho q, σ')) : ∀ (d k : Nat) (σ' : gT1), k + d = T 3 → (∀ r, r ≠ 14 → σ' r = σ r) → (∀ c, c < 2 ^ T 3 → σ' 14 c = nI (hM T s k c)) → EvP X 41 2 [some (.ref 7), some (.int (nI s)), some (.int (nI (loadM T s))), some (.int (nI k))] [] (47, g_rho q, σ') P
  | 0, k, σ', hk, h1, h2 => by
    obtain rfl : k = T 3 := by omega
    have h8 := hw.2.1
    have h6 := hw.1
    have h256 := pow_le_256 h8
    have hll := live_lt hw.1 s
    refine ep_iln t41_2 rfl ?_
    refine ep_aln t41_3 rfl ?_
    refine ep_get t41_4 rfl (Nat.le_of_ble_eq_true rfl) rfl ?_
    refine ep_val (b := nI (T 3)) ((congrFun (h1 7 (by decide)) _).trans (hA.1 3 (by decide))) ?_
    refine ep_ifP t41_7 (ic_ge (by omega) (by omega)) (fun (c7 : (T 3) ≤ (T 3)) => ?_) (fun (c7 : ¬ ((T 3) ≤ (T 3))) => (by exact absurd (Nat.le_refl _) c7))
    refine ep_rv t41_77 ?_
    exact K σ' h1 h2
  | d + 1, k, σ', hk, h1, h2 => by
    have hk3 : k < T 3 := by omega
    have hkk := hw.2.2.2 k hk3
    have h8 := hw.2.1
    have h6 := hw.1
    have h256 := pow_le_256 h8
    have hll := live_lt hw.1 s
    refine ep_iln t41_2 rfl ?_
    refine ep_aln t41_3 rfl ?_
    refine ep_get t41_4 rfl (Nat.le_of_ble_eq_true rfl) rfl ?_
    refine ep_val (b := nI (T 3)) ((congrFun (h1 7 (by decide)) _).trans (hA.1 3 (by decide))) ?_
    refine ep_ifP t41_7 (ic_ge (by omega) (by omega)) (fun (c7 : (T 3) ≤ k) => (by omega)) (fun (c7 : ¬ ((T 3) ≤ k)) => ?_)
    refine ep_aln t41_10 rfl ?_
    refine ep_getr (q := 8) t41_11 rfl (Nat.le_of_ble_eq_true rfl) rfl (rfl) ?_
    refine ep_iln t41_14 rfl ?_
    refine ep_aldN t41_15 rfl (Nat.le_of_ble_eq_true rfl) (Nat.ne_of_beq_eq_false rfl) (Nat.le_of_ble_eq_true rfl) (by omega) ?_
    refine ep_val (b := nI (T (4 + k))) ((congrFun (h1 8 (by decide)) _).trans (hA.2 k hk3).1) ?_
    refine ep_k1 (w := nI 1) t41_16 rfl ?_
    refine ep_ifP t41_17 (ic_ne (by omega) (by omega)) (fun (c17 : ¬ (T (4 + k)) = 1) => ?_) (fun (c17 : ¬ (¬ (T (4 + k)) = 1)) => ?_)
    · refine ep_inc (b := nI (k + 1)) (L' := [some (.ref 7), some (.int (nI s)), some (.int (nI (loadM T s))), some (.int (nI (k + 1)))]) t41_71 rfl (nI_add k 1) rfl (Nat.le_of_ble_eq_true rfl) ?_
      refine ep_gt t41_74 ?_
      refine L_hi_7 hA hw hs e5 hpt K d (k + 1) σ' (by omega) h1 (fun c hc => ?_)
      rw [h2 c hc, hM_no (T := T) (s := s) (k := k) (by
        intro z
        first
        | exact c17 z.1
        | exact absurd (c25.symm.trans z.2.1) (by decide)
        | exact absurd (c40.symm.trans (hb9.mpr z.2.2)) (by decide))]
    · refine ep_iln t41_20 rfl ?_
      refine ep_iln t41_21 rfl ?_
      refine ep_cs t41_22 (Nat.ne_of_beq_eq_false rfl) rfl (Nat.le_of_ble_eq_true rfl) (cl_B_bit (by omega) (by omega)) ?_
      refine ep_bT t41_25 (fun (c25 : (Nat.testBit s k) = true) => ?_) (fun (c25 : (Nat.testBit s k) = false) => ?_)
      · refine ep_inc (b := nI (k + 1)) (L' := [some (.ref 7), some (.int (nI s)), some (.int (nI (loadM T s))), some (.int (nI (k + 1)))]) t41_71 rfl (nI_add k 1) rfl (Nat.le_of_ble_eq_true rfl) ?_
        refine ep_gt t41_74 ?_
        refine L_hi_7 hA hw hs e5 hpt K d (k + 1) σ' (by omega) h1 (fun c hc => ?_)
        rw [h2 c hc, hM_no (T := T) (s := s) (k := k) (by
          intro z
          first
          | exact c17 z.1
          | exact absurd (c25.symm.trans z.2.1) (by decide)
          | exact absurd (c40.symm.trans (hb9.mpr z.2.2)) (by decide))]
      · refine ep_aln t41_28 rfl ?_
        refine ep_iln t41_29 rfl ?_
        refine ep_aln t41_30 rfl ?_
        refine ep_getr (q := 12) t41_31 rfl (Nat.le_of_ble_eq_true rfl) rfl (rfl) ?_
        refine ep_iln t41_34 rfl ?_
        refine ep_aldN t41_35 rfl (Nat.le_of_ble_eq_true rfl) (Nat.ne_of_beq_eq_false rfl) (Nat.le_of_ble_eq_true rfl) (by omega) ?_
        refine ep_val (b := nI (liveM T s)) ((congrFun (h1 12 (by decide)) _).trans e5) ?_
        refine ep_iln t41_36 rfl ?_
        have hkd : T (4 + k) = 1 := Classical.byContradiction c17
        obtain ⟨v9, g9, h9, b9, rfl, rfl, hb9⟩ := cl_Net_under_7 (X := X) (q := q) (σ := σ') (T := T) (c := s) (k := k) ⟨fun j hj => (congrFun (h1 7 (by decide)) j).trans (hA.1 j hj), fun k hk => ⟨(congrFun (h1 8 (by decide)) k).trans (hA.2 k hk).1, (congrFun (h1 9 (by decide)) k).trans (hA.2 k hk).2.1, (congrFun (h1 10 (by decide)) k).trans (hA.2 k hk).2.2.1, (congrFun (h1 11 (by decide)) k).trans (hA.2 k hk).2.2.2⟩⟩ hw (fun v hv => (congrFun (h1 15 (by decide)) v).trans (hpt v hv)) hk3 (by omega)
        refine ep_cv t41_37 rfl rfl (Nat.le_of_ble_eq_true rfl) (Nat.le_of_ble_eq_true rfl) (h9) ?_
        refine ep_bF t41_40 (fun (c40 : b9 = false) => ?_) (fun (c40 : b9 = true) => ?_)
        · refine ep_inc (b := nI (k + 1)) (L' := [some (.ref 7), some (.int (nI s)), some (.int (nI (loadM T s))), some (.int (nI (k + 1)))]) t41_71 rfl (nI_add k 1) rfl (Nat.le_of_ble_eq_true rfl) ?_
          refine ep_gt t41_74 ?_
          refine L_hi_7 hA hw hs e5 hpt K d (k + 1) σ' (by omega) h1 (fun c hc => ?_)
          rw [h2 c hc, hM_no (T := T) (s := s) (k := k) (by
            intro z
            first
            | exact c17 z.1
            | exact absurd (c25.symm.trans z.2.1) (by decide)
            | exact absurd (c40.symm.trans (hb9.mpr z.2.2)) (by decide))]
        · have hlt : s ||| 2 ^ k < 2 ^ T 3 := Nat.or_lt_two_pow hs (Nat.pow_lt_pow_right (by decide) hk3)
          have hne := or_ne c25
          have hun := hb9.mp c40
          refine ep_aln t41_43 rfl ?_
          refine ep_getr (q := 14) t41_44 rfl (Nat.le_of_ble_eq_true rfl) rfl (rfl) ?_
          refine ep_iln t41_47 rfl ?_
          refine ep_dup2 t41_48 rfl rfl ?_
          refine ep_aldN t41_49 rfl (Nat.le_of_ble_eq_true rfl) (Nat.ne_of_beq_eq_false rfl) (Nat.le_of_ble_eq_true rfl) (by omega) ?_
          refine ep_val (b := nI (hM T s k s)) (h2 s hs) ?_
          refine ep_k1 (w := nI 1) t41_50 rfl ?_
          refine ep_iln t41_51 rfl ?_
          refine ep_oneN (b := k) t41_52 (by omega) ?_
          refine ep_orN (a := hM T s k s) (b := 2 ^ k) t41_53 ?_
          refine ep_astN t41_54 rfl (Nat.le_of_ble_eq_true rfl) (Nat.le_of_ble_eq_true rfl) (by omega) ?_
          refine ep_aln t41_55 rfl ?_
          refine ep_getr (q := 14) t41_56 rfl (Nat.le_of_ble_eq_true rfl) rfl (rfl) ?_
          refine ep_iln t41_59 rfl ?_
          refine ep_k1 (w := nI 1) t41_60 rfl ?_
          refine ep_iln t41_61 rfl ?_
          refine ep_oneN (b := k) t41_62 (by omega) ?_
          refine ep_orN (a := s) (b := 2 ^ k) t41_63 ?_
          refine ep_dup2 t41_64 rfl rfl ?_
          refine ep_aldN t41_65 rfl (Nat.le_of_ble_eq_true rfl) (Nat.ne_of_beq_eq_false rfl) (Nat.le_of_ble_eq_true rfl) (by omega) ?_
          refine ep_val (b := nI (hM T s k (s ||| 2 ^ k))) ((g_up_j hne).trans (h2 _ hlt)) ?_
          refine ep_k1 (w := nI 1) t41_66 rfl ?_
          refine ep_iln t41_67 rfl ?_
          refine ep_oneN (b := k) t41_68 (by omega) ?_
          refine ep_orN (a := hM T s k (s ||| 2 ^ k)) (b := 2 ^ k) t41_69 ?_
          refine ep_astN t41_70 rfl (Nat.le_of_ble_eq_true rfl) (Nat.le_of_ble_eq_true rfl) (by omega) ?_
          refine ep_inc (b := nI (k + 1)) (L' := [some (.ref 7), some (.int (nI s)), some (.int (nI (loadM T s))), some (.int (nI (k + 1)))]) t41_71 rfl (nI_add k 1) rfl (Nat.le_of_ble_eq_true rfl) ?_
          refine ep_gt t41_74 ?_
          refine L_hi_7 hA hw hs e5 hpt K d (k + 1) _ (by omega) (fun r hr => (g_up_ne hr).trans ((g_up_ne hr).trans (h1 r hr))) (fun c hc => ?_)
          by_cases z1 : c = s ||| 2 ^ k
          · rw [z1, g_up_eq, hM_yes hk3 hkd hun (clr_or c25)]
          · rw [g_up_j z1]
            by_cases z2 : c = s
            · rw [z2, g_up_eq, hM_yes hk3 hkd hun (clr_s c25)]
            · rw [g_up_j z2, h2 c hc, hM_skip (T := T) (fun z => (clr_inv z).elim z2 z1)]
theorem cl_Net_hold_7 {X : gX} {q : Bool} {σ : gT1} {T : Nat → Nat} {s : Nat} (hA : ((∀ j, j < 4 → σ 7 j = nI (T j)) ∧ ∀ k, k < T 3 → σ 8 k = nI (T (4 + k)) ∧ σ 9 k = nI (T (12 + k)) ∧ σ 10 k = nI (T (20 + k)) ∧ σ 11 k = sec T k)) (hw : WF0 T) (hs : s < 2 ^ T 3) (e5 : σ 12 s = nI (liveM T s)) (hpt : ∀ v, v < T 0 → σ 15 v = nI (pm T s (T 3) v)) (h7 : ∀ c, c < 2 ^ T 3 → σ 14 c = nI (hM T s 0 c)) : ClP X 41 [.ref 7, .int (nI s), .int (nI (loadM T s))] (47, g_rho q, σ) (fun v g1 => v = none ∧ ∃ σ1, g1 = (47, g_rho q, σ1) ∧ (∀ r, r ≠ 14 → σ1 r = σ r) ∧ ∀ c, c < 2 ^ T 3 → σ1 14 c = nI (hM T s (T 3) c)) := by
  refine ClP.of ⟨Nat.le_of_ble_eq_true rfl, rfl⟩ ?_
  show EvP X 41 0 [some (.ref 7), some (.int (nI s)), some (.int (nI (loadM T s))), none] [] (47, g_rho q, σ) _
  refine ep_k1 (w := nI 0) t41_0 rfl ?_
  refine ep_isn (L' := [some (.ref 7), some (.int (nI s)), some (.int (nI (loadM T s))), some (.int (nI 0))]) t41_1 rfl (Nat.le_of_ble_eq_true rfl) ?_
  exact L_hi_7 hA hw hs e5 hpt (fun σ1 a1 a2 => ⟨rfl, σ1, rfl, a1, a2⟩) (T 3) 0 σ (by omega) (fun _ _ => rfl) h7

theorem L_fi_7 {X : gX} {q : Bool} {σ : gT1} {P : Option Value → gS → Prop} (K : ∀ σ' : gT1, (∀ r, r ≠ 14 → σ' r = σ r) → (∀ j, j < 256 → σ' 14 j = nI 0) → P none (47, g_rho q, σ')) : ∀ (d j : Nat) (σ' : gT1), j + d = 256 → (∀ r, r ≠ 14 → σ' r = σ r) → (∀ i, i < j → σ' 14 i = nI 0) → EvP X 34 5 [some (.ref 14), some (.int (nI 0)), some (.int (nI j)), some (.int (nI 256))] [] (47, g_rho q, σ') P
  | 0, j, σ', hk, h1, h2 => by
    obtain rfl : j = 256 := by omega
    refine ep_iln t34_5 rfl ?_
    refine ep_iln t34_6 rfl ?_
    refine ep_ifP t34_7 (ic_ge (by omega) (by omega)) (fun (c7 : 256 ≤ 256) => ?_) (fun (c7 : ¬ (256 ≤ 256)) => (by omega))
    refine ep_rv t34_20 ?_
    exact K σ' h1 h2
  | d + 1, j, σ', hk, h1, h2 => by
    refine ep_iln t34_5 rfl ?_
    refine ep_iln t34_6 rfl ?_
    refine ep_ifP t34_7 (ic_ge (by omega) (by omega)) (fun (c7 : 256 ≤ j) => (by omega)) (fun (c7 : ¬ (256 ≤ j)) => ?_)
    refine ep_aln t34_10 rfl ?_
    refine ep_iln t34_11 rfl ?_
    refine ep_iln t34_12 rfl ?_
    refine ep_astN t34_13 rfl (Nat.le_of_ble_eq_true rfl) (Nat.le_of_ble_eq_true rfl) (by omega) ?_
    refine ep_inc (b := nI (j + 1)) (L' := [some (.ref 14), some (.int (nI 0)), some (.int (nI (j + 1))), some (.int (nI 256))]) t34_14 rfl (nI_add j 1) rfl (Nat.le_of_ble_eq_true rfl) ?_
    refine ep_gt t34_17 ?_
    refine L_fi_7 K d (j + 1) _ (by omega) (fun r hr => (g_up_ne hr).trans (h1 r hr)) (fun i hi => ?_)
    by_cases e : i = j
    · subst e; exact g_up_eq
    · rw [g_up_j e]; exact h2 i (by omega)
theorem cl_fill_7 {X : gX} {q : Bool} {σ : gT1} : ClP X 34 [.ref 14, .int (nI 0)] (47, g_rho q, σ) (fun v g1 => v = none ∧ ∃ σ1, g1 = (47, g_rho q, σ1) ∧ (∀ r, r ≠ 14 → σ1 r = σ r) ∧ ∀ j, j < 256 → σ1 14 j = nI 0) := by
  refine ClP.of ⟨Nat.le_of_ble_eq_true rfl, rfl⟩ ?_
  show EvP X 34 0 [some (.ref 14), some (.int (nI 0)), none, none] [] (47, g_rho q, σ) _
  refine ep_k1 (w := nI 0) t34_0 rfl ?_
  refine ep_isn (L' := [some (.ref 14), some (.int (nI 0)), some (.int (nI 0)), none]) t34_1 rfl (Nat.le_of_ble_eq_true rfl) ?_
  refine ep_aln t34_2 rfl ?_
  refine ep_alen t34_3 rfl (Nat.le_of_ble_eq_true rfl) (Nat.ne_of_beq_eq_false rfl) ?_
  refine ep_isn (L' := [some (.ref 14), some (.int (nI 0)), some (.int (nI 0)), some (.int (nI 256))]) t34_4 rfl (Nat.le_of_ble_eq_true rfl) ?_
  exact L_fi_7 (fun σ1 a1 a2 => ⟨rfl, σ1, rfl, a1, a2⟩) 256 0 σ rfl (fun _ _ => rfl) (fun i hi => absurd hi (Nat.not_lt_zero i))

theorem cl_Net_alls_7 {X : gX} {q : Bool} {σ : gT1} {T : Nat → Nat} (e3 : σ 7 3 = nI (T 3)) (h3 : T 3 ≤ 8) : Cl X 35 [.ref 7] (47, g_rho q, σ) (some (.int (nI (2 ^ T 3 - 1)))) (47, g_rho q, σ) := by
  refine Cl.of ⟨Nat.le_of_ble_eq_true rfl, rfl⟩ ?_
  show EvP X 35 0 [some (.ref 7)] [] (47, g_rho q, σ) _
  refine ep_k1 (w := nI 1) t35_0 rfl ?_
  refine ep_aln t35_1 rfl ?_
  refine ep_get t35_2 rfl (Nat.le_of_ble_eq_true rfl) rfl ?_
  refine ep_val (b := nI (T 3)) (e3) ?_
  refine ep_oneN (b := T 3) t35_5 (by have := Nat.two_pow_pos (T 3); omega) ?_
  refine ep_k1 (w := nI 1) t35_6 rfl ?_
  refine ep_subN (a := 2 ^ (T 3)) (b := 1) t35_7 (by have := Nat.two_pow_pos (T 3); omega) ?_
  refine ep_ri t35_8 (fun h => absurd h (by decide)) ?_
  exact ⟨rfl, rfl⟩

theorem L_ms_7 {X : gX} {q : Bool} {σ : gT1} {T : Nat → Nat} {P : Option Value → gS → Prop} (hAf : ∀ σ2 : gT1, (∀ r, r ≠ 12 → r ≠ 13 → r ≠ 14 → r ≠ 15 → σ2 r = σ r) → ((∀ j, j < 4 → σ2 7 j = nI (T j)) ∧ ∀ k, k < T 3 → σ2 8 k = nI (T (4 + k)) ∧ σ2 9 k = nI (T (12 + k)) ∧ σ2 10 k = nI (T (20 + k)) ∧ σ2 11 k = sec T k)) (hw : WF0 T) (hT1 : T 1 < 2147483648) (hT2 : T 2 < 2147483648) (K : ∀ σ' : gT1, (∀ r, r ≠ 12 → r ≠ 13 → r ≠ 14 → r ≠ 15 → σ' r = σ r) → (∀ c, c < 2 ^ T 3 → σ' 12 c = nI (liveM T c) ∧ σ' 13 c = nI (earthM T c)) → (∀ c, c < 2 ^ T 3 → σ' 14 c = nI (hM T (2 ^ T 3) 0 c)) → P none (47, g_rho q, σ')) : ∀ (d s : Nat) (σ' : gT1), s + d = 2 ^ T 3 → (∀ r, r ≠ 12 → r ≠ 13 → r ≠ 14 → r ≠ 15 → σ' r = σ r) → (∀ c, c < s → σ' 12 c = nI (liveM T c) ∧ σ' 13 c = nI (earthM T c)) → (∀ c, c < 2 ^ T 3 → σ' 14 c = nI (hM T (s) 0 c)) → EvP X 42 10 [some (.ref 7), some (.int (nI s))] [] (47, g_rho q, σ') P
  | 0, s, σ', hk, h1, h5, h7 => by
    obtain rfl : s = 2 ^ T 3 := by omega
    have h8 := hw.2.1
    have h6 := hw.1
    have h256 := pow_le_256 h8
    have hp2 := Nat.two_pow_pos (T 3)
    refine ep_iln t42_10 rfl ?_
    refine ep_aln t42_11 rfl ?_
    refine ep_cv t42_12 rfl rfl (Nat.le_of_ble_eq_true rfl) (Nat.le_of_ble_eq_true rfl) (cl_Net_alls_7 (T := T) ((hAf σ' h1).1 3 (by decide)) h8) ?_
    refine ep_ifP t42_15 (ic_gt (by omega) (by omega)) (fun (c15 : (2 ^ T 3 - 1) < (2 ^ T 3)) => ?_) (fun (c15 : ¬ ((2 ^ T 3 - 1) < (2 ^ T 3))) => (by omega))
    refine ep_rv t42_71 ?_
    exact K σ' h1 h5 h7
  | d + 1, s, σ', hk, h1, h5, h7 => by
    have h8 := hw.2.1
    have h6 := hw.1
    have h256 := pow_le_256 h8
    have hp2 := Nat.two_pow_pos (T 3)
    have hs : s < 2 ^ T 3 := by omega
    refine ep_iln t42_10 rfl ?_
    refine ep_aln t42_11 rfl ?_
    refine ep_cv t42_12 rfl rfl (Nat.le_of_ble_eq_true rfl) (Nat.le_of_ble_eq_true rfl) (cl_Net_alls_7 (T := T) ((hAf σ' h1).1 3 (by decide)) h8) ?_
    refine ep_ifP t42_15 (ic_gt (by omega) (by omega)) (fun (c15 : (2 ^ T 3 - 1) < s) => (by omega)) (fun (c15 : ¬ ((2 ^ T 3 - 1) < s)) => ?_)
    refine ep_aln t42_18 rfl ?_
    refine ep_iln t42_19 rfl ?_
    obtain ⟨v1, g1, k1, rfl, σ1, rfl, j1, j2⟩ := cl_Net_formParts_7 (X := X) (q := q) (σ := σ') (T := T) (c := s) (hAf σ' h1) hw (by omega)
    have fr1 : (∀ r, r ≠ 12 → r ≠ 13 → r ≠ 14 → r ≠ 15 → σ1 r = σ r) := fun r a b c d => (j1 r d).trans (h1 r a b c d)
    refine ep_cv t42_20 rfl rfl (Nat.le_of_ble_eq_true rfl) (Nat.le_of_ble_eq_true rfl) (k1) ?_
    refine ep_aln t42_23 rfl ?_
    refine ep_getr (q := 12) t42_24 rfl (Nat.le_of_ble_eq_true rfl) rfl (rfl) ?_
    refine ep_iln t42_27 rfl ?_
    refine ep_aln t42_28 rfl ?_
    refine ep_aln t42_29 rfl ?_
    refine ep_get t42_30 rfl (Nat.le_of_ble_eq_true rfl) rfl ?_
    refine ep_val (b := nI (T 1)) ((hAf σ1 fr1).1 1 (by decide)) ?_
    refine ep_cv t42_33 rfl rfl (Nat.le_of_ble_eq_true rfl) (Nat.le_of_ble_eq_true rfl) (cl_Net_partsWith_7 (T := T) (c := s) (s := T 1) ((hAf σ1 fr1).1 0 (by decide)) hw.1 hT1 j2) ?_
    refine ep_val (b := nI (liveM T s)) (rfl) ?_
    refine ep_astN t42_36 rfl (Nat.le_of_ble_eq_true rfl) (Nat.le_of_ble_eq_true rfl) (by omega) ?_
    obtain ⟨σ2, e2⟩ : ∃ σ2 : gT1, σ2 = g_up σ1 12 s (nI (liveM T s)) := ⟨_, rfl⟩
    rw [← e2]
    have n2 : ∀ r, r ≠ 12 → σ2 r = σ1 r := fun r hr => by rw [e2]; exact g_up_ne hr
    have l2 : ∀ j, σ2 12 j = if j = s then nI (liveM T s) else σ1 12 j := fun j => by rw [e2]; exact g_up_at
    have fr2 : (∀ r, r ≠ 12 → r ≠ 13 → r ≠ 14 → r ≠ 15 → σ2 r = σ r) := fun r a b c d => (n2 r a).trans (fr1 r a b c d)
    have pt2 : ∀ v, v < T 0 → σ2 15 v = nI (pm T s (T 3) v) := fun v hv => (congrFun (n2 15 (by decide)) v).trans (j2 v hv)
    have hen := enJ_lt (T := T) (c := s) (j := T 3) hw.1
    refine ep_aln t42_37 rfl ?_
    refine ep_getr (q := 13) t42_38 rfl (Nat.le_of_ble_eq_true rfl) rfl (rfl) ?_
    refine ep_iln t42_41 rfl ?_
    refine ep_aln t42_42 rfl ?_
    refine ep_aln t42_43 rfl ?_
    refine ep_iln t42_44 rfl ?_
    refine ep_cv t42_45 rfl rfl (Nat.le_of_ble_eq_true rfl) (Nat.le_of_ble_eq_true rfl) (cl_Net_earths_7 (T := T) (c := s) (hAf σ2 fr2) hw (by omega)) ?_
    refine ep_cv t42_48 rfl rfl (Nat.le_of_ble_eq_true rfl) (Nat.le_of_ble_eq_true rfl) (cl_Net_partsWith_7 (T := T) (c := s) (s := enJ T s (T 3)) ((hAf σ2 fr2).1 0 (by decide)) hw.1 (by omega) pt2) ?_
    refine ep_val (b := nI (earthM T s)) (congrArg nI (pw_earth hw)) ?_
    refine ep_astN t42_51 rfl (Nat.le_of_ble_eq_true rfl) (Nat.le_of_ble_eq_true rfl) (by omega) ?_
    obtain ⟨σ3, e3⟩ : ∃ σ3 : gT1, σ3 = g_up σ2 13 s (nI (earthM T s)) := ⟨_, rfl⟩
    rw [← e3]
    have n3 : ∀ r, r ≠ 13 → σ3 r = σ2 r := fun r hr => by rw [e3]; exact g_up_ne hr
    have l3 : ∀ j, σ3 13 j = if j = s then nI (earthM T s) else σ2 13 j := fun j => by rw [e3]; exact g_up_at
    have fr3 : (∀ r, r ≠ 12 → r ≠ 13 → r ≠ 14 → r ≠ 15 → σ3 r = σ r) := fun r a b c d => (n3 r b).trans (fr2 r a b c d)
    have pt3 : ∀ v, v < T 0 → σ3 15 v = nI (pm T s (T 3) v) := fun v hv => (congrFun (n3 15 (by decide)) v).trans (pt2 v hv)
    refine ep_aln t42_52 rfl ?_
    refine ep_iln t42_53 rfl ?_
    refine ep_aln t42_54 rfl ?_
    refine ep_aln t42_55 rfl ?_
    refine ep_get t42_56 rfl (Nat.le_of_ble_eq_true rfl) rfl ?_
    refine ep_val (b := nI (T 2)) ((hAf σ3 fr3).1 2 (by decide)) ?_
    refine ep_cv t42_59 rfl rfl (Nat.le_of_ble_eq_true rfl) (Nat.le_of_ble_eq_true rfl) (cl_Net_partsWith_7 (T := T) (c := s) (s := T 2) ((hAf σ3 fr3).1 0 (by decide)) hw.1 hT2 pt3) ?_
    refine ep_val (b := nI (loadM T s)) (rfl) ?_
    obtain ⟨v4, g4, k4, rfl, σ4, rfl, q1, q2⟩ := cl_Net_hold_7 (X := X) (q := q) (σ := σ3) (T := T) (s := s) (hAf σ3 fr3) hw hs ((congrFun (n3 12 (by decide)) s).trans ((l2 s).trans (if_pos rfl))) pt3 (fun c hc => (congrFun (n3 14 (by decide)) c).trans ((congrFun (n2 14 (by decide)) c).trans ((congrFun (j1 14 (by decide)) c).trans (h7 c hc))))
    refine ep_cv t42_62 rfl rfl (Nat.le_of_ble_eq_true rfl) (Nat.le_of_ble_eq_true rfl) (k4) ?_
    refine ep_inc (b := nI (s + 1)) (L' := [some (.ref 7), some (.int (nI (s + 1)))]) t42_65 rfl (nI_add s 1) rfl (Nat.le_of_ble_eq_true rfl) ?_
    refine ep_gt t42_68 ?_
    refine L_ms_7 hAf hw hT1 hT2 K d (s + 1) σ4 (by omega) (fun r a b c d => (q1 r c).trans (fr3 r a b c d)) (fun c hc => ?_) (fun c hc => (q2 c hc).trans (by rw [hM_next]))
    rw [q1 12 (by decide), q1 13 (by decide), n3 12 (by decide), l2, l3, n2 13 (by decide), j1 12 (by decide), j1 13 (by decide)]
    by_cases e : c = s
    · rw [if_pos e, if_pos e, e]
      exact ⟨rfl, rfl⟩
    · rw [if_neg e, if_neg e]
      exact h5 c (by omega)
theorem cl_Net_measure_7 {X : gX} {q : Bool} {σ : gT1} {T : Nat → Nat} (hA : ((∀ j, j < 4 → σ 7 j = nI (T j)) ∧ ∀ k, k < T 3 → σ 8 k = nI (T (4 + k)) ∧ σ 9 k = nI (T (12 + k)) ∧ σ 10 k = nI (T (20 + k)) ∧ σ 11 k = sec T k)) (hw : WF0 T) (hT1 : T 1 < 2147483648) (hT2 : T 2 < 2147483648) : ClP X 42 [.ref 7] (47, g_rho q, σ) (fun v g1 => v = none ∧ ∃ σ1, g1 = (47, g_rho q, σ1) ∧ (∀ r, r ≠ 12 → r ≠ 13 → r ≠ 14 → r ≠ 15 → σ1 r = σ r) ∧ NetC σ1 7 T) := by
  refine ClP.of ⟨Nat.le_of_ble_eq_true rfl, rfl⟩ ?_
  show EvP X 42 0 [some (.ref 7), none] [] (47, g_rho q, σ) _
  refine ep_aln t42_0 rfl ?_
  refine ep_getr (q := 14) t42_1 rfl (Nat.le_of_ble_eq_true rfl) rfl (rfl) ?_
  refine ep_k1 (w := nI 0) t42_4 rfl ?_
  obtain ⟨v1, g1, k1, rfl, σ1, rfl, j1, j2⟩ := cl_fill_7 (X := X) (q := q) (σ := σ)
  refine ep_cs t42_5 (Nat.ne_of_beq_eq_false rfl) rfl (Nat.le_of_ble_eq_true rfl) (k1) ?_
  refine ep_k1 (w := nI 0) t42_8 rfl ?_
  refine ep_isn (L' := [some (.ref 7), some (.int (nI 0))]) t42_9 rfl (Nat.le_of_ble_eq_true rfl) ?_
  have hAf : ∀ σ2 : gT1, (∀ r, r ≠ 12 → r ≠ 13 → r ≠ 14 → r ≠ 15 → σ2 r = σ r) → ((∀ j, j < 4 → σ2 7 j = nI (T j)) ∧ ∀ k, k < T 3 → σ2 8 k = nI (T (4 + k)) ∧ σ2 9 k = nI (T (12 + k)) ∧ σ2 10 k = nI (T (20 + k)) ∧ σ2 11 k = sec T k) := fun σ2 a => ⟨fun j hj => (congrFun (a 7 (by decide) (by decide) (by decide) (by decide)) j).trans (hA.1 j hj), fun k hk => ⟨(congrFun (a 8 (by decide) (by decide) (by decide) (by decide)) k).trans (hA.2 k hk).1, (congrFun (a 9 (by decide) (by decide) (by decide) (by decide)) k).trans (hA.2 k hk).2.1, (congrFun (a 10 (by decide) (by decide) (by decide) (by decide)) k).trans (hA.2 k hk).2.2.1, (congrFun (a 11 (by decide) (by decide) (by decide) (by decide)) k).trans (hA.2 k hk).2.2.2⟩⟩
  refine L_ms_7 hAf hw hT1 hT2 (fun σ3 a1 a2 a3 => ⟨rfl, σ3, rfl, a1, (hAf σ3 a1).1, (hAf σ3 a1).2, fun c hc => ⟨(a2 c hc).1, (a2 c hc).2, (a3 c hc).trans (by rw [hM_end hc])⟩⟩) (2 ^ T 3) 0 σ1 (Nat.zero_add _) (fun r _ _ c _ => j1 r c) (fun c hc => absurd hc (Nat.not_lt_zero c)) (fun c hc => ?_)
  have h256 := pow_le_256 hw.2.1
  rw [j2 c (by omega), hM_0]

theorem L_pw_16 {X : gX} {q : Bool} {σ : gT1} {T : Nat → Nat} {c s : Nat} (e0 : σ 16 0 = nI (T 0)) (h6 : T 0 ≤ 6) (hs : s < 2147483648) (hpt : ∀ v, v < T 0 → σ 24 v = nI (pm T c (T 3) v)) : ∀ (d u : Nat), u + d = T 0 → EvP X 38 4 [some (.ref 16), some (.int (nI s)), some (.int (nI (pwJ T c s u))), some (.int (nI u))] [] (47, g_rho q, σ) (fun w g2 => w = some (.int (nI (pwJ T c s (T 0)))) ∧ g2 = (47, g_rho q, σ))
  | 0, u, hk => by
    obtain rfl : u = T 0 := by omega
    refine ep_iln t38_4 rfl ?_
    refine ep_aln t38_5 rfl ?_
    refine ep_get t38_6 rfl (Nat.le_of_ble_eq_true rfl) rfl ?_
    refine ep_val (b := nI (T 0)) (e0) ?_
    refine ep_ifP t38_9 (ic_ge (by omega) (by omega)) (fun (c9 : (T 0) ≤ (T 0)) => ?_) (fun (c9 : ¬ ((T 0) ≤ (T 0))) => (by exact absurd (Nat.le_refl _) c9))
    refine ep_iln t38_36 rfl ?_
    refine ep_ri t38_37 (fun h => absurd h (by decide)) ?_
    exact ⟨rfl, rfl⟩
  | d + 1, u, hk => by
    refine ep_iln t38_4 rfl ?_
    refine ep_aln t38_5 rfl ?_
    refine ep_get t38_6 rfl (Nat.le_of_ble_eq_true rfl) rfl ?_
    refine ep_val (b := nI (T 0)) (e0) ?_
    refine ep_ifP t38_9 (ic_ge (by omega) (by omega)) (fun (c9 : (T 0) ≤ u) => (by omega)) (fun (c9 : ¬ ((T 0) ≤ u)) => ?_)
    refine ep_iln t38_12 rfl ?_
    refine ep_iln t38_13 rfl ?_
    refine ep_cs t38_14 (Nat.ne_of_beq_eq_false rfl) rfl (Nat.le_of_ble_eq_true rfl) (cl_B_bit (by omega) (by omega)) ?_
    refine ep_k1 (w := nI 1) t38_17 rfl ?_
    refine ep_b1n t38_18 (fun (c18 : (Nat.testBit s u) = false) => ?_) (fun (c18 : (Nat.testBit s u) = true) => ?_)
    · refine ep_inc (b := nI (u + 1)) (L' := [some (.ref 16), some (.int (nI s)), some (.int (nI (pwJ T c s u))), some (.int (nI (u + 1)))]) t38_30 rfl (nI_add u 1) rfl (Nat.le_of_ble_eq_true rfl) ?_
      refine ep_gt t38_33 ?_
      rw [pwJ_no c18]
      exact L_pw_16 e0 h6 hs hpt d (u + 1) (by omega)
    · refine ep_iln t38_21 rfl ?_
      refine ep_aln t38_22 rfl ?_
      refine ep_getr (q := 24) t38_23 rfl (Nat.le_of_ble_eq_true rfl) rfl (rfl) ?_
      refine ep_iln t38_26 rfl ?_
      refine ep_aldN t38_27 rfl (Nat.le_of_ble_eq_true rfl) (Nat.ne_of_beq_eq_false rfl) (Nat.le_of_ble_eq_true rfl) (by omega) ?_
      refine ep_val (b := nI (pm T c (T 3) u)) (hpt u (by omega)) ?_
      refine ep_orN (a := pwJ T c s u) (b := pm T c (T 3) u) t38_28 ?_
      refine ep_isn (L' := [some (.ref 16), some (.int (nI s)), some (.int (nI ((pwJ T c s u) ||| (pm T c (T 3) u)))), some (.int (nI u))]) t38_29 rfl (Nat.le_of_ble_eq_true rfl) ?_
      refine ep_inc (b := nI (u + 1)) (L' := [some (.ref 16), some (.int (nI s)), some (.int (nI ((pwJ T c s u) ||| (pm T c (T 3) u)))), some (.int (nI (u + 1)))]) t38_30 rfl (nI_add u 1) rfl (Nat.le_of_ble_eq_true rfl) ?_
      refine ep_gt t38_33 ?_
      rw [pwJ_yes c18]
      exact L_pw_16 e0 h6 hs hpt d (u + 1) (by omega)
theorem cl_Net_partsWith_16 {X : gX} {q : Bool} {σ : gT1} {T : Nat → Nat} {c s : Nat} (e0 : σ 16 0 = nI (T 0)) (h6 : T 0 ≤ 6) (hs : s < 2147483648) (hpt : ∀ v, v < T 0 → σ 24 v = nI (pm T c (T 3) v)) : Cl X 38 [.ref 16, .int (nI s)] (47, g_rho q, σ) (some (.int (nI (pwJ T c s (T 0))))) (47, g_rho q, σ) := by
  refine Cl.of ⟨Nat.le_of_ble_eq_true rfl, rfl⟩ ?_
  show EvP X 38 0 [some (.ref 16), some (.int (nI s)), none, none] [] (47, g_rho q, σ) _
  refine ep_k1 (w := nI 0) t38_0 rfl ?_
  refine ep_isn (L' := [some (.ref 16), some (.int (nI s)), some (.int (nI 0)), none]) t38_1 rfl (Nat.le_of_ble_eq_true rfl) ?_
  refine ep_k1 (w := nI 0) t38_2 rfl ?_
  refine ep_isn (L' := [some (.ref 16), some (.int (nI s)), some (.int (nI 0)), some (.int (nI 0))]) t38_3 rfl (Nat.le_of_ble_eq_true rfl) ?_
  have z := L_pw_16 (X := X) (q := q) (σ := σ) (T := T) (c := c) (s := s) e0 h6 hs hpt (T 0) 0 (by omega)
  rw [pwJ_0] at z
  exact z

theorem L_en_16 {X : gX} {q : Bool} {σ : gT1} {T : Nat → Nat} {c : Nat} (hA : ((∀ j, j < 4 → σ 16 j = nI (T j)) ∧ ∀ k, k < T 3 → σ 17 k = nI (T (4 + k)) ∧ σ 18 k = nI (T (12 + k)) ∧ σ 19 k = nI (T (20 + k)) ∧ σ 20 k = sec T k)) (hw : WF0 T) (hc : c < 2147483648) : ∀ (d k : Nat), k + d = T 3 → EvP X 39 4 [some (.ref 16), some (.int (nI c)), some (.int (nI (enJ T c k))), some (.int (nI k))] [] (47, g_rho q, σ) (fun w g2 => w = some (.int (nI (enJ T c (T 3)))) ∧ g2 = (47, g_rho q, σ))
  | 0, k, hk => by
    obtain rfl : k = T 3 := by omega
    refine ep_iln t39_4 rfl ?_
    refine ep_aln t39_5 rfl ?_
    refine ep_get t39_6 rfl (Nat.le_of_ble_eq_true rfl) rfl ?_
    refine ep_val (b := nI (T 3)) (hA.1 3 (by decide)) ?_
    refine ep_ifP t39_9 (ic_ge (by have := hw.1; have := hw.2.1; omega) (by have := hw.1; have := hw.2.1; omega)) (fun (c9 : (T 3) ≤ (T 3)) => ?_) (fun (c9 : ¬ ((T 3) ≤ (T 3))) => (by exact absurd (Nat.le_refl _) c9))
    refine ep_iln t39_48 rfl ?_
    refine ep_ri t39_49 (fun h => absurd h (by decide)) ?_
    exact ⟨rfl, rfl⟩
  | d + 1, k, hk => by
    have hk3 : k < T 3 := by omega
    refine ep_iln t39_4 rfl ?_
    refine ep_aln t39_5 rfl ?_
    refine ep_get t39_6 rfl (Nat.le_of_ble_eq_true rfl) rfl ?_
    refine ep_val (b := nI (T 3)) (hA.1 3 (by decide)) ?_
    refine ep_ifP t39_9 (ic_ge (by have := hw.1; have := hw.2.1; have := hw.2.2.2 k hk3; omega) (by have := hw.1; have := hw.2.1; have := hw.2.2.2 k hk3; omega)) (fun (c9 : (T 3) ≤ k) => (by omega)) (fun (c9 : ¬ ((T 3) ≤ k)) => ?_)
    refine ep_aln t39_12 rfl ?_
    refine ep_getr (q := 17) t39_13 rfl (Nat.le_of_ble_eq_true rfl) rfl (rfl) ?_
    refine ep_iln t39_16 rfl ?_
    refine ep_aldN t39_17 rfl (Nat.le_of_ble_eq_true rfl) (Nat.ne_of_beq_eq_false rfl) (Nat.le_of_ble_eq_true rfl) (by have := hw.1; have := hw.2.1; have := hw.2.2.2 k hk3; omega) ?_
    refine ep_val (b := nI (T (4 + k))) ((hA.2 k hk3).1) ?_
    refine ep_k1 (w := nI 2) t39_18 rfl ?_
    refine ep_ifP t39_19 (ic_ne (by have := hw.1; have := hw.2.1; have := hw.2.2.2 k hk3; omega) (by have := hw.1; have := hw.2.1; have := hw.2.2.2 k hk3; omega)) (fun (c19 : ¬ (T (4 + k)) = 2) => ?_) (fun (c19 : ¬ (¬ (T (4 + k)) = 2)) => ?_)
    · refine ep_inc (b := nI (k + 1)) (L' := [some (.ref 16), some (.int (nI c)), some (.int (nI (enJ T c k))), some (.int (nI (k + 1)))]) t39_42 rfl (nI_add k 1) rfl (Nat.le_of_ble_eq_true rfl) ?_
      refine ep_gt t39_45 ?_
      rw [enJ_no (T := T) (c := c) (j := k) (by
        intro z
        first
        | exact c19 z.2
        | exact absurd (c28.symm.trans z.1) (by decide))]
      exact L_en_16 hA hw hc d (k + 1) (by omega)
    · refine ep_iln t39_22 rfl ?_
      refine ep_iln t39_23 rfl ?_
      refine ep_cs t39_24 (Nat.ne_of_beq_eq_false rfl) rfl (Nat.le_of_ble_eq_true rfl) (cl_B_bit (by have := hw.1; have := hw.2.1; have := hw.2.2.2 k hk3; omega) (by have := hw.1; have := hw.2.1; have := hw.2.2.2 k hk3; omega)) ?_
      refine ep_k1 (w := nI 1) t39_27 rfl ?_
      refine ep_b1n t39_28 (fun (c28 : (Nat.testBit c k) = false) => ?_) (fun (c28 : (Nat.testBit c k) = true) => ?_)
      · refine ep_inc (b := nI (k + 1)) (L' := [some (.ref 16), some (.int (nI c)), some (.int (nI (enJ T c k))), some (.int (nI (k + 1)))]) t39_42 rfl (nI_add k 1) rfl (Nat.le_of_ble_eq_true rfl) ?_
        refine ep_gt t39_45 ?_
        rw [enJ_no (T := T) (c := c) (j := k) (by
          intro z
          first
          | exact c19 z.2
          | exact absurd (c28.symm.trans z.1) (by decide))]
        exact L_en_16 hA hw hc d (k + 1) (by omega)
      · refine ep_iln t39_31 rfl ?_
        refine ep_k1 (w := nI 1) t39_32 rfl ?_
        refine ep_aln t39_33 rfl ?_
        refine ep_getr (q := 19) t39_34 rfl (Nat.le_of_ble_eq_true rfl) rfl (rfl) ?_
        refine ep_iln t39_37 rfl ?_
        refine ep_aldN t39_38 rfl (Nat.le_of_ble_eq_true rfl) (Nat.ne_of_beq_eq_false rfl) (Nat.le_of_ble_eq_true rfl) (by have := hw.1; have := hw.2.1; have := hw.2.2.2 k hk3; omega) ?_
        refine ep_val (b := nI (T (20 + k))) ((hA.2 k hk3).2.2.1) ?_
        refine ep_oneN (b := T (20 + k)) t39_39 (by have := hw.1; have := (hw.2.2.1 k hk3).1; omega) ?_
        refine ep_orN (a := enJ T c k) (b := 2 ^ (T (20 + k))) t39_40 ?_
        refine ep_isn (L' := [some (.ref 16), some (.int (nI c)), some (.int (nI ((enJ T c k) ||| (2 ^ (T (20 + k)))))), some (.int (nI k))]) t39_41 rfl (Nat.le_of_ble_eq_true rfl) ?_
        refine ep_inc (b := nI (k + 1)) (L' := [some (.ref 16), some (.int (nI c)), some (.int (nI ((enJ T c k) ||| (2 ^ (T (20 + k)))))), some (.int (nI (k + 1)))]) t39_42 rfl (nI_add k 1) rfl (Nat.le_of_ble_eq_true rfl) ?_
        refine ep_gt t39_45 ?_
        rw [enJ_yes c28 (Classical.byContradiction c19) (hw.2.2.1 k hk3).1]
        exact L_en_16 hA hw hc d (k + 1) (by omega)
theorem cl_Net_earths_16 {X : gX} {q : Bool} {σ : gT1} {T : Nat → Nat} {c : Nat} (hA : ((∀ j, j < 4 → σ 16 j = nI (T j)) ∧ ∀ k, k < T 3 → σ 17 k = nI (T (4 + k)) ∧ σ 18 k = nI (T (12 + k)) ∧ σ 19 k = nI (T (20 + k)) ∧ σ 20 k = sec T k)) (hw : WF0 T) (hc : c < 2147483648) : Cl X 39 [.ref 16, .int (nI c)] (47, g_rho q, σ) (some (.int (nI (enJ T c (T 3))))) (47, g_rho q, σ) := by
  refine Cl.of ⟨Nat.le_of_ble_eq_true rfl, rfl⟩ ?_
  show EvP X 39 0 [some (.ref 16), some (.int (nI c)), none, none] [] (47, g_rho q, σ) _
  refine ep_k1 (w := nI 0) t39_0 rfl ?_
  refine ep_isn (L' := [some (.ref 16), some (.int (nI c)), some (.int (nI 0)), none]) t39_1 rfl (Nat.le_of_ble_eq_true rfl) ?_
  refine ep_k1 (w := nI 0) t39_2 rfl ?_
  refine ep_isn (L' := [some (.ref 16), some (.int (nI c)), some (.int (nI 0)), some (.int (nI 0))]) t39_3 rfl (Nat.le_of_ble_eq_true rfl) ?_
  have z := L_en_16 (X := X) (q := q) (σ := σ) (T := T) (c := c) hA hw hc (T 3) 0 (by omega)
  rw [enJ_0] at z
  exact z

theorem cl_Net_under_16 {X : gX} {q : Bool} {σ : gT1} {T : Nat → Nat} {c k : Nat} (hA : ((∀ j, j < 4 → σ 16 j = nI (T j)) ∧ ∀ k, k < T 3 → σ 17 k = nI (T (4 + k)) ∧ σ 18 k = nI (T (12 + k)) ∧ σ 19 k = nI (T (20 + k)) ∧ σ 20 k = sec T k)) (hw : WF0 T) (hpt : ∀ v, v < T 0 → σ 24 v = nI (pm T c (T 3) v)) (hk3 : k < T 3) (hk2 : ¬ T (4 + k) = 2) : ClP X 40 [.ref 16, .int (nI k), .int (nI (liveM T c)), .int (nI (loadM T c))] (47, g_rho q, σ) (fun v g1 => ∃ b : Bool, v = some (.int (bI b)) ∧ g1 = (47, g_rho q, σ) ∧ (b = true ↔ under T c k)) := by
  have hf := (hw.2.2.1 k hk3).1
  have hs := (hw.2.2.1 k hk3).2 hk2
  have h6 := hw.1
  have h8 := hw.2.1
  have b1 := live_lt hw.1 c
  have b2 : loadM T c < 64 := pwJ_lt (s := T 2) (j := T 0) hw.1
  have b3 := pm_lt hw.1 c (T 3) (T (20 + k))
  have b4 := or_lt64 b1 b2
  have ho : (liveM T c ||| loadM T c).testBit (T (28 + k)) = true ↔ (liveM T c).testBit (T (28 + k)) = true ∨ (loadM T c).testBit (T (28 + k)) = true := by rw [Nat.testBit_or, Bool.or_eq_true]
  refine ClP.of ⟨Nat.le_of_ble_eq_true rfl, rfl⟩ ?_
  show EvP X 40 0 [some (.ref 16), some (.int (nI k)), some (.int (nI (liveM T c))), some (.int (nI (loadM T c))), none, none] [] (47, g_rho q, σ) _
  refine ep_aln t40_0 rfl ?_
  refine ep_getr (q := 19) t40_1 rfl (Nat.le_of_ble_eq_true rfl) rfl (rfl) ?_
  refine ep_iln t40_4 rfl ?_
  refine ep_aldN t40_5 rfl (Nat.le_of_ble_eq_true rfl) (Nat.ne_of_beq_eq_false rfl) (Nat.le_of_ble_eq_true rfl) (by omega) ?_
  refine ep_val (b := nI (T (20 + k))) ((hA.2 k hk3).2.2.1) ?_
  refine ep_is (L' := [some (.ref 16), some (.int (nI k)), some (.int (nI (liveM T c))), some (.int (nI (loadM T c))), some (.int (nI (T (20 + k)))), none]) t40_6 rfl (Nat.le_of_ble_eq_true rfl) ?_
  refine ep_aln t40_8 rfl ?_
  refine ep_getr (q := 20) t40_9 rfl (Nat.le_of_ble_eq_true rfl) rfl (rfl) ?_
  refine ep_iln t40_12 rfl ?_
  refine ep_aldN t40_13 rfl (Nat.le_of_ble_eq_true rfl) (Nat.ne_of_beq_eq_false rfl) (Nat.le_of_ble_eq_true rfl) (by omega) ?_
  refine ep_val (b := sec T k) ((hA.2 k hk3).2.2.2) ?_
  refine ep_val (b := nI (T (28 + k))) (if_neg hk2) ?_
  refine ep_is (L' := [some (.ref 16), some (.int (nI k)), some (.int (nI (liveM T c))), some (.int (nI (loadM T c))), some (.int (nI (T (20 + k)))), some (.int (nI (T (28 + k))))]) t40_14 rfl (Nat.le_of_ble_eq_true rfl) ?_
  refine ep_aln t40_16 rfl ?_
  refine ep_getr (q := 24) t40_17 rfl (Nat.le_of_ble_eq_true rfl) rfl (rfl) ?_
  refine ep_il t40_20 rfl ?_
  refine ep_aldN t40_22 rfl (Nat.le_of_ble_eq_true rfl) (Nat.ne_of_beq_eq_false rfl) (Nat.le_of_ble_eq_true rfl) (by omega) ?_
  refine ep_val (b := nI (pm T c (T 3) (T (20 + k)))) (hpt _ hf) ?_
  refine ep_il t40_23 rfl ?_
  refine ep_cs t40_25 (Nat.ne_of_beq_eq_false rfl) rfl (Nat.le_of_ble_eq_true rfl) (cl_B_bit (by omega) (by omega)) ?_
  refine ep_k1 (w := nI 1) t40_28 rfl ?_
  refine ep_b1n t40_29 (fun (c29 : (Nat.testBit (pm T c (T 3) (T (20 + k))) (T (28 + k))) = false) => ?_) (fun (c29 : (Nat.testBit (pm T c (T 3) (T (20 + k))) (T (28 + k))) = true) => ?_)
  · have nc : ¬ Cn T c (T (20 + k)) (T (28 + k)) := fun z => by
      have z2 := pm_bit.mpr ⟨hs, z⟩
      exact absurd (c29.symm.trans z2) (by decide)
    refine ep_iln t40_34 rfl ?_
    refine ep_il t40_35 rfl ?_
    refine ep_cs t40_37 (Nat.ne_of_beq_eq_false rfl) rfl (Nat.le_of_ble_eq_true rfl) (cl_B_bit (by omega) (by omega)) ?_
    refine ep_k1 (w := nI 1) t40_40 rfl ?_
    refine ep_b1n t40_41 (fun (c41 : (Nat.testBit (liveM T c) (T (20 + k))) = false) => ?_) (fun (c41 : (Nat.testBit (liveM T c) (T (20 + k))) = true) => ?_)
    · refine ep_iln t40_56 rfl ?_
      refine ep_il t40_57 rfl ?_
      refine ep_cs t40_59 (Nat.ne_of_beq_eq_false rfl) rfl (Nat.le_of_ble_eq_true rfl) (cl_B_bit (by omega) (by omega)) ?_
      refine ep_k1 (w := nI 1) t40_62 rfl ?_
      refine ep_b1n t40_63 (fun (c63 : (Nat.testBit (liveM T c) (T (28 + k))) = false) => ?_) (fun (c63 : (Nat.testBit (liveM T c) (T (28 + k))) = true) => ?_)
      · refine ep_k1 (w := nI 0) t40_80 rfl ?_
        refine ep_ri t40_81 (fun _ => rfl) ?_
        refine ⟨false, rfl, rfl, fun z => absurd z (by decide), fun z => ?_⟩
        rcases z.2 with ⟨a, b⟩ | ⟨a, b⟩ | ⟨a, b⟩
        · first
          | exact absurd (c41.symm.trans a) (by decide)
          | exact absurd (c53.symm.trans (ho.mpr (Or.inl b))) (by decide)
        · first
          | exact absurd (c41.symm.trans a) (by decide)
          | exact absurd (c53.symm.trans (ho.mpr (Or.inr b))) (by decide)
        · first
          | exact absurd (c63.symm.trans a) (by decide)
          | exact absurd (c73.symm.trans b) (by decide)
      · refine ep_iln t40_66 rfl ?_
        refine ep_il t40_67 rfl ?_
        refine ep_cs t40_69 (Nat.ne_of_beq_eq_false rfl) rfl (Nat.le_of_ble_eq_true rfl) (cl_B_bit (by omega) (by omega)) ?_
        refine ep_k1 (w := nI 1) t40_72 rfl ?_
        refine ep_b1n t40_73 (fun (c73 : (Nat.testBit (loadM T c) (T (20 + k))) = false) => ?_) (fun (c73 : (Nat.testBit (loadM T c) (T (20 + k))) = true) => ?_)
        · refine ep_k1 (w := nI 0) t40_80 rfl ?_
          refine ep_ri t40_81 (fun _ => rfl) ?_
          refine ⟨false, rfl, rfl, fun z => absurd z (by decide), fun z => ?_⟩
          rcases z.2 with ⟨a, b⟩ | ⟨a, b⟩ | ⟨a, b⟩
          · first
            | exact absurd (c41.symm.trans a) (by decide)
            | exact absurd (c53.symm.trans (ho.mpr (Or.inl b))) (by decide)
          · first
            | exact absurd (c41.symm.trans a) (by decide)
            | exact absurd (c53.symm.trans (ho.mpr (Or.inr b))) (by decide)
          · first
            | exact absurd (c63.symm.trans a) (by decide)
            | exact absurd (c73.symm.trans b) (by decide)
        · refine ep_k1 (w := nI 1) t40_76 rfl ?_
          refine ep_gt t40_77 ?_
          refine ep_ri t40_81 (fun _ => rfl) ?_
          refine ⟨true, rfl, rfl, fun _ => ⟨nc, ?_⟩, fun _ => rfl⟩
          first
          | exact (ho.mp c53).elim (fun z => Or.inl ⟨c41, z⟩) (fun z => Or.inr (Or.inl ⟨c41, z⟩))
          | exact Or.inr (Or.inr ⟨c63, c73⟩)
    · refine ep_iln t40_44 rfl ?_
      refine ep_iln t40_45 rfl ?_
      refine ep_orN (a := liveM T c) (b := loadM T c) t40_46 ?_
      refine ep_il t40_47 rfl ?_
      refine ep_cs t40_49 (Nat.ne_of_beq_eq_false rfl) rfl (Nat.le_of_ble_eq_true rfl) (cl_B_bit (by omega) (by omega)) ?_
      refine ep_k1 (w := nI 1) t40_52 rfl ?_
      refine ep_b1e t40_53 (fun (c53 : (Nat.testBit ((liveM T c) ||| (loadM T c)) (T (28 + k))) = true) => ?_) (fun (c53 : (Nat.testBit ((liveM T c) ||| (loadM T c)) (T (28 + k))) = false) => ?_)
      · refine ep_k1 (w := nI 1) t40_76 rfl ?_
        refine ep_gt t40_77 ?_
        refine ep_ri t40_81 (fun _ => rfl) ?_
        refine ⟨true, rfl, rfl, fun _ => ⟨nc, ?_⟩, fun _ => rfl⟩
        first
        | exact (ho.mp c53).elim (fun z => Or.inl ⟨c41, z⟩) (fun z => Or.inr (Or.inl ⟨c41, z⟩))
        | exact Or.inr (Or.inr ⟨c63, c73⟩)
      · refine ep_iln t40_56 rfl ?_
        refine ep_il t40_57 rfl ?_
        refine ep_cs t40_59 (Nat.ne_of_beq_eq_false rfl) rfl (Nat.le_of_ble_eq_true rfl) (cl_B_bit (by omega) (by omega)) ?_
        refine ep_k1 (w := nI 1) t40_62 rfl ?_
        refine ep_b1n t40_63 (fun (c63 : (Nat.testBit (liveM T c) (T (28 + k))) = false) => ?_) (fun (c63 : (Nat.testBit (liveM T c) (T (28 + k))) = true) => ?_)
        · refine ep_k1 (w := nI 0) t40_80 rfl ?_
          refine ep_ri t40_81 (fun _ => rfl) ?_
          refine ⟨false, rfl, rfl, fun z => absurd z (by decide), fun z => ?_⟩
          rcases z.2 with ⟨a, b⟩ | ⟨a, b⟩ | ⟨a, b⟩
          · first
            | exact absurd (c41.symm.trans a) (by decide)
            | exact absurd (c53.symm.trans (ho.mpr (Or.inl b))) (by decide)
          · first
            | exact absurd (c41.symm.trans a) (by decide)
            | exact absurd (c53.symm.trans (ho.mpr (Or.inr b))) (by decide)
          · first
            | exact absurd (c63.symm.trans a) (by decide)
            | exact absurd (c73.symm.trans b) (by decide)
        · refine ep_iln t40_66 rfl ?_
          refine ep_il t40_67 rfl ?_
          refine ep_cs t40_69 (Nat.ne_of_beq_eq_false rfl) rfl (Nat.le_of_ble_eq_true rfl) (cl_B_bit (by omega) (by omega)) ?_
          refine ep_k1 (w := nI 1) t40_72 rfl ?_
          refine ep_b1n t40_73 (fun (c73 : (Nat.testBit (loadM T c) (T (20 + k))) = false) => ?_) (fun (c73 : (Nat.testBit (loadM T c) (T (20 + k))) = true) => ?_)
          · refine ep_k1 (w := nI 0) t40_80 rfl ?_
            refine ep_ri t40_81 (fun _ => rfl) ?_
            refine ⟨false, rfl, rfl, fun z => absurd z (by decide), fun z => ?_⟩
            rcases z.2 with ⟨a, b⟩ | ⟨a, b⟩ | ⟨a, b⟩
            · first
              | exact absurd (c41.symm.trans a) (by decide)
              | exact absurd (c53.symm.trans (ho.mpr (Or.inl b))) (by decide)
            · first
              | exact absurd (c41.symm.trans a) (by decide)
              | exact absurd (c53.symm.trans (ho.mpr (Or.inr b))) (by decide)
            · first
              | exact absurd (c63.symm.trans a) (by decide)
              | exact absurd (c73.symm.trans b) (by decide)
          · refine ep_k1 (w := nI 1) t40_76 rfl ?_
            refine ep_gt t40_77 ?_
            refine ep_ri t40_81 (fun _ => rfl) ?_
            refine ⟨true, rfl, rfl, fun _ => ⟨nc, ?_⟩, fun _ => rfl⟩
            first
            | exact (ho.mp c53).elim (fun z => Or.inl ⟨c41, z⟩) (fun z => Or.inr (Or.inl ⟨c41, z⟩))
            | exact Or.inr (Or.inr ⟨c63, c73⟩)
  · refine ep_k1 (w := nI 0) t40_32 rfl ?_
    refine ep_ri t40_33 (fun _ => rfl) ?_
    refine ⟨false, rfl, rfl, fun z => absurd z (by decide), fun z => ?_⟩
    exact absurd (pm_bit.mp c29).2 z.1

theorem L_hi_16 {X : gX} {q : Bool} {σ : gT1} {T : Nat → Nat} {s : Nat} {P : Option Value → gS → Prop} (hA : ((∀ j, j < 4 → σ 16 j = nI (T j)) ∧ ∀ k, k < T 3 → σ 17 k = nI (T (4 + k)) ∧ σ 18 k = nI (T (12 + k)) ∧ σ 19 k = nI (T (20 + k)) ∧ σ 20 k = sec T k)) (hw : WF0 T) (hs : s < 2 ^ T 3) (e5 : σ 21 s = nI (liveM T s)) (hpt : ∀ v, v < T 0 → σ 24 v = nI (pm T s (T 3) v)) (K : ∀ σ' : gT1, (∀ r, r ≠ 23 → σ' r = σ r) → (∀ c, c < 2 ^ T 3 → σ' 23 c = nI (hM T s (T 3) c)) → P none (47, g_rho q, σ')) : ∀ (d k : Nat) (σ' : gT1), k + d = T 3 → (∀ r, r ≠ 23 → σ' r = σ r) → (∀ c, c < 2 ^ T 3 → σ' 23 c = nI (hM T s k c)) → EvP X 41 2 [some (.ref 16), some (.int (nI s)), some (.int (nI (loadM T s))), some (.int (nI k))] [] (47, g_rho q, σ') P
  | 0, k, σ', hk, h1, h2 => by
    obtain rfl : k = T 3 := by omega
    have h8 := hw.2.1
    have h6 := hw.1
    have h256 := pow_le_256 h8
    have hll := live_lt hw.1 s
    refine ep_iln t41_2 rfl ?_
    refine ep_aln t41_3 rfl ?_
    refine ep_get t41_4 rfl (Nat.le_of_ble_eq_true rfl) rfl ?_
    refine ep_val (b := nI (T 3)) ((congrFun (h1 16 (by decide)) _).trans (hA.1 3 (by decide))) ?_
    refine ep_ifP t41_7 (ic_ge (by omega) (by omega)) (fun (c7 : (T 3) ≤ (T 3)) => ?_) (fun (c7 : ¬ ((T 3) ≤ (T 3))) => (by exact absurd (Nat.le_refl _) c7))
    refine ep_rv t41_77 ?_
    exact K σ' h1 h2
  | d + 1, k, σ', hk, h1, h2 => by
    have hk3 : k < T 3 := by omega
    have hkk := hw.2.2.2 k hk3
    have h8 := hw.2.1
    have h6 := hw.1
    have h256 := pow_le_256 h8
    have hll := live_lt hw.1 s
    refine ep_iln t41_2 rfl ?_
    refine ep_aln t41_3 rfl ?_
    refine ep_get t41_4 rfl (Nat.le_of_ble_eq_true rfl) rfl ?_
    refine ep_val (b := nI (T 3)) ((congrFun (h1 16 (by decide)) _).trans (hA.1 3 (by decide))) ?_
    refine ep_ifP t41_7 (ic_ge (by omega) (by omega)) (fun (c7 : (T 3) ≤ k) => (by omega)) (fun (c7 : ¬ ((T 3) ≤ k)) => ?_)
    refine ep_aln t41_10 rfl ?_
    refine ep_getr (q := 17) t41_11 rfl (Nat.le_of_ble_eq_true rfl) rfl (rfl) ?_
    refine ep_iln t41_14 rfl ?_
    refine ep_aldN t41_15 rfl (Nat.le_of_ble_eq_true rfl) (Nat.ne_of_beq_eq_false rfl) (Nat.le_of_ble_eq_true rfl) (by omega) ?_
    refine ep_val (b := nI (T (4 + k))) ((congrFun (h1 17 (by decide)) _).trans (hA.2 k hk3).1) ?_
    refine ep_k1 (w := nI 1) t41_16 rfl ?_
    refine ep_ifP t41_17 (ic_ne (by omega) (by omega)) (fun (c17 : ¬ (T (4 + k)) = 1) => ?_) (fun (c17 : ¬ (¬ (T (4 + k)) = 1)) => ?_)
    · refine ep_inc (b := nI (k + 1)) (L' := [some (.ref 16), some (.int (nI s)), some (.int (nI (loadM T s))), some (.int (nI (k + 1)))]) t41_71 rfl (nI_add k 1) rfl (Nat.le_of_ble_eq_true rfl) ?_
      refine ep_gt t41_74 ?_
      refine L_hi_16 hA hw hs e5 hpt K d (k + 1) σ' (by omega) h1 (fun c hc => ?_)
      rw [h2 c hc, hM_no (T := T) (s := s) (k := k) (by
        intro z
        first
        | exact c17 z.1
        | exact absurd (c25.symm.trans z.2.1) (by decide)
        | exact absurd (c40.symm.trans (hb9.mpr z.2.2)) (by decide))]
    · refine ep_iln t41_20 rfl ?_
      refine ep_iln t41_21 rfl ?_
      refine ep_cs t41_22 (Nat.ne_of_beq_eq_false rfl) rfl (Nat.le_of_ble_eq_true rfl) (cl_B_bit (by omega) (by omega)) ?_
      refine ep_bT t41_25 (fun (c25 : (Nat.testBit s k) = true) => ?_) (fun (c25 : (Nat.testBit s k) = false) => ?_)
      · refine ep_inc (b := nI (k + 1)) (L' := [some (.ref 16), some (.int (nI s)), some (.int (nI (loadM T s))), some (.int (nI (k + 1)))]) t41_71 rfl (nI_add k 1) rfl (Nat.le_of_ble_eq_true rfl) ?_
        refine ep_gt t41_74 ?_
        refine L_hi_16 hA hw hs e5 hpt K d (k + 1) σ' (by omega) h1 (fun c hc => ?_)
        rw [h2 c hc, hM_no (T := T) (s := s) (k := k) (by
          intro z
          first
          | exact c17 z.1
          | exact absurd (c25.symm.trans z.2.1) (by decide)
          | exact absurd (c40.symm.trans (hb9.mpr z.2.2)) (by decide))]
      · refine ep_aln t41_28 rfl ?_
        refine ep_iln t41_29 rfl ?_
        refine ep_aln t41_30 rfl ?_
        refine ep_getr (q := 21) t41_31 rfl (Nat.le_of_ble_eq_true rfl) rfl (rfl) ?_
        refine ep_iln t41_34 rfl ?_
        refine ep_aldN t41_35 rfl (Nat.le_of_ble_eq_true rfl) (Nat.ne_of_beq_eq_false rfl) (Nat.le_of_ble_eq_true rfl) (by omega) ?_
        refine ep_val (b := nI (liveM T s)) ((congrFun (h1 21 (by decide)) _).trans e5) ?_
        refine ep_iln t41_36 rfl ?_
        have hkd : T (4 + k) = 1 := Classical.byContradiction c17
        obtain ⟨v9, g9, h9, b9, rfl, rfl, hb9⟩ := cl_Net_under_16 (X := X) (q := q) (σ := σ') (T := T) (c := s) (k := k) ⟨fun j hj => (congrFun (h1 16 (by decide)) j).trans (hA.1 j hj), fun k hk => ⟨(congrFun (h1 17 (by decide)) k).trans (hA.2 k hk).1, (congrFun (h1 18 (by decide)) k).trans (hA.2 k hk).2.1, (congrFun (h1 19 (by decide)) k).trans (hA.2 k hk).2.2.1, (congrFun (h1 20 (by decide)) k).trans (hA.2 k hk).2.2.2⟩⟩ hw (fun v hv => (congrFun (h1 24 (by decide)) v).trans (hpt v hv)) hk3 (by omega)
        refine ep_cv t41_37 rfl rfl (Nat.le_of_ble_eq_true rfl) (Nat.le_of_ble_eq_true rfl) (h9) ?_
        refine ep_bF t41_40 (fun (c40 : b9 = false) => ?_) (fun (c40 : b9 = true) => ?_)
        · refine ep_inc (b := nI (k + 1)) (L' := [some (.ref 16), some (.int (nI s)), some (.int (nI (loadM T s))), some (.int (nI (k + 1)))]) t41_71 rfl (nI_add k 1) rfl (Nat.le_of_ble_eq_true rfl) ?_
          refine ep_gt t41_74 ?_
          refine L_hi_16 hA hw hs e5 hpt K d (k + 1) σ' (by omega) h1 (fun c hc => ?_)
          rw [h2 c hc, hM_no (T := T) (s := s) (k := k) (by
            intro z
            first
            | exact c17 z.1
            | exact absurd (c25.symm.trans z.2.1) (by decide)
            | exact absurd (c40.symm.trans (hb9.mpr z.2.2)) (by decide))]
        · have hlt : s ||| 2 ^ k < 2 ^ T 3 := Nat.or_lt_two_pow hs (Nat.pow_lt_pow_right (by decide) hk3)
          have hne := or_ne c25
          have hun := hb9.mp c40
          refine ep_aln t41_43 rfl ?_
          refine ep_getr (q := 23) t41_44 rfl (Nat.le_of_ble_eq_true rfl) rfl (rfl) ?_
          refine ep_iln t41_47 rfl ?_
          refine ep_dup2 t41_48 rfl rfl ?_
          refine ep_aldN t41_49 rfl (Nat.le_of_ble_eq_true rfl) (Nat.ne_of_beq_eq_false rfl) (Nat.le_of_ble_eq_true rfl) (by omega) ?_
          refine ep_val (b := nI (hM T s k s)) (h2 s hs) ?_
          refine ep_k1 (w := nI 1) t41_50 rfl ?_
          refine ep_iln t41_51 rfl ?_
          refine ep_oneN (b := k) t41_52 (by omega) ?_
          refine ep_orN (a := hM T s k s) (b := 2 ^ k) t41_53 ?_
          refine ep_astN t41_54 rfl (Nat.le_of_ble_eq_true rfl) (Nat.le_of_ble_eq_true rfl) (by omega) ?_
          refine ep_aln t41_55 rfl ?_
          refine ep_getr (q := 23) t41_56 rfl (Nat.le_of_ble_eq_true rfl) rfl (rfl) ?_
          refine ep_iln t41_59 rfl ?_
          refine ep_k1 (w := nI 1) t41_60 rfl ?_
          refine ep_iln t41_61 rfl ?_
          refine ep_oneN (b := k) t41_62 (by omega) ?_
          refine ep_orN (a := s) (b := 2 ^ k) t41_63 ?_
          refine ep_dup2 t41_64 rfl rfl ?_
          refine ep_aldN t41_65 rfl (Nat.le_of_ble_eq_true rfl) (Nat.ne_of_beq_eq_false rfl) (Nat.le_of_ble_eq_true rfl) (by omega) ?_
          refine ep_val (b := nI (hM T s k (s ||| 2 ^ k))) ((g_up_j hne).trans (h2 _ hlt)) ?_
          refine ep_k1 (w := nI 1) t41_66 rfl ?_
          refine ep_iln t41_67 rfl ?_
          refine ep_oneN (b := k) t41_68 (by omega) ?_
          refine ep_orN (a := hM T s k (s ||| 2 ^ k)) (b := 2 ^ k) t41_69 ?_
          refine ep_astN t41_70 rfl (Nat.le_of_ble_eq_true rfl) (Nat.le_of_ble_eq_true rfl) (by omega) ?_
          refine ep_inc (b := nI (k + 1)) (L' := [some (.ref 16), some (.int (nI s)), some (.int (nI (loadM T s))), some (.int (nI (k + 1)))]) t41_71 rfl (nI_add k 1) rfl (Nat.le_of_ble_eq_true rfl) ?_
          refine ep_gt t41_74 ?_
          refine L_hi_16 hA hw hs e5 hpt K d (k + 1) _ (by omega) (fun r hr => (g_up_ne hr).trans ((g_up_ne hr).trans (h1 r hr))) (fun c hc => ?_)
          by_cases z1 : c = s ||| 2 ^ k
          · rw [z1, g_up_eq, hM_yes hk3 hkd hun (clr_or c25)]
          · rw [g_up_j z1]
            by_cases z2 : c = s
            · rw [z2, g_up_eq, hM_yes hk3 hkd hun (clr_s c25)]
            · rw [g_up_j z2, h2 c hc, hM_skip (T := T) (fun z => (clr_inv z).elim z2 z1)]
theorem cl_Net_hold_16 {X : gX} {q : Bool} {σ : gT1} {T : Nat → Nat} {s : Nat} (hA : ((∀ j, j < 4 → σ 16 j = nI (T j)) ∧ ∀ k, k < T 3 → σ 17 k = nI (T (4 + k)) ∧ σ 18 k = nI (T (12 + k)) ∧ σ 19 k = nI (T (20 + k)) ∧ σ 20 k = sec T k)) (hw : WF0 T) (hs : s < 2 ^ T 3) (e5 : σ 21 s = nI (liveM T s)) (hpt : ∀ v, v < T 0 → σ 24 v = nI (pm T s (T 3) v)) (h7 : ∀ c, c < 2 ^ T 3 → σ 23 c = nI (hM T s 0 c)) : ClP X 41 [.ref 16, .int (nI s), .int (nI (loadM T s))] (47, g_rho q, σ) (fun v g1 => v = none ∧ ∃ σ1, g1 = (47, g_rho q, σ1) ∧ (∀ r, r ≠ 23 → σ1 r = σ r) ∧ ∀ c, c < 2 ^ T 3 → σ1 23 c = nI (hM T s (T 3) c)) := by
  refine ClP.of ⟨Nat.le_of_ble_eq_true rfl, rfl⟩ ?_
  show EvP X 41 0 [some (.ref 16), some (.int (nI s)), some (.int (nI (loadM T s))), none] [] (47, g_rho q, σ) _
  refine ep_k1 (w := nI 0) t41_0 rfl ?_
  refine ep_isn (L' := [some (.ref 16), some (.int (nI s)), some (.int (nI (loadM T s))), some (.int (nI 0))]) t41_1 rfl (Nat.le_of_ble_eq_true rfl) ?_
  exact L_hi_16 hA hw hs e5 hpt (fun σ1 a1 a2 => ⟨rfl, σ1, rfl, a1, a2⟩) (T 3) 0 σ (by omega) (fun _ _ => rfl) h7

theorem L_fi_16 {X : gX} {q : Bool} {σ : gT1} {P : Option Value → gS → Prop} (K : ∀ σ' : gT1, (∀ r, r ≠ 23 → σ' r = σ r) → (∀ j, j < 256 → σ' 23 j = nI 0) → P none (47, g_rho q, σ')) : ∀ (d j : Nat) (σ' : gT1), j + d = 256 → (∀ r, r ≠ 23 → σ' r = σ r) → (∀ i, i < j → σ' 23 i = nI 0) → EvP X 34 5 [some (.ref 23), some (.int (nI 0)), some (.int (nI j)), some (.int (nI 256))] [] (47, g_rho q, σ') P
  | 0, j, σ', hk, h1, h2 => by
    obtain rfl : j = 256 := by omega
    refine ep_iln t34_5 rfl ?_
    refine ep_iln t34_6 rfl ?_
    refine ep_ifP t34_7 (ic_ge (by omega) (by omega)) (fun (c7 : 256 ≤ 256) => ?_) (fun (c7 : ¬ (256 ≤ 256)) => (by omega))
    refine ep_rv t34_20 ?_
    exact K σ' h1 h2
  | d + 1, j, σ', hk, h1, h2 => by
    refine ep_iln t34_5 rfl ?_
    refine ep_iln t34_6 rfl ?_
    refine ep_ifP t34_7 (ic_ge (by omega) (by omega)) (fun (c7 : 256 ≤ j) => (by omega)) (fun (c7 : ¬ (256 ≤ j)) => ?_)
    refine ep_aln t34_10 rfl ?_
    refine ep_iln t34_11 rfl ?_
    refine ep_iln t34_12 rfl ?_
    refine ep_astN t34_13 rfl (Nat.le_of_ble_eq_true rfl) (Nat.le_of_ble_eq_true rfl) (by omega) ?_
    refine ep_inc (b := nI (j + 1)) (L' := [some (.ref 23), some (.int (nI 0)), some (.int (nI (j + 1))), some (.int (nI 256))]) t34_14 rfl (nI_add j 1) rfl (Nat.le_of_ble_eq_true rfl) ?_
    refine ep_gt t34_17 ?_
    refine L_fi_16 K d (j + 1) _ (by omega) (fun r hr => (g_up_ne hr).trans (h1 r hr)) (fun i hi => ?_)
    by_cases e : i = j
    · subst e; exact g_up_eq
    · rw [g_up_j e]; exact h2 i (by omega)
theorem cl_fill_16 {X : gX} {q : Bool} {σ : gT1} : ClP X 34 [.ref 23, .int (nI 0)] (47, g_rho q, σ) (fun v g1 => v = none ∧ ∃ σ1, g1 = (47, g_rho q, σ1) ∧ (∀ r, r ≠ 23 → σ1 r = σ r) ∧ ∀ j, j < 256 → σ1 23 j = nI 0) := by
  refine ClP.of ⟨Nat.le_of_ble_eq_true rfl, rfl⟩ ?_
  show EvP X 34 0 [some (.ref 23), some (.int (nI 0)), none, none] [] (47, g_rho q, σ) _
  refine ep_k1 (w := nI 0) t34_0 rfl ?_
  refine ep_isn (L' := [some (.ref 23), some (.int (nI 0)), some (.int (nI 0)), none]) t34_1 rfl (Nat.le_of_ble_eq_true rfl) ?_
  refine ep_aln t34_2 rfl ?_
  refine ep_alen t34_3 rfl (Nat.le_of_ble_eq_true rfl) (Nat.ne_of_beq_eq_false rfl) ?_
  refine ep_isn (L' := [some (.ref 23), some (.int (nI 0)), some (.int (nI 0)), some (.int (nI 256))]) t34_4 rfl (Nat.le_of_ble_eq_true rfl) ?_
  exact L_fi_16 (fun σ1 a1 a2 => ⟨rfl, σ1, rfl, a1, a2⟩) 256 0 σ rfl (fun _ _ => rfl) (fun i hi => absurd hi (Nat.not_lt_zero i))

theorem cl_Net_alls_16 {X : gX} {q : Bool} {σ : gT1} {T : Nat → Nat} (e3 : σ 16 3 = nI (T 3)) (h3 : T 3 ≤ 8) : Cl X 35 [.ref 16] (47, g_rho q, σ) (some (.int (nI (2 ^ T 3 - 1)))) (47, g_rho q, σ) := by
  refine Cl.of ⟨Nat.le_of_ble_eq_true rfl, rfl⟩ ?_
  show EvP X 35 0 [some (.ref 16)] [] (47, g_rho q, σ) _
  refine ep_k1 (w := nI 1) t35_0 rfl ?_
  refine ep_aln t35_1 rfl ?_
  refine ep_get t35_2 rfl (Nat.le_of_ble_eq_true rfl) rfl ?_
  refine ep_val (b := nI (T 3)) (e3) ?_
  refine ep_oneN (b := T 3) t35_5 (by have := Nat.two_pow_pos (T 3); omega) ?_
  refine ep_k1 (w := nI 1) t35_6 rfl ?_
  refine ep_subN (a := 2 ^ (T 3)) (b := 1) t35_7 (by have := Nat.two_pow_pos (T 3); omega) ?_
  refine ep_ri t35_8 (fun h => absurd h (by decide)) ?_
  exact ⟨rfl, rfl⟩

theorem L_ms_16 {X : gX} {q : Bool} {σ : gT1} {T : Nat → Nat} {P : Option Value → gS → Prop} (hAf : ∀ σ2 : gT1, (∀ r, r ≠ 21 → r ≠ 22 → r ≠ 23 → r ≠ 24 → σ2 r = σ r) → ((∀ j, j < 4 → σ2 16 j = nI (T j)) ∧ ∀ k, k < T 3 → σ2 17 k = nI (T (4 + k)) ∧ σ2 18 k = nI (T (12 + k)) ∧ σ2 19 k = nI (T (20 + k)) ∧ σ2 20 k = sec T k)) (hw : WF0 T) (hT1 : T 1 < 2147483648) (hT2 : T 2 < 2147483648) (K : ∀ σ' : gT1, (∀ r, r ≠ 21 → r ≠ 22 → r ≠ 23 → r ≠ 24 → σ' r = σ r) → (∀ c, c < 2 ^ T 3 → σ' 21 c = nI (liveM T c) ∧ σ' 22 c = nI (earthM T c)) → (∀ c, c < 2 ^ T 3 → σ' 23 c = nI (hM T (2 ^ T 3) 0 c)) → P none (47, g_rho q, σ')) : ∀ (d s : Nat) (σ' : gT1), s + d = 2 ^ T 3 → (∀ r, r ≠ 21 → r ≠ 22 → r ≠ 23 → r ≠ 24 → σ' r = σ r) → (∀ c, c < s → σ' 21 c = nI (liveM T c) ∧ σ' 22 c = nI (earthM T c)) → (∀ c, c < 2 ^ T 3 → σ' 23 c = nI (hM T (s) 0 c)) → EvP X 42 10 [some (.ref 16), some (.int (nI s))] [] (47, g_rho q, σ') P
  | 0, s, σ', hk, h1, h5, h7 => by
    obtain rfl : s = 2 ^ T 3 := by omega
    have h8 := hw.2.1
    have h6 := hw.1
    have h256 := pow_le_256 h8
    have hp2 := Nat.two_pow_pos (T 3)
    refine ep_iln t42_10 rfl ?_
    refine ep_aln t42_11 rfl ?_
    refine ep_cv t42_12 rfl rfl (Nat.le_of_ble_eq_true rfl) (Nat.le_of_ble_eq_true rfl) (cl_Net_alls_16 (T := T) ((hAf σ' h1).1 3 (by decide)) h8) ?_
    refine ep_ifP t42_15 (ic_gt (by omega) (by omega)) (fun (c15 : (2 ^ T 3 - 1) < (2 ^ T 3)) => ?_) (fun (c15 : ¬ ((2 ^ T 3 - 1) < (2 ^ T 3))) => (by omega))
    refine ep_rv t42_71 ?_
    exact K σ' h1 h5 h7
  | d + 1, s, σ', hk, h1, h5, h7 => by
    have h8 := hw.2.1
    have h6 := hw.1
    have h256 := pow_le_256 h8
    have hp2 := Nat.two_pow_pos (T 3)
    have hs : s < 2 ^ T 3 := by omega
    refine ep_iln t42_10 rfl ?_
    refine ep_aln t42_11 rfl ?_
    refine ep_cv t42_12 rfl rfl (Nat.le_of_ble_eq_true rfl) (Nat.le_of_ble_eq_true rfl) (cl_Net_alls_16 (T := T) ((hAf σ' h1).1 3 (by decide)) h8) ?_
    refine ep_ifP t42_15 (ic_gt (by omega) (by omega)) (fun (c15 : (2 ^ T 3 - 1) < s) => (by omega)) (fun (c15 : ¬ ((2 ^ T 3 - 1) < s)) => ?_)
    refine ep_aln t42_18 rfl ?_
    refine ep_iln t42_19 rfl ?_
    obtain ⟨v1, g1, k1, rfl, σ1, rfl, j1, j2⟩ := cl_Net_formParts_16 (X := X) (q := q) (σ := σ') (T := T) (c := s) (hAf σ' h1) hw (by omega)
    have fr1 : (∀ r, r ≠ 21 → r ≠ 22 → r ≠ 23 → r ≠ 24 → σ1 r = σ r) := fun r a b c d => (j1 r d).trans (h1 r a b c d)
    refine ep_cv t42_20 rfl rfl (Nat.le_of_ble_eq_true rfl) (Nat.le_of_ble_eq_true rfl) (k1) ?_
    refine ep_aln t42_23 rfl ?_
    refine ep_getr (q := 21) t42_24 rfl (Nat.le_of_ble_eq_true rfl) rfl (rfl) ?_
    refine ep_iln t42_27 rfl ?_
    refine ep_aln t42_28 rfl ?_
    refine ep_aln t42_29 rfl ?_
    refine ep_get t42_30 rfl (Nat.le_of_ble_eq_true rfl) rfl ?_
    refine ep_val (b := nI (T 1)) ((hAf σ1 fr1).1 1 (by decide)) ?_
    refine ep_cv t42_33 rfl rfl (Nat.le_of_ble_eq_true rfl) (Nat.le_of_ble_eq_true rfl) (cl_Net_partsWith_16 (T := T) (c := s) (s := T 1) ((hAf σ1 fr1).1 0 (by decide)) hw.1 hT1 j2) ?_
    refine ep_val (b := nI (liveM T s)) (rfl) ?_
    refine ep_astN t42_36 rfl (Nat.le_of_ble_eq_true rfl) (Nat.le_of_ble_eq_true rfl) (by omega) ?_
    obtain ⟨σ2, e2⟩ : ∃ σ2 : gT1, σ2 = g_up σ1 21 s (nI (liveM T s)) := ⟨_, rfl⟩
    rw [← e2]
    have n2 : ∀ r, r ≠ 21 → σ2 r = σ1 r := fun r hr => by rw [e2]; exact g_up_ne hr
    have l2 : ∀ j, σ2 21 j = if j = s then nI (liveM T s) else σ1 21 j := fun j => by rw [e2]; exact g_up_at
    have fr2 : (∀ r, r ≠ 21 → r ≠ 22 → r ≠ 23 → r ≠ 24 → σ2 r = σ r) := fun r a b c d => (n2 r a).trans (fr1 r a b c d)
    have pt2 : ∀ v, v < T 0 → σ2 24 v = nI (pm T s (T 3) v) := fun v hv => (congrFun (n2 24 (by decide)) v).trans (j2 v hv)
    have hen := enJ_lt (T := T) (c := s) (j := T 3) hw.1
    refine ep_aln t42_37 rfl ?_
    refine ep_getr (q := 22) t42_38 rfl (Nat.le_of_ble_eq_true rfl) rfl (rfl) ?_
    refine ep_iln t42_41 rfl ?_
    refine ep_aln t42_42 rfl ?_
    refine ep_aln t42_43 rfl ?_
    refine ep_iln t42_44 rfl ?_
    refine ep_cv t42_45 rfl rfl (Nat.le_of_ble_eq_true rfl) (Nat.le_of_ble_eq_true rfl) (cl_Net_earths_16 (T := T) (c := s) (hAf σ2 fr2) hw (by omega)) ?_
    refine ep_cv t42_48 rfl rfl (Nat.le_of_ble_eq_true rfl) (Nat.le_of_ble_eq_true rfl) (cl_Net_partsWith_16 (T := T) (c := s) (s := enJ T s (T 3)) ((hAf σ2 fr2).1 0 (by decide)) hw.1 (by omega) pt2) ?_
    refine ep_val (b := nI (earthM T s)) (congrArg nI (pw_earth hw)) ?_
    refine ep_astN t42_51 rfl (Nat.le_of_ble_eq_true rfl) (Nat.le_of_ble_eq_true rfl) (by omega) ?_
    obtain ⟨σ3, e3⟩ : ∃ σ3 : gT1, σ3 = g_up σ2 22 s (nI (earthM T s)) := ⟨_, rfl⟩
    rw [← e3]
    have n3 : ∀ r, r ≠ 22 → σ3 r = σ2 r := fun r hr => by rw [e3]; exact g_up_ne hr
    have l3 : ∀ j, σ3 22 j = if j = s then nI (earthM T s) else σ2 22 j := fun j => by rw [e3]; exact g_up_at
    have fr3 : (∀ r, r ≠ 21 → r ≠ 22 → r ≠ 23 → r ≠ 24 → σ3 r = σ r) := fun r a b c d => (n3 r b).trans (fr2 r a b c d)
    have pt3 : ∀ v, v < T 0 → σ3 24 v = nI (pm T s (T 3) v) := fun v hv => (congrFun (n3 24 (by decide)) v).trans (pt2 v hv)
    refine ep_aln t42_52 rfl ?_
    refine ep_iln t42_53 rfl ?_
    refine ep_aln t42_54 rfl ?_
    refine ep_aln t42_55 rfl ?_
    refine ep_get t42_56 rfl (Nat.le_of_ble_eq_true rfl) rfl ?_
    refine ep_val (b := nI (T 2)) ((hAf σ3 fr3).1 2 (by decide)) ?_
    refine ep_cv t42_59 rfl rfl (Nat.le_of_ble_eq_true rfl) (Nat.le_of_ble_eq_true rfl) (cl_Net_partsWith_16 (T := T) (c := s) (s := T 2) ((hAf σ3 fr3).1 0 (by decide)) hw.1 hT2 pt3) ?_
    refine ep_val (b := nI (loadM T s)) (rfl) ?_
    obtain ⟨v4, g4, k4, rfl, σ4, rfl, q1, q2⟩ := cl_Net_hold_16 (X := X) (q := q) (σ := σ3) (T := T) (s := s) (hAf σ3 fr3) hw hs ((congrFun (n3 21 (by decide)) s).trans ((l2 s).trans (if_pos rfl))) pt3 (fun c hc => (congrFun (n3 23 (by decide)) c).trans ((congrFun (n2 23 (by decide)) c).trans ((congrFun (j1 23 (by decide)) c).trans (h7 c hc))))
    refine ep_cv t42_62 rfl rfl (Nat.le_of_ble_eq_true rfl) (Nat.le_of_ble_eq_true rfl) (k4) ?_
    refine ep_inc (b := nI (s + 1)) (L' := [some (.ref 16), some (.int (nI (s + 1)))]) t42_65 rfl (nI_add s 1) rfl (Nat.le_of_ble_eq_true rfl) ?_
    refine ep_gt t42_68 ?_
    refine L_ms_16 hAf hw hT1 hT2 K d (s + 1) σ4 (by omega) (fun r a b c d => (q1 r c).trans (fr3 r a b c d)) (fun c hc => ?_) (fun c hc => (q2 c hc).trans (by rw [hM_next]))
    rw [q1 21 (by decide), q1 22 (by decide), n3 21 (by decide), l2, l3, n2 22 (by decide), j1 21 (by decide), j1 22 (by decide)]
    by_cases e : c = s
    · rw [if_pos e, if_pos e, e]
      exact ⟨rfl, rfl⟩
    · rw [if_neg e, if_neg e]
      exact h5 c (by omega)
theorem cl_Net_measure_16 {X : gX} {q : Bool} {σ : gT1} {T : Nat → Nat} (hA : ((∀ j, j < 4 → σ 16 j = nI (T j)) ∧ ∀ k, k < T 3 → σ 17 k = nI (T (4 + k)) ∧ σ 18 k = nI (T (12 + k)) ∧ σ 19 k = nI (T (20 + k)) ∧ σ 20 k = sec T k)) (hw : WF0 T) (hT1 : T 1 < 2147483648) (hT2 : T 2 < 2147483648) : ClP X 42 [.ref 16] (47, g_rho q, σ) (fun v g1 => v = none ∧ ∃ σ1, g1 = (47, g_rho q, σ1) ∧ (∀ r, r ≠ 21 → r ≠ 22 → r ≠ 23 → r ≠ 24 → σ1 r = σ r) ∧ NetC σ1 16 T) := by
  refine ClP.of ⟨Nat.le_of_ble_eq_true rfl, rfl⟩ ?_
  show EvP X 42 0 [some (.ref 16), none] [] (47, g_rho q, σ) _
  refine ep_aln t42_0 rfl ?_
  refine ep_getr (q := 23) t42_1 rfl (Nat.le_of_ble_eq_true rfl) rfl (rfl) ?_
  refine ep_k1 (w := nI 0) t42_4 rfl ?_
  obtain ⟨v1, g1, k1, rfl, σ1, rfl, j1, j2⟩ := cl_fill_16 (X := X) (q := q) (σ := σ)
  refine ep_cs t42_5 (Nat.ne_of_beq_eq_false rfl) rfl (Nat.le_of_ble_eq_true rfl) (k1) ?_
  refine ep_k1 (w := nI 0) t42_8 rfl ?_
  refine ep_isn (L' := [some (.ref 16), some (.int (nI 0))]) t42_9 rfl (Nat.le_of_ble_eq_true rfl) ?_
  have hAf : ∀ σ2 : gT1, (∀ r, r ≠ 21 → r ≠ 22 → r ≠ 23 → r ≠ 24 → σ2 r = σ r) → ((∀ j, j < 4 → σ2 16 j = nI (T j)) ∧ ∀ k, k < T 3 → σ2 17 k = nI (T (4 + k)) ∧ σ2 18 k = nI (T (12 + k)) ∧ σ2 19 k = nI (T (20 + k)) ∧ σ2 20 k = sec T k) := fun σ2 a => ⟨fun j hj => (congrFun (a 16 (by decide) (by decide) (by decide) (by decide)) j).trans (hA.1 j hj), fun k hk => ⟨(congrFun (a 17 (by decide) (by decide) (by decide) (by decide)) k).trans (hA.2 k hk).1, (congrFun (a 18 (by decide) (by decide) (by decide) (by decide)) k).trans (hA.2 k hk).2.1, (congrFun (a 19 (by decide) (by decide) (by decide) (by decide)) k).trans (hA.2 k hk).2.2.1, (congrFun (a 20 (by decide) (by decide) (by decide) (by decide)) k).trans (hA.2 k hk).2.2.2⟩⟩
  refine L_ms_16 hAf hw hT1 hT2 (fun σ3 a1 a2 a3 => ⟨rfl, σ3, rfl, a1, (hAf σ3 a1).1, (hAf σ3 a1).2, fun c hc => ⟨(a2 c hc).1, (a2 c hc).2, (a3 c hc).trans (by rw [hM_end hc])⟩⟩) (2 ^ T 3) 0 σ1 (Nat.zero_add _) (fun r _ _ c _ => j1 r c) (fun c hc => absurd hc (Nat.not_lt_zero c)) (fun c hc => ?_)
  have h256 := pow_le_256 hw.2.1
  rw [j2 c (by omega), hM_0]

