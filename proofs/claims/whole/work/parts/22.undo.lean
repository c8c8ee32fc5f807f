/-! What can be undone, images, locks, prices. -/
theorem pkO {c l a b d : Nat} (hc : c < 256) (hl : l < 256) (ha : a < 16) (hb : b < 16) (hd : d < 16) : (((c ||| l * 2 ^ 8) ||| a * 2 ^ 16) ||| b * 2 ^ 20) ||| d * 2 ^ 24 = c + 256 * l + 65536 * a + 1048576 * b + 16777216 * d := by
  have e1 : c ||| l * 2 ^ 8 = 2 ^ 8 * l + c := by rw [Nat.or_comm, Nat.mul_comm, ← Nat.two_pow_add_eq_or_of_lt (by omega)]
  have e2 : (2 ^ 8 * l + c) ||| a * 2 ^ 16 = 2 ^ 16 * a + (2 ^ 8 * l + c) := by rw [Nat.or_comm, Nat.mul_comm a, ← Nat.two_pow_add_eq_or_of_lt (by omega)]
  have e3 : (2 ^ 16 * a + (2 ^ 8 * l + c)) ||| b * 2 ^ 20 = 2 ^ 20 * b + (2 ^ 16 * a + (2 ^ 8 * l + c)) := by rw [Nat.or_comm, Nat.mul_comm b, ← Nat.two_pow_add_eq_or_of_lt (by omega)]
  have e4 : (2 ^ 20 * b + (2 ^ 16 * a + (2 ^ 8 * l + c))) ||| d * 2 ^ 24 = 2 ^ 24 * d + (2 ^ 20 * b + (2 ^ 16 * a + (2 ^ 8 * l + c))) := by rw [Nat.or_comm, Nat.mul_comm d, ← Nat.two_pow_add_eq_or_of_lt (by omega)]
  rw [e1, e2, e3, e4]
  omega
theorem Snap.lt {T : Nat → Nat} {c l : Nat} {pr : Nat → Nat} (h : Snap T c l pr) (h3 : T 3 ≤ 8) : c < 256 ∧ l < 256 ∧ pr 0 ≤ 9 ∧ pr 1 ≤ 9 ∧ pr 2 ≤ 9 := by
  have h2 : (2 : Nat) ^ T 3 ≤ 2 ^ 8 := Nat.pow_le_pow_right (by decide) h3
  exact ⟨Nat.lt_of_lt_of_le h.1 h2, Nat.lt_of_lt_of_le h.2.1 h2, (h.2.2.2 0 (by decide)).2, (h.2.2.2 1 (by decide)).2, (h.2.2.2 2 (by decide)).2⟩
theorem pkI_lt {c l : Nat} {pr : Nat → Nat} (hc : c < 256) (hl : l < 256) (h0 : pr 0 ≤ 9) (h1 : pr 1 ≤ 9) (h2 : pr 2 ≤ 9) : pkI c l pr < 2147483648 := by
  unfold pkI
  omega
theorem and255 (n : Nat) : n &&& 255 = n % 256 := Nat.and_two_pow_sub_one_eq_mod n 8
theorem and15 (n : Nat) : n &&& 15 = n % 16 := Nat.and_two_pow_sub_one_eq_mod n 4
theorem pkU {c l : Nat} {pr : Nat → Nat} (hc : c < 256) (hl : l < 256) (h0 : pr 0 ≤ 9) (h1 : pr 1 ≤ 9) (h2 : pr 2 ≤ 9) : pkI c l pr &&& 255 = c ∧ pkI c l pr / 2 ^ 8 &&& 255 = l ∧ pkI c l pr / 2 ^ 16 &&& 15 = pr 0 ∧ pkI c l pr / 2 ^ 20 &&& 15 = pr 1 ∧ pkI c l pr / 2 ^ 24 &&& 15 = pr 2 := by
  simp only [and255, and15]
  unfold pkI
  refine ⟨?_, ?_, ?_, ?_, ?_⟩ <;> omega
theorem cl_B_standing {X : gX} {q : Bool} {σ : gT1} {c l : Nat} {pr : Nat → Nat} (e4 : σ 0 4 = nI c) (e5 : σ 0 5 = nI l) (e25 : ∀ i, i < 3 → σ 25 i = nI (pr i)) (hc : c < 256) (hl : l < 256) (h0 : pr 0 ≤ 9) (h1 : pr 1 ≤ 9) (h2 : pr 2 ≤ 9) : Cl X 94 [.ref 0] (47, g_rho q, σ) (some (.int (nI (pkI c l pr)))) (47, g_rho q, σ) := by
  refine Cl.of ⟨Nat.le_of_ble_eq_true rfl, rfl⟩ ?_
  show EvP X 94 0 [some (.ref 0)] [] (47, g_rho q, σ) _
  refine ep_aln t94_0 rfl ?_
  refine ep_get t94_1 rfl (Nat.le_of_ble_eq_true rfl) rfl ?_
  refine ep_val (b := nI c) (e4) ?_
  refine ep_aln t94_4 rfl ?_
  refine ep_get t94_5 rfl (Nat.le_of_ble_eq_true rfl) rfl ?_
  refine ep_val (b := nI l) (e5) ?_
  refine ep_k2 (w := nI 8) t94_8 rfl ?_
  refine ep_shlN (a := l) (b := 8) t94_10 (by omega) (by omega) ?_
  refine ep_orN (a := c) (b := l * 2 ^ 8) t94_11 ?_
  refine ep_aln t94_12 rfl ?_
  refine ep_getr (q := 25) t94_13 rfl (Nat.le_of_ble_eq_true rfl) rfl (rfl) ?_
  refine ep_k1 (w := nI 0) t94_16 rfl ?_
  refine ep_aldN t94_17 rfl (Nat.le_of_ble_eq_true rfl) (Nat.ne_of_beq_eq_false rfl) (Nat.le_of_ble_eq_true rfl) (by omega) ?_
  refine ep_val (b := nI (pr 0)) (e25 0 (by decide)) ?_
  refine ep_k2 (w := nI 16) t94_18 rfl ?_
  refine ep_shlN (a := pr 0) (b := 16) t94_20 (by omega) (by omega) ?_
  refine ep_orN (a := c ||| (l * 2 ^ 8)) (b := (pr 0) * 2 ^ 16) t94_21 ?_
  refine ep_aln t94_22 rfl ?_
  refine ep_getr (q := 25) t94_23 rfl (Nat.le_of_ble_eq_true rfl) rfl (rfl) ?_
  refine ep_k1 (w := nI 1) t94_26 rfl ?_
  refine ep_aldN t94_27 rfl (Nat.le_of_ble_eq_true rfl) (Nat.ne_of_beq_eq_false rfl) (Nat.le_of_ble_eq_true rfl) (by omega) ?_
  refine ep_val (b := nI (pr 1)) (e25 1 (by decide)) ?_
  refine ep_k2 (w := nI 20) t94_28 rfl ?_
  refine ep_shlN (a := pr 1) (b := 20) t94_30 (by omega) (by omega) ?_
  refine ep_orN (a := (c ||| (l * 2 ^ 8)) ||| ((pr 0) * 2 ^ 16)) (b := (pr 1) * 2 ^ 20) t94_31 ?_
  refine ep_aln t94_32 rfl ?_
  refine ep_getr (q := 25) t94_33 rfl (Nat.le_of_ble_eq_true rfl) rfl (rfl) ?_
  refine ep_k1 (w := nI 2) t94_36 rfl ?_
  refine ep_aldN t94_37 rfl (Nat.le_of_ble_eq_true rfl) (Nat.ne_of_beq_eq_false rfl) (Nat.le_of_ble_eq_true rfl) (by omega) ?_
  refine ep_val (b := nI (pr 2)) (e25 2 (by decide)) ?_
  refine ep_k2 (w := nI 24) t94_38 rfl ?_
  refine ep_shlN (a := pr 2) (b := 24) t94_40 (by omega) (by omega) ?_
  refine ep_orN (a := ((c ||| (l * 2 ^ 8)) ||| ((pr 0) * 2 ^ 16)) ||| ((pr 1) * 2 ^ 20)) (b := (pr 2) * 2 ^ 24) t94_41 ?_
  refine ep_ri t94_42 (fun h => absurd h (by decide)) ?_
  exact ⟨by rw [pkO hc hl (by omega) (by omega) (by omega)]; rfl, rfl⟩

theorem cl_B_restore {X : gX} {q : Bool} {σ : gT1} {c l : Nat} {pr : Nat → Nat} (hc : c < 256) (hl : l < 256) (h0 : pr 0 ≤ 9) (h1 : pr 1 ≤ 9) (h2 : pr 2 ≤ 9) : Cl X 110 [.ref 0, .int (nI (pkI c l pr))] (47, g_rho q, σ) none (47, g_rho q, g_up (g_up (g_up (g_up (g_up σ 0 4 (nI c)) 0 5 (nI l)) 25 0 (nI (pr 0))) 25 1 (nI (pr 1))) 25 2 (nI (pr 2))) := by
  refine Cl.of ⟨Nat.le_of_ble_eq_true rfl, rfl⟩ ?_
  show EvP X 110 0 [some (.ref 0), some (.int (nI (pkI c l pr)))] [] (47, g_rho q, σ) _
  refine ep_aln t110_0 rfl ?_
  refine ep_iln t110_1 rfl ?_
  refine ep_k3 (w := nI 255) t110_2 rfl ?_
  refine ep_andN (a := pkI c l pr) (b := 255) t110_5 ?_
  refine ep_val (b := nI c) (by rw [(pkU hc hl h0 h1 h2).1]) ?_
  refine ep_put t110_6 rfl (Nat.le_of_ble_eq_true rfl) rfl ?_
  refine ep_aln t110_9 rfl ?_
  refine ep_iln t110_10 rfl ?_
  refine ep_k2 (w := nI 8) t110_11 rfl ?_
  refine ep_shrN (a := pkI c l pr) (b := 8) t110_13 (by omega) (pkI_lt hc hl h0 h1 h2) ?_
  refine ep_k3 (w := nI 255) t110_14 rfl ?_
  refine ep_andN (a := (pkI c l pr) / 2 ^ 8) (b := 255) t110_17 ?_
  refine ep_val (b := nI l) (by rw [(pkU hc hl h0 h1 h2).2.1]) ?_
  refine ep_put t110_18 rfl (Nat.le_of_ble_eq_true rfl) rfl ?_
  refine ep_aln t110_21 rfl ?_
  refine ep_iln t110_22 rfl ?_
  refine ep_k2 (w := nI 16) t110_23 rfl ?_
  refine ep_shrN (a := pkI c l pr) (b := 16) t110_25 (by omega) (pkI_lt hc hl h0 h1 h2) ?_
  refine ep_k2 (w := nI 15) t110_26 rfl ?_
  refine ep_andN (a := (pkI c l pr) / 2 ^ 16) (b := 15) t110_28 ?_
  refine ep_val (b := nI (pr 0)) (by rw [(pkU hc hl h0 h1 h2).2.2.1]) ?_
  refine ep_iln t110_29 rfl ?_
  refine ep_k2 (w := nI 20) t110_30 rfl ?_
  refine ep_shrN (a := pkI c l pr) (b := 20) t110_32 (by omega) (pkI_lt hc hl h0 h1 h2) ?_
  refine ep_k2 (w := nI 15) t110_33 rfl ?_
  refine ep_andN (a := (pkI c l pr) / 2 ^ 20) (b := 15) t110_35 ?_
  refine ep_val (b := nI (pr 1)) (by rw [(pkU hc hl h0 h1 h2).2.2.2.1]) ?_
  refine ep_iln t110_36 rfl ?_
  refine ep_k2 (w := nI 24) t110_37 rfl ?_
  refine ep_shrN (a := pkI c l pr) (b := 24) t110_39 (by omega) (pkI_lt hc hl h0 h1 h2) ?_
  refine ep_k2 (w := nI 15) t110_40 rfl ?_
  refine ep_andN (a := (pkI c l pr) / 2 ^ 24) (b := 15) t110_42 ?_
  refine ep_val (b := nI (pr 2)) (by rw [(pkU hc hl h0 h1 h2).2.2.2.2]) ?_
  refine ep_cv t110_43 rfl rfl (Nat.le_of_ble_eq_true rfl) (Nat.le_of_ble_eq_true rfl) (cl_B_setPrices _ _ _ (by decide) rfl) ?_
  refine ep_rv t110_46 ?_
  exact ⟨rfl, rfl⟩

theorem L_rem {X : gX} {q : Bool} {σ : gT1} {P : Option Value → gS → Prop} (K : ∀ σ' : gT1, (∀ p, p ≠ 27 → σ' p = σ p) → (∀ j, j < 9 → σ' 27 j = σ 27 (j + 1)) → EvP X 95 37 [some (.ref 0), some (.int (nI 10))] [] (47, g_rho q, σ') P) : ∀ (d k : Nat) (σ' : gT1), k + d = 10 → 1 ≤ k → (∀ p, p ≠ 27 → σ' p = σ p) → (∀ j, j + 1 < k → σ' 27 j = σ 27 (j + 1)) → (∀ j, k ≤ j + 1 → σ' 27 j = σ 27 j) → EvP X 95 11 [some (.ref 0), some (.int (nI k))] [] (47, g_rho q, σ') P
  | 0, k, σ', hk, hk1, h1, h2, h3 => by
    obtain rfl : k = 10 := by omega
    refine ep_iln t95_11 rfl ?_
    refine ep_k2 (w := nI 10) t95_12 rfl ?_
    refine ep_ifP t95_14 (ic_ge (by omega) (by omega)) (fun (c14 : 10 ≤ 10) => ?_) (fun (c14 : ¬ (10 ≤ 10)) => (by exact absurd (Nat.le_refl 10) c14))
    exact K σ' h1 (fun j hj => h2 j (by omega))
  | d + 1, k, σ', hk, hk1, h1, h2, h3 => by
    refine ep_iln t95_11 rfl ?_
    refine ep_k2 (w := nI 10) t95_12 rfl ?_
    refine ep_ifP t95_14 (ic_ge (by omega) (by omega)) (fun (c14 : 10 ≤ k) => (by omega)) (fun (c14 : ¬ (10 ≤ k)) => ?_)
    refine ep_aln t95_17 rfl ?_
    refine ep_getr (q := 27) t95_18 rfl (Nat.le_of_ble_eq_true rfl) rfl (rfl) ?_
    refine ep_iln t95_21 rfl ?_
    refine ep_k1 (w := nI 1) t95_22 rfl ?_
    refine ep_subN (a := k) (b := 1) t95_23 (by omega) ?_
    refine ep_aln t95_24 rfl ?_
    refine ep_getr (q := 27) t95_25 rfl (Nat.le_of_ble_eq_true rfl) rfl (rfl) ?_
    refine ep_iln t95_28 rfl ?_
    refine ep_aldN t95_29 rfl (Nat.le_of_ble_eq_true rfl) (Nat.ne_of_beq_eq_false rfl) (Nat.le_of_ble_eq_true rfl) (by omega) ?_
    refine ep_astN t95_30 rfl (Nat.le_of_ble_eq_true rfl) (Nat.le_of_ble_eq_true rfl) (by omega) ?_
    refine ep_inc (b := nI (k + 1)) (L' := [some (.ref 0), some (.int (nI (k + 1)))]) t95_31 rfl (nI_add k 1) rfl (Nat.le_of_ble_eq_true rfl) ?_
    refine ep_gt t95_34 ?_
    exact L_rem K d (k + 1) _ (by omega) (by omega) (fun p hp => (g_up_ne hp).trans (h1 p hp)) (fun j hj => by
      by_cases e : j = k - 1
      · subst e
        rw [g_up_eq, h3 k (by omega)]
        congr 1
        omega
      · rw [g_up_j e]
        exact h2 j (by omega)) (fun j hj => by
      rw [g_up_j (by omega)]
      exact h3 j (by omega))
theorem cl_B_remember {X : gX} {q : Bool} {σ : gT1} {n c l : Nat} {pr : Nat → Nat} (hn : n ≤ 10) (e10 : σ 0 10 = nI n) (e4 : σ 0 4 = nI c) (e5 : σ 0 5 = nI l) (e25 : ∀ i, i < 3 → σ 25 i = nI (pr i)) (hc : c < 256) (hl : l < 256) (h0 : pr 0 ≤ 9) (h1 : pr 1 ≤ 9) (h2 : pr 2 ≤ 9) : ClP X 95 [.ref 0] (47, g_rho q, σ) (fun v g1 => v = none ∧ ∃ σ1, g1 = (47, g_rho q, σ1) ∧ (∀ p, p ≠ 27 → p ≠ 0 → σ1 p = σ p) ∧ (∀ k, k ≠ 10 → σ1 0 k = σ 0 k) ∧ σ1 0 10 = nI (min n 9 + 1) ∧ (∀ j, j < min n 9 → σ1 27 j = σ 27 (j + (n - min n 9))) ∧ σ1 27 (min n 9) = nI (pkI c l pr)) := by
  refine ClP.of ⟨Nat.le_of_ble_eq_true rfl, rfl⟩ ?_
  show EvP X 95 0 [some (.ref 0), none] [] (47, g_rho q, σ) _
  by_cases h10 : n < 10
  · clear hn
    refine ep_aln t95_0 rfl ?_
    refine ep_get t95_1 rfl (Nat.le_of_ble_eq_true rfl) rfl ?_
    refine ep_val (b := nI n) (e10) ?_
    refine ep_k2 (w := nI 10) t95_4 rfl ?_
    refine ep_ifP t95_6 (ic_lt (by omega) (by omega)) (fun (c6 : n < 10) => ?_) (fun (c6 : ¬ (n < 10)) => (by exact absurd (by omega) c6))
    refine ep_aln t95_43 rfl ?_
    refine ep_getr (q := 27) t95_44 rfl (Nat.le_of_ble_eq_true rfl) rfl (rfl) ?_
    refine ep_aln t95_47 rfl ?_
    refine ep_get t95_48 rfl (Nat.le_of_ble_eq_true rfl) rfl ?_
    refine ep_val (b := nI n) (e10) ?_
    refine ep_aln t95_51 rfl ?_
    refine ep_cv t95_52 rfl rfl (Nat.le_of_ble_eq_true rfl) (Nat.le_of_ble_eq_true rfl) (cl_B_standing (σ := σ) (c := c) (l := l) (pr := pr) e4 e5 e25 hc hl h0 h1 h2) ?_
    refine ep_astN t95_55 rfl (Nat.le_of_ble_eq_true rfl) (Nat.le_of_ble_eq_true rfl) (by omega) ?_
    refine ep_aln t95_56 rfl ?_
    refine ep_dup t95_57 rfl ?_
    refine ep_get t95_58 rfl (Nat.le_of_ble_eq_true rfl) rfl ?_
    refine ep_val (b := nI n) (e10) ?_
    refine ep_k1 (w := nI 1) t95_61 rfl ?_
    refine ep_addN (a := n) (b := 1) t95_62 ?_
    refine ep_put t95_63 rfl (Nat.le_of_ble_eq_true rfl) rfl ?_
    refine ep_rv t95_66 ?_
    have em : min n 9 = n := by omega
    refine ⟨rfl, _, rfl, fun p hp hp0 => ?_, fun k hk => ?_, ?_, fun j hj => ?_, ?_⟩
    · simp only [g_up, if_neg hp, if_neg hp0]
    · show upd (σ 0) 10 _ k = _
      simp only [upd, if_neg hk]
    · rw [em]; rfl
    · rw [em] at hj ⊢
      show upd (σ 27) n _ j = _
      simp only [upd, if_neg (show j ≠ n by omega), Nat.sub_self, Nat.add_zero]
    · rw [em]
      show upd (σ 27) n _ n = _
      simp [upd]
  · obtain rfl : n = 10 := by omega
    refine ep_aln t95_0 rfl ?_
    refine ep_get t95_1 rfl (Nat.le_of_ble_eq_true rfl) rfl ?_
    refine ep_val (b := nI 10) (e10) ?_
    refine ep_k2 (w := nI 10) t95_4 rfl ?_
    refine ep_ifP t95_6 (ic_lt (by omega) (by omega)) (fun (c6 : 10 < 10) => (by exact absurd c6 (by omega))) (fun (c6 : ¬ (10 < 10)) => ?_)
    refine ep_k1 (w := nI 1) t95_9 rfl ?_
    refine ep_isn (L' := [some (.ref 0), some (.int (nI 1))]) t95_10 rfl (Nat.le_of_ble_eq_true rfl) ?_
    refine L_rem (σ := σ) (fun σ1 a1 a2 => ?_) 9 1 σ (by omega) (by omega) (fun _ _ => rfl) (fun j hj => absurd hj (by omega)) (fun _ _ => rfl)
    refine ep_aln t95_37 rfl ?_
    refine ep_k2 (w := nI 9) t95_38 rfl ?_
    refine ep_put t95_40 rfl (Nat.le_of_ble_eq_true rfl) rfl ?_
    refine ep_aln t95_43 rfl ?_
    refine ep_getr (q := 27) t95_44 rfl (Nat.le_of_ble_eq_true rfl) rfl (rfl) ?_
    refine ep_aln t95_47 rfl ?_
    refine ep_get t95_48 rfl (Nat.le_of_ble_eq_true rfl) rfl ?_
    refine ep_val (b := nI 9) (rfl) ?_
    refine ep_aln t95_51 rfl ?_
    refine ep_cv t95_52 rfl rfl (Nat.le_of_ble_eq_true rfl) (Nat.le_of_ble_eq_true rfl) (cl_B_standing (σ := g_up σ1 0 10 (nI 9)) (c := c) (l := l) (pr := pr) ((congrFun (a1 0 (by decide)) 4).trans e4) ((congrFun (a1 0 (by decide)) 5).trans e5) (fun i hi => (congrFun (a1 25 (by decide)) i).trans (e25 i hi)) hc hl h0 h1 h2) ?_
    refine ep_astN t95_55 rfl (Nat.le_of_ble_eq_true rfl) (Nat.le_of_ble_eq_true rfl) (by omega) ?_
    refine ep_aln t95_56 rfl ?_
    refine ep_dup t95_57 rfl ?_
    refine ep_get t95_58 rfl (Nat.le_of_ble_eq_true rfl) rfl ?_
    refine ep_val (b := nI 9) (rfl) ?_
    refine ep_k1 (w := nI 1) t95_61 rfl ?_
    refine ep_addN (a := 9) (b := 1) t95_62 ?_
    refine ep_put t95_63 rfl (Nat.le_of_ble_eq_true rfl) rfl ?_
    refine ep_rv t95_66 ?_
    refine ⟨rfl, _, rfl, fun p hp hp0 => ?_, fun k hk => ?_, rfl, fun j hj => ?_, rfl⟩
    · simp only [g_up, if_neg hp, if_neg hp0]
      exact a1 p hp
    · show upd (upd (σ1 0) 10 _) 10 _ k = _
      simp only [upd, if_neg hk]
      rw [a1 0 (by decide)]
    · have hj9 : j < 9 := hj
      show upd (σ1 27) 9 _ j = _
      simp only [upd, if_neg (show j ≠ 9 by omega)]
      exact a2 j hj9
theorem L_not1 {X : gX} {q : Bool} {σ : gT1} {P : Option Value → gS → Prop} (K : ∀ σ' : gT1, (∀ p, p ≠ 37 → σ' p = σ p) → (∀ j, j < 45 → σ' 37 j = σ 37 (j + 5)) → EvP X 97 37 [some (.ref 31), some (.int (nI 45))] [] (47, g_rho q, σ') P) : ∀ (d k : Nat) (σ' : gT1), k + d = 45 → (∀ p, p ≠ 37 → σ' p = σ p) → (∀ j, j < k → σ' 37 j = σ 37 (j + 5)) → (∀ j, k ≤ j → σ' 37 j = σ 37 j) → EvP X 97 11 [some (.ref 31), some (.int (nI k))] [] (47, g_rho q, σ') P
  | 0, k, σ', hk, h1, h2, h3 => by
    obtain rfl : k = 45 := by omega
    refine ep_iln t97_11 rfl ?_
    refine ep_k2 (w := nI 45) t97_12 rfl ?_
    refine ep_ifP t97_14 (ic_ge (by omega) (by omega)) (fun (c14 : 45 ≤ 45) => ?_) (fun (c14 : ¬ (45 ≤ 45)) => (by exact absurd (Nat.le_refl 45) c14))
    exact K σ' h1 (fun j hj => h2 j (by omega))
  | d + 1, k, σ', hk, h1, h2, h3 => by
    refine ep_iln t97_11 rfl ?_
    refine ep_k2 (w := nI 45) t97_12 rfl ?_
    refine ep_ifP t97_14 (ic_ge (by omega) (by omega)) (fun (c14 : 45 ≤ k) => (by omega)) (fun (c14 : ¬ (45 ≤ k)) => ?_)
    refine ep_aln t97_17 rfl ?_
    refine ep_getr (q := 37) t97_18 rfl (Nat.le_of_ble_eq_true rfl) rfl (rfl) ?_
    refine ep_iln t97_21 rfl ?_
    refine ep_aln t97_22 rfl ?_
    refine ep_getr (q := 37) t97_23 rfl (Nat.le_of_ble_eq_true rfl) rfl (rfl) ?_
    refine ep_iln t97_26 rfl ?_
    refine ep_k1 (w := nI 5) t97_27 rfl ?_
    refine ep_addN (a := k) (b := 5) t97_28 ?_
    refine ep_aldN t97_29 rfl (Nat.le_of_ble_eq_true rfl) (Nat.ne_of_beq_eq_false rfl) (Nat.le_of_ble_eq_true rfl) (by omega) ?_
    refine ep_astN t97_30 rfl (Nat.le_of_ble_eq_true rfl) (Nat.le_of_ble_eq_true rfl) (by omega) ?_
    refine ep_inc (b := nI (k + 1)) (L' := [some (.ref 31), some (.int (nI (k + 1)))]) t97_31 rfl (nI_add k 1) rfl (Nat.le_of_ble_eq_true rfl) ?_
    refine ep_gt t97_34 ?_
    exact L_not1 K d (k + 1) _ (by omega) (fun p hp => (g_up_ne hp).trans (h1 p hp)) (fun j hj => by
      by_cases e : j = k
      · subst e
        rw [g_up_eq, h3 (j + 5) (by omega)]
      · rw [g_up_j e]
        exact h2 j (by omega)) (fun j hj => by
      rw [g_up_j (by omega)]
      exact h3 j (by omega))
theorem L_not2 {X : gX} {q : Bool} {σ : gT1} {n : Nat} {P : Option Value → gS → Prop} (hn : n ≤ 9) (en : σ 31 13 = nI n) (K : ∀ σ' : gT1, (∀ p, p ≠ 37 → σ' p = σ p) → (∀ i, i < 5 → σ' 37 (5 * n + i) = σ 36 i) → (∀ j, j < 5 * n → σ' 37 j = σ 37 j) → EvP X 97 75 [some (.ref 31), some (.int (nI 5))] [] (47, g_rho q, σ') P) : ∀ (d k : Nat) (σ' : gT1), k + d = 5 → (∀ p, p ≠ 37 → σ' p = σ p) → (∀ i, i < k → σ' 37 (5 * n + i) = σ 36 i) → (∀ j, j < 5 * n → σ' 37 j = σ 37 j) → EvP X 97 45 [some (.ref 31), some (.int (nI k))] [] (47, g_rho q, σ') P
  | 0, k, σ', hk, h1, h2, h3 => by
    obtain rfl : k = 5 := by omega
    refine ep_iln t97_45 rfl ?_
    refine ep_k1 (w := nI 5) t97_46 rfl ?_
    refine ep_ifP t97_47 (ic_ge (by omega) (by omega)) (fun (c47 : 5 ≤ 5) => ?_) (fun (c47 : ¬ (5 ≤ 5)) => (by exact absurd (Nat.le_refl 5) c47))
    exact K σ' h1 (fun j hj => h2 j (by omega)) (fun j hj => h3 j (by omega))
  | d + 1, k, σ', hk, h1, h2, h3 => by
    refine ep_iln t97_45 rfl ?_
    refine ep_k1 (w := nI 5) t97_46 rfl ?_
    refine ep_ifP t97_47 (ic_ge (by omega) (by omega)) (fun (c47 : 5 ≤ k) => (by omega)) (fun (c47 : ¬ (5 ≤ k)) => ?_)
    refine ep_aln t97_50 rfl ?_
    refine ep_getr (q := 37) t97_51 rfl (Nat.le_of_ble_eq_true rfl) rfl (rfl) ?_
    refine ep_k1 (w := nI 5) t97_54 rfl ?_
    refine ep_aln t97_55 rfl ?_
    refine ep_get t97_56 rfl (Nat.le_of_ble_eq_true rfl) rfl ?_
    refine ep_val (b := nI n) ((congrFun (h1 31 (by decide)) 13).trans en) ?_
    refine ep_mulN (a := 5) (b := n) t97_59 ?_
    refine ep_iln t97_60 rfl ?_
    refine ep_addN (a := 5 * n) (b := k) t97_61 ?_
    refine ep_aln t97_62 rfl ?_
    refine ep_getr (q := 36) t97_63 rfl (Nat.le_of_ble_eq_true rfl) rfl (rfl) ?_
    refine ep_iln t97_66 rfl ?_
    refine ep_aldN t97_67 rfl (Nat.le_of_ble_eq_true rfl) (Nat.ne_of_beq_eq_false rfl) (Nat.le_of_ble_eq_true rfl) (by omega) ?_
    refine ep_astN t97_68 rfl (Nat.le_of_ble_eq_true rfl) (Nat.le_of_ble_eq_true rfl) (by omega) ?_
    refine ep_inc (b := nI (k + 1)) (L' := [some (.ref 31), some (.int (nI (k + 1)))]) t97_69 rfl (nI_add k 1) rfl (Nat.le_of_ble_eq_true rfl) ?_
    refine ep_gt t97_72 ?_
    exact L_not2 hn en K d (k + 1) _ (by omega) (fun p hp => (g_up_ne hp).trans (h1 p hp)) (fun i hi => by
      by_cases e : i = k
      · subst e
        rw [g_up_eq, h1 36 (by decide)]
      · rw [g_up_j (by omega)]
        exact h2 i (by omega)) (fun j hj => by
      rw [g_up_j (by omega)]
      exact h3 j (by omega))
theorem cl_M_notes {X : gX} {q : Bool} {σ : gT1} {n : Nat} (hn : n ≤ 10) (en : σ 31 13 = nI n) : ClP X 97 [.ref 31] (47, g_rho q, σ) (fun v g1 => v = none ∧ ∃ σ1, g1 = (47, g_rho q, σ1) ∧ (∀ p, p ≠ 37 → p ≠ 31 → σ1 p = σ p) ∧ (∀ k, k ≠ 13 → σ1 31 k = σ 31 k) ∧ σ1 31 13 = nI (min n 9 + 1) ∧ (∀ j i, j < min n 9 → i < 5 → σ1 37 (5 * j + i) = σ 37 (5 * (j + (n - min n 9)) + i)) ∧ ∀ i, i < 5 → σ1 37 (5 * min n 9 + i) = σ 36 i) := by
  refine ClP.of ⟨Nat.le_of_ble_eq_true rfl, rfl⟩ ?_
  show EvP X 97 0 [some (.ref 31), none] [] (47, g_rho q, σ) _
  by_cases h10 : n < 10
  · clear hn
    refine ep_aln t97_0 rfl ?_
    refine ep_get t97_1 rfl (Nat.le_of_ble_eq_true rfl) rfl ?_
    refine ep_val (b := nI n) (en) ?_
    refine ep_k2 (w := nI 10) t97_4 rfl ?_
    refine ep_ifP t97_6 (ic_ne (by omega) (by omega)) (fun (c6 : ¬ n = 10) => ?_) (fun (c6 : ¬ (¬ n = 10)) => (by exact absurd c6 (by omega)))
    refine ep_k1 (w := nI 0) t97_43 rfl ?_
    refine ep_isn (L' := [some (.ref 31), some (.int (nI 0))]) t97_44 rfl (Nat.le_of_ble_eq_true rfl) ?_
    refine L_not2 (σ := σ) (n := n) (by omega) en (fun σ1 a1 a2 a3 => ?_) 5 0 σ (by omega) (fun _ _ => rfl) (fun i hi => absurd hi (Nat.not_lt_zero i)) (fun _ _ => rfl)
    refine ep_aln t97_75 rfl ?_
    refine ep_dup t97_76 rfl ?_
    refine ep_get t97_77 rfl (Nat.le_of_ble_eq_true rfl) rfl ?_
    refine ep_val (b := nI n) ((congrFun (a1 31 (by decide)) 13).trans en) ?_
    refine ep_k1 (w := nI 1) t97_80 rfl ?_
    refine ep_addN (a := n) (b := 1) t97_81 ?_
    refine ep_put t97_82 rfl (Nat.le_of_ble_eq_true rfl) rfl ?_
    refine ep_rv t97_85 ?_
    have em : min n 9 = n := by omega
    refine ⟨rfl, _, rfl, fun p hp hp0 => ?_, fun k hk => ?_, ?_, fun j i hj hi => ?_, fun i hi => ?_⟩
    · simp only [g_up, if_neg hp0]
      exact a1 p hp
    · show upd (σ1 31) 13 _ k = _
      simp only [upd, if_neg hk]
      rw [a1 31 (by decide)]
    · rw [em]; rfl
    · rw [em] at hj ⊢
      rw [Nat.sub_self, Nat.add_zero]
      exact a3 (5 * j + i) (by omega)
    · rw [em]
      exact a2 i hi
  · obtain rfl : n = 10 := by omega
    refine ep_aln t97_0 rfl ?_
    refine ep_get t97_1 rfl (Nat.le_of_ble_eq_true rfl) rfl ?_
    refine ep_val (b := nI 10) (en) ?_
    refine ep_k2 (w := nI 10) t97_4 rfl ?_
    refine ep_ifP t97_6 (ic_ne (by omega) (by omega)) (fun (c6 : ¬ 10 = 10) => (by exact absurd rfl c6)) (fun (c6 : ¬ (¬ 10 = 10)) => ?_)
    refine ep_k1 (w := nI 0) t97_9 rfl ?_
    refine ep_isn (L' := [some (.ref 31), some (.int (nI 0))]) t97_10 rfl (Nat.le_of_ble_eq_true rfl) ?_
    refine L_not1 (σ := σ) (fun σ1 a1 a2 => ?_) 45 0 σ (by omega) (fun _ _ => rfl) (fun j hj => absurd hj (Nat.not_lt_zero j)) (fun _ _ => rfl)
    refine ep_aln t97_37 rfl ?_
    refine ep_k2 (w := nI 9) t97_38 rfl ?_
    refine ep_put t97_40 rfl (Nat.le_of_ble_eq_true rfl) rfl ?_
    refine ep_k1 (w := nI 0) t97_43 rfl ?_
    refine ep_isn (L' := [some (.ref 31), some (.int (nI 0))]) t97_44 rfl (Nat.le_of_ble_eq_true rfl) ?_
    refine L_not2 (σ := g_up σ1 31 13 (nI 9)) (n := 9) (by omega) rfl (fun σ2 b1 b2 b3 => ?_) 5 0 (g_up σ1 31 13 (nI 9)) (by omega) (fun _ _ => rfl) (fun i hi => absurd hi (Nat.not_lt_zero i)) (fun _ _ => rfl)
    refine ep_aln t97_75 rfl ?_
    refine ep_dup t97_76 rfl ?_
    refine ep_get t97_77 rfl (Nat.le_of_ble_eq_true rfl) rfl ?_
    refine ep_val (b := nI 9) (congrFun (b1 31 (by decide)) 13) ?_
    refine ep_k1 (w := nI 1) t97_80 rfl ?_
    refine ep_addN (a := 9) (b := 1) t97_81 ?_
    refine ep_put t97_82 rfl (Nat.le_of_ble_eq_true rfl) rfl ?_
    refine ep_rv t97_85 ?_
    refine ⟨rfl, _, rfl, fun p hp hp0 => ?_, fun k hk => ?_, rfl, fun j i hj hi => ?_, fun i hi => ?_⟩
    · simp only [g_up, if_neg hp0]
      rw [b1 p hp, g_up_ne hp0]
      exact a1 p hp
    · show upd (σ2 31) 13 _ k = _
      simp only [upd, if_neg hk]
      rw [b1 31 (by decide)]
      show upd (σ1 31) 13 _ k = _
      simp only [upd, if_neg hk]
      rw [a1 31 (by decide)]
    · have hj9 : j < 9 := hj
      show σ2 37 (5 * j + i) = σ 37 (5 * (j + 1) + i)
      rw [b3 (5 * j + i) (by omega)]
      show σ1 37 (5 * j + i) = _
      rw [a2 (5 * j + i) (by omega)]
      congr 1
      omega
    · show σ2 37 (5 * 9 + i) = _
      rw [b2 i hi]
      exact congrFun (a1 36 (by decide)) i
theorem und_push {T : Nat → Nat} {σ σ2 : gT1} {n c l : Nat} {pr : Nat → Nat} (hn : n ≤ 10) (h3 : ∀ j, j < n → ∃ c l pr, Snap T c l pr ∧ σ 27 j = nI (pkI c l pr) ∧ ∀ i, i < 5 → σ 37 (5 * j + i) = nI (sw c l pr i)) (hs : Snap T c l pr) (a1 : σ2 0 10 = nI (min n 9 + 1)) (a2 : ∀ j, j < min n 9 → σ2 27 j = σ 27 (j + (n - min n 9))) (a3 : σ2 27 (min n 9) = nI (pkI c l pr)) (b1 : σ2 31 13 = nI (min n 9 + 1)) (b2 : ∀ j i, j < min n 9 → i < 5 → σ2 37 (5 * j + i) = σ 37 (5 * (j + (n - min n 9)) + i)) (b3 : ∀ i, i < 5 → σ2 37 (5 * min n 9 + i) = nI (sw c l pr i)) : R_und T σ2 := by
  refine ⟨min n 9 + 1, by omega, a1, b1, fun j hj => ?_⟩
  by_cases e : j = min n 9
  · subst e
    exact ⟨c, l, pr, hs, a3, b3⟩
  · obtain ⟨c', l', pr', g1, g2, g3⟩ := h3 (j + (n - min n 9)) (by omega)
    exact ⟨c', l', pr', g1, (a2 j (by omega)).trans g2, fun i hi => (b2 j i (by omega) hi).trans (g3 i hi)⟩
