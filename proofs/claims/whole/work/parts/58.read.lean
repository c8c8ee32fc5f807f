/-! The class reads the whole text. -/
def RP (σ : gT1) (v : Option Value) : Sum Nat (Nat × (Nat → Nat) × Nat × Nat) → Prop
  | .inl f => v = some (.int (-1)) ∧ σ 1 3 = nI f
  | .inr (it, T, c, l) => v = some (.int (nI it)) ∧ it ≤ 120 ∧ DrC σ T c l
section PR
variable {a : Nat → Nat} {n d p items : Nat} {T : Nat → Nat} {c l : Nat}
theorem prs_0 (h : tK a n p = 0) : prs a n (d + 1) p items T c l = .inr (items, T, c, l) := if_pos h
theorem prs_f {f : Nat} (h : ¬ tK a n p = 0) (e : smc a n (itm a n p items T c l) = .inl f) : prs a n (d + 1) p items T c l = .inl f := (if_neg h).trans (by rw [e])
theorem prs_s {p' c' l' : Nat} {T' : Nat → Nat} (h : ¬ tK a n p = 0) (e : smc a n (itm a n p items T c l) = .inr (p', T', c', l')) : prs a n (d + 1) p items T c l = prs a n d p' (items + 1) T' c' l' := (if_neg h).trans (by rw [e])
end PR
theorem nm_0 : nmM T_0 = 0 := mk_zero _ _ (fun i _ h => by obtain ⟨k, h1, -⟩ := h; exact absurd h1 (Nat.not_lt_zero k))
theorem bn_0 (c : Nat) : bnM T_0 c = 0 := mk_zero _ _ (fun i _ h => by obtain ⟨k, h1, -⟩ := h; exact absurd h1 (Nat.not_lt_zero k))
theorem WFD_0 : WFD T_0 0 0 := ⟨⟨⟨by decide, by decide⟩, ⟨by decide, by decide⟩, by decide, fun k hk => absurd hk (Nat.not_lt_zero k), fun i k _ hk => absurd hk (Nat.not_lt_zero k)⟩, by decide, by decide, by rw [nm_0]; decide⟩
theorem L_read {X : gX} {q : Bool} {σ : gT1} {a : Nat → Nat} {n : Nat} (ha : ∀ j, a j < 256) (hn : n ≤ 120) (hx : TxC σ a n) : ∀ (d p items : Nat) (T : Nat → Nat) (c l : Nat) (σ' : gT1), n < p + d → p ≤ n → items ≤ p → WFD T c l → (items = 0 → T 1 = 0 ∧ T 2 = 0 ∧ T 3 = 0) → FrC σ σ' → σ' 1 2 = nI p → DrC σ' T c l → EvP X 32 10 [some (.ref 3), some (.ref 1), some (.int (nI items))] [] (47, g_rho q, σ') (fun v g1 => ∃ σ1, g1 = (47, g_rho q, σ1) ∧ FrC σ σ1 ∧ RP σ1 v (prs a n d p items T c l))
  | 0, p, items, T, c, l, σ', h1, hp, hip, hw, h0, hf, e2, hd => by omega
  | d + 1, p, items, T, c, l, σ', h1, hp, hip, hw, h0, hf, e2, hd => by
    have hk4 := (tk_all (a := a) hp).2.2.2.2
    by_cases hz : tK a n p = 0
    · refine ep_iln t32_10 rfl ?_
      refine ep_k2 (w := nI 120) t32_11 rfl ?_
      refine ep_ifP t32_13 (ic_gt (by omega) (by omega)) (fun (c13 : 120 < items) => (by omega)) (fun (c13 : ¬ (120 < items)) => ?_)
      refine ep_aln t32_16 rfl ?_
      obtain ⟨v9, g9, h9, rfl, σ1, rfl, m1, m2, m3⟩ := cl_Text_advance (X := X) (q := q) (σ := σ') (a := a) (n := n) (p := p) ha hn (hf.tx hx) hp e2
      have f1 : FrC σ σ1 := hf.tr ⟨fun r h1 _ _ _ _ => m1 r h1, m2⟩
      have hd1 : DrC σ1 T c l := hd.fr (m1 3 (by decide)) (m1 4 (by decide)) (m1 5 (by decide)) (m1 6 (by decide))
      refine ep_cv t32_17 rfl rfl (Nat.le_of_ble_eq_true rfl) (Nat.le_of_ble_eq_true rfl) (h9) ?_
      refine ep_aln t32_20 rfl ?_
      refine ep_get t32_21 rfl (Nat.le_of_ble_eq_true rfl) rfl ?_
      refine ep_val (b := nI (tK a n p)) (m3.2.2.1) ?_
      refine ep_if0P t32_24 (ic0_ne (by omega)) (fun (c24 : ¬ (tK a n p) = 0) => (by exact absurd hz c24)) (fun (c24 : ¬ (¬ (tK a n p) = 0)) => ?_)
      refine ep_iln t32_27 rfl ?_
      refine ep_ri t32_28 (fun h => absurd h (by decide)) ?_
      rw [prs_0 hz]
      exact ⟨σ1, rfl, f1, rfl, by omega, hd1⟩
    · have ho := itm_ok (a := a) (items := items) hp hw h0
      cases hi : itm a n p items T c l with
      | inl f =>
        refine ep_iln t32_10 rfl ?_
        refine ep_k2 (w := nI 120) t32_11 rfl ?_
        refine ep_ifP t32_13 (ic_gt (by omega) (by omega)) (fun (c13 : 120 < items) => (by omega)) (fun (c13 : ¬ (120 < items)) => ?_)
        refine ep_aln t32_16 rfl ?_
        obtain ⟨v9, g9, h9, rfl, σ1, rfl, m1, m2, m3⟩ := cl_Text_advance (X := X) (q := q) (σ := σ') (a := a) (n := n) (p := p) ha hn (hf.tx hx) hp e2
        have f1 : FrC σ σ1 := hf.tr ⟨fun r h1 _ _ _ _ => m1 r h1, m2⟩
        have hd1 : DrC σ1 T c l := hd.fr (m1 3 (by decide)) (m1 4 (by decide)) (m1 5 (by decide)) (m1 6 (by decide))
        refine ep_cv t32_17 rfl rfl (Nat.le_of_ble_eq_true rfl) (Nat.le_of_ble_eq_true rfl) (h9) ?_
        refine ep_aln t32_20 rfl ?_
        refine ep_get t32_21 rfl (Nat.le_of_ble_eq_true rfl) rfl ?_
        refine ep_val (b := nI (tK a n p)) (m3.2.2.1) ?_
        refine ep_if0P t32_24 (ic0_ne (by omega)) (fun (c24 : ¬ (tK a n p) = 0) => ?_) (fun (c24 : ¬ (¬ (tK a n p) = 0)) => (by exact absurd (Classical.byContradiction c24) hz))
        refine ep_aln t32_29 rfl ?_
        refine ep_aln t32_30 rfl ?_
        refine ep_iln t32_31 rfl ?_
        obtain ⟨v8, g8, h8, σ2, rfl, f2, r2⟩ := cl_readItem (X := X) (q := q) (σ := σ1) (a := a) (n := n) (p := p) (items := items) (T := T) (c := c) (l := l) ha hn (f1.tx hx) hp m3 (by omega) hw hd1
        rw [hi] at r2
        obtain ⟨rfl, r3⟩ := r2
        refine ep_cv t32_32 rfl rfl (Nat.le_of_ble_eq_true rfl) (Nat.le_of_ble_eq_true rfl) (h8) ?_
        refine ep_bF t32_35 (fun (c35 : false = false) => ?_) (fun (c35 : false = true) => (by exact absurd c35 (by decide)))
        refine ep_k1 (w := (-1)) t32_45 rfl ?_
        refine ep_ri t32_46 (fun h => absurd h (by decide)) ?_
        rw [prs_f hz (by rw [hi]; rfl)]
        exact ⟨σ2, rfl, f1.tr f2, rfl, r3⟩
      | inr r =>
        obtain ⟨p', T', c', l'⟩ := r
        rw [hi] at ho
        have hp' : p' ≤ n := ho.2.2
        have hpp : p + 1 ≤ p' := ho.2.1
        have hk5 := (tk_all (a := a) hp').1
        by_cases hs : tK a n p' = 3
        · refine ep_iln t32_10 rfl ?_
          refine ep_k2 (w := nI 120) t32_11 rfl ?_
          refine ep_ifP t32_13 (ic_gt (by omega) (by omega)) (fun (c13 : 120 < items) => (by omega)) (fun (c13 : ¬ (120 < items)) => ?_)
          refine ep_aln t32_16 rfl ?_
          obtain ⟨v9, g9, h9, rfl, σ1, rfl, m1, m2, m3⟩ := cl_Text_advance (X := X) (q := q) (σ := σ') (a := a) (n := n) (p := p) ha hn (hf.tx hx) hp e2
          have f1 : FrC σ σ1 := hf.tr ⟨fun r h1 _ _ _ _ => m1 r h1, m2⟩
          have hd1 : DrC σ1 T c l := hd.fr (m1 3 (by decide)) (m1 4 (by decide)) (m1 5 (by decide)) (m1 6 (by decide))
          refine ep_cv t32_17 rfl rfl (Nat.le_of_ble_eq_true rfl) (Nat.le_of_ble_eq_true rfl) (h9) ?_
          refine ep_aln t32_20 rfl ?_
          refine ep_get t32_21 rfl (Nat.le_of_ble_eq_true rfl) rfl ?_
          refine ep_val (b := nI (tK a n p)) (m3.2.2.1) ?_
          refine ep_if0P t32_24 (ic0_ne (by omega)) (fun (c24 : ¬ (tK a n p) = 0) => ?_) (fun (c24 : ¬ (¬ (tK a n p) = 0)) => (by exact absurd (Classical.byContradiction c24) hz))
          refine ep_aln t32_29 rfl ?_
          refine ep_aln t32_30 rfl ?_
          refine ep_iln t32_31 rfl ?_
          obtain ⟨v8, g8, h8, σ2, rfl, f2, r2⟩ := cl_readItem (X := X) (q := q) (σ := σ1) (a := a) (n := n) (p := p) (items := items) (T := T) (c := c) (l := l) ha hn (f1.tx hx) hp m3 (by omega) hw hd1
          rw [hi] at r2
          obtain ⟨rfl, r3, r4⟩ := r2
          refine ep_cv t32_32 rfl rfl (Nat.le_of_ble_eq_true rfl) (Nat.le_of_ble_eq_true rfl) (h8) ?_
          refine ep_bF t32_35 (fun (c35 : true = false) => (by exact absurd c35 (by decide))) (fun (c35 : true = true) => ?_)
          refine ep_aln t32_38 rfl ?_
          obtain ⟨v7, g7, h7, σ3, rfl, j1, j2, j3, rfl⟩ := cl_Text_semi (X := X) (q := q) (σ := σ2) (a := a) (n := n) (p := p') ha hn ((f1.tr f2).tx hx) hp' r3
          rw [decide_eq_true hs] at h7
          have f3 : FrC σ σ3 := (f1.tr f2).tr ⟨fun r h1 _ _ _ _ => j1 r h1, j2⟩
          refine ep_cv t32_39 rfl rfl (Nat.le_of_ble_eq_true rfl) (Nat.le_of_ble_eq_true rfl) (h7) ?_
          refine ep_bT t32_42 (fun (c42 : true = true) => ?_) (fun (c42 : true = false) => (by exact absurd c42 (by decide)))
          refine ep_inc (b := nI (items + 1)) (L' := [some (.ref 3), some (.ref 1), some (.int (nI (items + 1)))]) t32_47 rfl (nI_add items 1) rfl (Nat.le_of_ble_eq_true rfl) ?_
          refine ep_gt t32_50 ?_
          rw [prs_s hz (by rw [hi]; exact if_pos hs)]
          exact L_read ha hn hx d (tN a n p') (items + 1) T' c' l' σ3 (by omega) hk5.2.2.1 (by omega) ho.1 (fun z => absurd z (by omega)) f3 j3.1 (r4.fr (j1 3 (by decide)) (j1 4 (by decide)) (j1 5 (by decide)) (j1 6 (by decide)))
        · refine ep_iln t32_10 rfl ?_
          refine ep_k2 (w := nI 120) t32_11 rfl ?_
          refine ep_ifP t32_13 (ic_gt (by omega) (by omega)) (fun (c13 : 120 < items) => (by omega)) (fun (c13 : ¬ (120 < items)) => ?_)
          refine ep_aln t32_16 rfl ?_
          obtain ⟨v9, g9, h9, rfl, σ1, rfl, m1, m2, m3⟩ := cl_Text_advance (X := X) (q := q) (σ := σ') (a := a) (n := n) (p := p) ha hn (hf.tx hx) hp e2
          have f1 : FrC σ σ1 := hf.tr ⟨fun r h1 _ _ _ _ => m1 r h1, m2⟩
          have hd1 : DrC σ1 T c l := hd.fr (m1 3 (by decide)) (m1 4 (by decide)) (m1 5 (by decide)) (m1 6 (by decide))
          refine ep_cv t32_17 rfl rfl (Nat.le_of_ble_eq_true rfl) (Nat.le_of_ble_eq_true rfl) (h9) ?_
          refine ep_aln t32_20 rfl ?_
          refine ep_get t32_21 rfl (Nat.le_of_ble_eq_true rfl) rfl ?_
          refine ep_val (b := nI (tK a n p)) (m3.2.2.1) ?_
          refine ep_if0P t32_24 (ic0_ne (by omega)) (fun (c24 : ¬ (tK a n p) = 0) => ?_) (fun (c24 : ¬ (¬ (tK a n p) = 0)) => (by exact absurd (Classical.byContradiction c24) hz))
          refine ep_aln t32_29 rfl ?_
          refine ep_aln t32_30 rfl ?_
          refine ep_iln t32_31 rfl ?_
          obtain ⟨v8, g8, h8, σ2, rfl, f2, r2⟩ := cl_readItem (X := X) (q := q) (σ := σ1) (a := a) (n := n) (p := p) (items := items) (T := T) (c := c) (l := l) ha hn (f1.tx hx) hp m3 (by omega) hw hd1
          rw [hi] at r2
          obtain ⟨rfl, r3, r4⟩ := r2
          refine ep_cv t32_32 rfl rfl (Nat.le_of_ble_eq_true rfl) (Nat.le_of_ble_eq_true rfl) (h8) ?_
          refine ep_bF t32_35 (fun (c35 : true = false) => (by exact absurd c35 (by decide))) (fun (c35 : true = true) => ?_)
          refine ep_aln t32_38 rfl ?_
          obtain ⟨v7, g7, h7, σ3, rfl, j1, j2, j3, rfl⟩ := cl_Text_semi (X := X) (q := q) (σ := σ2) (a := a) (n := n) (p := p') ha hn ((f1.tr f2).tx hx) hp' r3
          rw [decide_eq_false hs] at h7
          have f3 : FrC σ σ3 := (f1.tr f2).tr ⟨fun r h1 _ _ _ _ => j1 r h1, j2⟩
          refine ep_cv t32_39 rfl rfl (Nat.le_of_ble_eq_true rfl) (Nat.le_of_ble_eq_true rfl) (h7) ?_
          refine ep_bT t32_42 (fun (c42 : false = true) => (by exact absurd c42 (by decide))) (fun (c42 : false = false) => ?_)
          refine ep_k1 (w := (-1)) t32_45 rfl ?_
          refine ep_ri t32_46 (fun h => absurd h (by decide)) ?_
          rw [prs_f hz (by rw [hi]; exact if_neg hs)]
          exact ⟨σ3, rfl, f3, rfl, j3.2.1⟩
theorem cl_forgetAll {X : gX} {q : Bool} {σ : gT1} : Cl X 14 [.ref 3] (47, g_rho q, σ) none (47, g_rho q, g_up (g_up (g_up (g_up (g_up (g_up σ 3 0 (nI 3)) 3 1 (nI 0)) 3 2 (nI 0)) 3 3 (nI 0)) 3 4 (nI 0)) 3 5 (nI 0)) := by
  refine Cl.of ⟨Nat.le_of_ble_eq_true rfl, rfl⟩ ?_
  show EvP X 14 0 [some (.ref 3)] [] (47, g_rho q, σ) _
  refine ep_aln t14_0 rfl ?_
  refine ep_k1 (w := nI 3) t14_1 rfl ?_
  refine ep_put t14_2 rfl (Nat.le_of_ble_eq_true rfl) rfl ?_
  refine ep_aln t14_5 rfl ?_
  refine ep_k1 (w := nI 0) t14_6 rfl ?_
  refine ep_put t14_7 rfl (Nat.le_of_ble_eq_true rfl) rfl ?_
  refine ep_aln t14_10 rfl ?_
  refine ep_k1 (w := nI 0) t14_11 rfl ?_
  refine ep_put t14_12 rfl (Nat.le_of_ble_eq_true rfl) rfl ?_
  refine ep_aln t14_15 rfl ?_
  refine ep_k1 (w := nI 0) t14_16 rfl ?_
  refine ep_put t14_17 rfl (Nat.le_of_ble_eq_true rfl) rfl ?_
  refine ep_aln t14_20 rfl ?_
  refine ep_k1 (w := nI 0) t14_21 rfl ?_
  refine ep_put t14_22 rfl (Nat.le_of_ble_eq_true rfl) rfl ?_
  refine ep_aln t14_25 rfl ?_
  refine ep_k1 (w := nI 0) t14_26 rfl ?_
  refine ep_put t14_27 rfl (Nat.le_of_ble_eq_true rfl) rfl ?_
  refine ep_rv t14_30 ?_
  exact ⟨rfl, rfl⟩

theorem cl_rewind {X : gX} {q : Bool} {σ : gT1} : Cl X 15 [.ref 1] (47, g_rho q, σ) none (47, g_rho q, g_up σ 1 2 (nI 0)) := by
  refine Cl.of ⟨Nat.le_of_ble_eq_true rfl, rfl⟩ ?_
  show EvP X 15 0 [some (.ref 1)] [] (47, g_rho q, σ) _
  refine ep_aln t15_0 rfl ?_
  refine ep_k1 (w := nI 0) t15_1 rfl ?_
  refine ep_put t15_2 rfl (Nat.le_of_ble_eq_true rfl) rfl ?_
  refine ep_rv t15_5 ?_
  exact ⟨rfl, rfl⟩

theorem cl_read {X : gX} {q : Bool} {σ : gT1} {a : Nat → Nat} {n : Nat} (ha : ∀ j, a j < 256) (hn : n ≤ 120) (hx : TxC σ a n) : ClP X 32 [.ref 3, .ref 1] (47, g_rho q, σ) (fun v g1 => ∃ σ1, g1 = (47, g_rho q, σ1) ∧ FrC σ σ1 ∧ RP σ1 v (prs a n (n + 1) 0 0 T_0 0 0)) := by
  refine ClP.of ⟨Nat.le_of_ble_eq_true rfl, rfl⟩ ?_
  show EvP X 32 0 [some (.ref 3), some (.ref 1), none] [] (47, g_rho q, σ) _
  refine ep_aln t32_0 rfl ?_
  refine ep_cv t32_1 rfl rfl (Nat.le_of_ble_eq_true rfl) (Nat.le_of_ble_eq_true rfl) (cl_forgetAll) ?_
  refine ep_aln t32_4 rfl ?_
  refine ep_cv t32_5 rfl rfl (Nat.le_of_ble_eq_true rfl) (Nat.le_of_ble_eq_true rfl) (cl_rewind) ?_
  refine ep_k1 (w := nI 0) t32_8 rfl ?_
  refine ep_isn (L' := [some (.ref 3), some (.ref 1), some (.int (nI 0))]) t32_9 rfl (Nat.le_of_ble_eq_true rfl) ?_
  refine L_read ha hn hx (n + 1) 0 0 T_0 0 0 _ (by omega) (by omega) (by omega) WFD_0 (fun _ => ⟨rfl, rfl, rfl⟩) ⟨fun r h1 h3 h4 h5 h6 => by (repeat rw [g_up_ne (by assumption)]), rfl⟩ rfl ⟨⟨rfl, rfl, rfl, ?_, ?_, ?_⟩, fun k hk => absurd hk (Nat.not_lt_zero k)⟩
  · rw [nm_0]; rfl
  · rw [bn_0]; rfl
  · rw [bn_0]; rfl

