/-! The model: parts, live, earthed, why not. -/
theorem L_pb1_33 {X : gX} {q : Bool} {σ : gT1} {T : Nat → Nat} {c : Nat} {P : Option Value → gS → Prop} (hT : ToldM (σ 33) T) (hw : WF0 T) (hc : c < 2147483648) {o4 o5 o6 o7 : Option Value} (K : ∀ σ' : gT1, (∀ p, p ≠ 43 → σ' p = σ p) → (∀ j, j < T 0 → σ' 43 j = nI j) → EvP X 59 22 [some (.ref 31), some (.ref 33), some (.int (nI c)), some (.int (nI (T 0))), o4, o5, o6, o7] [] (47, g_rho q, σ') P) : ∀ (d k : Nat) (σ' : gT1), k + d = T 0 → (∀ p, p ≠ 43 → σ' p = σ p) → (∀ j, j < k → σ' 43 j = nI j) → EvP X 59 2 [some (.ref 31), some (.ref 33), some (.int (nI c)), some (.int (nI k)), o4, o5, o6, o7] [] (47, g_rho q, σ') P
  | 0, k, σ', hk, h1, h2 => by
    obtain rfl : k = T 0 := by omega
    refine ep_iln t59_2 rfl ?_
    refine ep_aln t59_3 rfl ?_
    refine ep_k1 (w := nI 0) t59_4 rfl ?_
    refine ep_aldN t59_5 rfl (Nat.le_of_ble_eq_true rfl) (Nat.ne_of_beq_eq_false rfl) (Nat.le_of_ble_eq_true rfl) (by have := hw.1; omega) ?_
    refine ep_val (b := nI (T 0)) ((congrFun (h1 33 (by decide)) _).trans (hT.1 0 (by decide))) ?_
    refine ep_ifP t59_6 (ic_ge (by have := hw.1; omega) (by have := hw.1; omega)) (fun (c6 : (T 0) ≤ (T 0)) => ?_) (fun (c6 : ¬ ((T 0) ≤ (T 0))) => (by exact absurd (Nat.le_refl _) c6))
    exact K σ' h1 (fun j hj => h2 j (by omega))
  | d + 1, k, σ', hk, h1, h2 => by
    refine ep_iln t59_2 rfl ?_
    refine ep_aln t59_3 rfl ?_
    refine ep_k1 (w := nI 0) t59_4 rfl ?_
    refine ep_aldN t59_5 rfl (Nat.le_of_ble_eq_true rfl) (Nat.ne_of_beq_eq_false rfl) (Nat.le_of_ble_eq_true rfl) (by have := hw.1; omega) ?_
    refine ep_val (b := nI (T 0)) ((congrFun (h1 33 (by decide)) _).trans (hT.1 0 (by decide))) ?_
    refine ep_ifP t59_6 (ic_ge (by have := hw.1; omega) (by have := hw.1; omega)) (fun (c6 : (T 0) ≤ k) => (by omega)) (fun (c6 : ¬ ((T 0) ≤ k)) => ?_)
    refine ep_aln t59_9 rfl ?_
    refine ep_getr (q := 43) t59_10 rfl (Nat.le_of_ble_eq_true rfl) rfl (rfl) ?_
    refine ep_iln t59_13 rfl ?_
    refine ep_iln t59_14 rfl ?_
    refine ep_astN t59_15 rfl (Nat.le_of_ble_eq_true rfl) (Nat.le_of_ble_eq_true rfl) (by have := hw.1; omega) ?_
    refine ep_inc (b := nI (k + 1)) (L' := [some (.ref 31), some (.ref 33), some (.int (nI c)), some (.int (nI (k + 1))), o4, o5, o6, o7]) t59_16 rfl (nI_add k 1) rfl (Nat.le_of_ble_eq_true rfl) ?_
    refine ep_gt t59_19 ?_
    exact L_pb1_33 hT hw hc K d (k + 1) _ (by omega) (fun p hp => (g_up_ne hp).trans (h1 p hp)) (fun j hj => by
      by_cases e : j = k
      · subst e; exact g_up_eq
      · rw [g_up_j e]; exact h2 j (by omega))
theorem L_pb3_33 {X : gX} {q : Bool} {σ : gT1} {T : Nat → Nat} {c : Nat} {P : Option Value → gS → Prop} (hT : ToldM (σ 33) T) (hw : WF0 T) (hc : c < 2147483648) {r : Nat} {l0 : Nat → Nat} (h0 : r ≤ 6) (K : ∀ (σ' : gT1) (lab : Nat → Nat) (o5 o6 o7 : Option Value), (∀ p, p ≠ 43 → σ' p = σ p) → (∀ u, u < T 0 → σ' 43 u = nI (lab u)) → LInv T c lab → LRnd T c (T 3) l0 lab → EvP X 59 139 [some (.ref 31), some (.ref 33), some (.int (nI c)), some (.int (nI r)), some (.int (nI (T 3))), o5, o6, o7] [] (47, g_rho q, σ') P) : ∀ (d k : Nat) (σ' : gT1) (lab : Nat → Nat) (o5 o6 o7 : Option Value), k + d = T 3 → (∀ p, p ≠ 43 → σ' p = σ p) → (∀ u, u < T 0 → σ' 43 u = nI (lab u)) → LInv T c lab → LRnd T c k l0 lab → EvP X 59 34 [some (.ref 31), some (.ref 33), some (.int (nI c)), some (.int (nI r)), some (.int (nI k)), o5, o6, o7] [] (47, g_rho q, σ') P
  | 0, k, σ', lab, o5, o6, o7, hk, h1, h2, h3, h4 => by
    obtain rfl : k = T 3 := by omega
    refine ep_il t59_34 rfl ?_
    refine ep_aln t59_36 rfl ?_
    refine ep_k1 (w := nI 3) t59_37 rfl ?_
    refine ep_aldN t59_38 rfl (Nat.le_of_ble_eq_true rfl) (Nat.ne_of_beq_eq_false rfl) (Nat.le_of_ble_eq_true rfl) (by have := hw.1; have := hw.2.1; omega) ?_
    refine ep_val (b := nI (T 3)) ((congrFun (h1 33 (by decide)) _).trans (hT.1 3 (by decide))) ?_
    refine ep_ifP t59_39 (ic_ge (by have := hw.1; have := hw.2.1; omega) (by have := hw.1; have := hw.2.1; omega)) (fun (c39 : (T 3) ≤ (T 3)) => ?_) (fun (c39 : ¬ ((T 3) ≤ (T 3))) => (by exact absurd (Nat.le_refl _) c39))
    exact K σ' lab _ _ _ h1 h2 h3 h4
  | d + 1, k, σ', lab, o5, o6, o7, hk, h1, h2, h3, h4 => by
    have hk3 : k < T 3 := by omega
    refine ep_il t59_34 rfl ?_
    refine ep_aln t59_36 rfl ?_
    refine ep_k1 (w := nI 3) t59_37 rfl ?_
    refine ep_aldN t59_38 rfl (Nat.le_of_ble_eq_true rfl) (Nat.ne_of_beq_eq_false rfl) (Nat.le_of_ble_eq_true rfl) (by have := hw.1; have := hw.2.1; have := hw.2.2.2 k hk3; omega) ?_
    refine ep_val (b := nI (T 3)) ((congrFun (h1 33 (by decide)) _).trans (hT.1 3 (by decide))) ?_
    refine ep_ifP t59_39 (ic_ge (by have := hw.1; have := hw.2.1; have := hw.2.2.2 k hk3; omega) (by have := hw.1; have := hw.2.1; have := hw.2.2.2 k hk3; omega)) (fun (c39 : (T 3) ≤ k) => (by omega)) (fun (c39 : ¬ ((T 3) ≤ k)) => ?_)
    refine ep_iln t59_42 rfl ?_
    refine ep_il t59_43 rfl ?_
    refine ep_cs t59_45 (Nat.ne_of_beq_eq_false rfl) rfl (Nat.le_of_ble_eq_true rfl) (cl_M_has (by have := hw.1; have := hw.2.1; have := hw.2.2.2 k hk3; omega) (by have := hw.1; have := hw.2.1; have := hw.2.2.2 k hk3; omega)) ?_
    refine ep_bF t59_48 (fun (c48 : (Nat.testBit c k) = false) => ?_) (fun (c48 : (Nat.testBit c k) = true) => ?_)
    · refine ep_inc (b := nI (k + 1)) (L' := [some (.ref 31), some (.ref 33), some (.int (nI c)), some (.int (nI r)), some (.int (nI (k + 1))), o5, o6, o7]) t59_133 rfl (nI_add k 1) rfl (Nat.le_of_ble_eq_true rfl) ?_
      refine ep_gt t59_136 ?_
      first | exact L_pb3_33 hT hw hc h0 K d (k + 1) _ lab _ _ _ (by omega) h1 h2 h3 (h4.no (fun ha => absurd ha.2.1 (by rw [c48]; decide))) | exact L_pb3_33 hT hw hc h0 K d (k + 1) _ lab _ _ _ (by omega) h1 h2 h3 (h4.no (fun ha => ha.2.2 c58))
    · refine ep_aln t59_51 rfl ?_
      refine ep_k1 (w := nI 4) t59_52 rfl ?_
      refine ep_il t59_53 rfl ?_
      refine ep_addN (a := 4) (b := k) t59_55 ?_
      refine ep_aldN t59_56 rfl (Nat.le_of_ble_eq_true rfl) (Nat.ne_of_beq_eq_false rfl) (Nat.le_of_ble_eq_true rfl) (by have := hw.1; have := hw.2.1; have := hw.2.2.2 k hk3; omega) ?_
      refine ep_val (b := nI (T (4 + k))) ((congrFun (h1 33 (by decide)) _).trans ((hT.2 k hk3).1)) ?_
      refine ep_k1 (w := nI 2) t59_57 rfl ?_
      refine ep_ifP t59_58 (ic_eq (by have := hw.1; have := hw.2.1; have := hw.2.2.2 k hk3; omega) (by have := hw.1; have := hw.2.1; have := hw.2.2.2 k hk3; omega)) (fun (c58 : (T (4 + k)) = 2) => ?_) (fun (c58 : ¬ ((T (4 + k)) = 2)) => ?_)
      · refine ep_inc (b := nI (k + 1)) (L' := [some (.ref 31), some (.ref 33), some (.int (nI c)), some (.int (nI r)), some (.int (nI (k + 1))), o5, o6, o7]) t59_133 rfl (nI_add k 1) rfl (Nat.le_of_ble_eq_true rfl) ?_
        refine ep_gt t59_136 ?_
        first | exact L_pb3_33 hT hw hc h0 K d (k + 1) _ lab _ _ _ (by omega) h1 h2 h3 (h4.no (fun ha => absurd ha.2.1 (by rw [c48]; decide))) | exact L_pb3_33 hT hw hc h0 K d (k + 1) _ lab _ _ _ (by omega) h1 h2 h3 (h4.no (fun ha => ha.2.2 c58))
      · have hf := (hw.2.2.1 k hk3).1
        have hs := (hw.2.2.1 k hk3).2 c58
        have hact : t_act T c k := ⟨hk3, c48, c58⟩
        have hlf : lab (T (20 + k)) ≤ T (20 + k) := (h3 _ hf).1
        have hls : lab (T (28 + k)) ≤ T (28 + k) := (h3 _ hs).1
        refine ep_aln t59_61 rfl ?_
        refine ep_k2 (w := nI 20) t59_62 rfl ?_
        refine ep_il t59_64 rfl ?_
        refine ep_addN (a := 20) (b := k) t59_66 ?_
        refine ep_aldN t59_67 rfl (Nat.le_of_ble_eq_true rfl) (Nat.ne_of_beq_eq_false rfl) (Nat.le_of_ble_eq_true rfl) (by have := hw.1; have := hw.2.1; have := hw.2.2.2 k hk3; omega) ?_
        refine ep_val (b := nI (T (20 + k))) ((congrFun (h1 33 (by decide)) _).trans ((hT.2 k hk3).2.2.1)) ?_
        refine ep_is (L' := [some (.ref 31), some (.ref 33), some (.int (nI c)), some (.int (nI r)), some (.int (nI k)), some (.int (nI (T (20 + k)))), o6, o7]) t59_68 rfl (Nat.le_of_ble_eq_true rfl) ?_
        refine ep_aln t59_70 rfl ?_
        refine ep_k2 (w := nI 28) t59_71 rfl ?_
        refine ep_il t59_73 rfl ?_
        refine ep_addN (a := 28) (b := k) t59_75 ?_
        refine ep_aldN t59_76 rfl (Nat.le_of_ble_eq_true rfl) (Nat.ne_of_beq_eq_false rfl) (Nat.le_of_ble_eq_true rfl) (by have := hw.1; have := hw.2.1; have := hw.2.2.2 k hk3; omega) ?_
        refine ep_val (b := sec T k) ((congrFun (h1 33 (by decide)) _).trans ((hT.2 k hk3).2.2.2)) ?_
        refine ep_val (b := nI (T (28 + k))) (if_neg c58) ?_
        refine ep_is (L' := [some (.ref 31), some (.ref 33), some (.int (nI c)), some (.int (nI r)), some (.int (nI k)), some (.int (nI (T (20 + k)))), some (.int (nI (T (28 + k)))), o7]) t59_77 rfl (Nat.le_of_ble_eq_true rfl) ?_
        refine ep_aln t59_79 rfl ?_
        refine ep_getr (q := 43) t59_80 rfl (Nat.le_of_ble_eq_true rfl) rfl (rfl) ?_
        refine ep_il t59_83 rfl ?_
        refine ep_aldN t59_85 rfl (Nat.le_of_ble_eq_true rfl) (Nat.ne_of_beq_eq_false rfl) (Nat.le_of_ble_eq_true rfl) (by have := hw.1; omega) ?_
        refine ep_val (b := nI (lab (T (20 + k)))) (h2 _ hf) ?_
        refine ep_aln t59_86 rfl ?_
        refine ep_getr (q := 43) t59_87 rfl (Nat.le_of_ble_eq_true rfl) rfl (rfl) ?_
        refine ep_il t59_90 rfl ?_
        refine ep_aldN t59_92 rfl (Nat.le_of_ble_eq_true rfl) (Nat.ne_of_beq_eq_false rfl) (Nat.le_of_ble_eq_true rfl) (by have := hw.1; omega) ?_
        refine ep_val (b := nI (lab (T (28 + k)))) (h2 _ hs) ?_
        refine ep_ifP t59_93 (ic_ge (by have := hw.1; have := hw.2.1; have := hw.2.2.2 k hk3; omega) (by have := hw.1; have := hw.2.1; have := hw.2.2.2 k hk3; omega)) (fun (c93 : (lab (T (28 + k))) ≤ (lab (T (20 + k)))) => ?_) (fun (c93 : ¬ ((lab (T (28 + k))) ≤ (lab (T (20 + k))))) => ?_)
        · refine ep_aln t59_106 rfl ?_
          refine ep_getr (q := 43) t59_107 rfl (Nat.le_of_ble_eq_true rfl) rfl (rfl) ?_
          refine ep_il t59_110 rfl ?_
          refine ep_aldN t59_112 rfl (Nat.le_of_ble_eq_true rfl) (Nat.ne_of_beq_eq_false rfl) (Nat.le_of_ble_eq_true rfl) (by have := hw.1; omega) ?_
          refine ep_val (b := nI (lab (T (28 + k)))) (h2 _ hs) ?_
          refine ep_is (L' := [some (.ref 31), some (.ref 33), some (.int (nI c)), some (.int (nI r)), some (.int (nI k)), some (.int (nI (T (20 + k)))), some (.int (nI (T (28 + k)))), some (.int (nI (lab (T (28 + k)))))]) t59_113 rfl (Nat.le_of_ble_eq_true rfl) ?_
          refine ep_aln t59_115 rfl ?_
          refine ep_getr (q := 43) t59_116 rfl (Nat.le_of_ble_eq_true rfl) rfl (rfl) ?_
          refine ep_il t59_119 rfl ?_
          refine ep_il t59_121 rfl ?_
          refine ep_astN t59_123 rfl (Nat.le_of_ble_eq_true rfl) (Nat.le_of_ble_eq_true rfl) (by have := hw.1; omega) ?_
          refine ep_aln t59_124 rfl ?_
          refine ep_getr (q := 43) t59_125 rfl (Nat.le_of_ble_eq_true rfl) rfl (rfl) ?_
          refine ep_il t59_128 rfl ?_
          refine ep_il t59_130 rfl ?_
          refine ep_astN t59_132 rfl (Nat.le_of_ble_eq_true rfl) (Nat.le_of_ble_eq_true rfl) (by have := hw.1; omega) ?_
          refine ep_inc (b := nI (k + 1)) (L' := [some (.ref 31), some (.ref 33), some (.int (nI c)), some (.int (nI r)), some (.int (nI (k + 1))), some (.int (nI (T (20 + k)))), some (.int (nI (T (28 + k)))), some (.int (nI (lab (T (28 + k)))))]) t59_133 rfl (nI_add k 1) rfl (Nat.le_of_ble_eq_true rfl) ?_
          refine ep_gt t59_136 ?_
          exact L_pb3_33 hT hw hc h0 K d (k + 1) _ (lstep lab (T (20 + k)) (T (28 + k))) _ _ _ (by omega) (fun p hp => (g_up_ne hp).trans ((g_up_ne hp).trans (h1 p hp))) (fun w hw2 => by
            unfold lstep
            by_cases e : w = T (28 + k)
            · rw [if_pos e, e, g_up_eq, Nat.min_eq_right c93]
            · rw [if_neg e, g_up_j e]
              by_cases e2 : w = T (20 + k)
              · rw [if_pos e2, e2, g_up_eq, Nat.min_eq_right c93]
              · rw [if_neg e2, g_up_j e2]; exact h2 w hw2) (h3.step hw hact) h4.yes
        · refine ep_aln t59_96 rfl ?_
          refine ep_getr (q := 43) t59_97 rfl (Nat.le_of_ble_eq_true rfl) rfl (rfl) ?_
          refine ep_il t59_100 rfl ?_
          refine ep_aldN t59_102 rfl (Nat.le_of_ble_eq_true rfl) (Nat.ne_of_beq_eq_false rfl) (Nat.le_of_ble_eq_true rfl) (by have := hw.1; omega) ?_
          refine ep_val (b := nI (lab (T (20 + k)))) (h2 _ hf) ?_
          refine ep_gt t59_103 ?_
          refine ep_is (L' := [some (.ref 31), some (.ref 33), some (.int (nI c)), some (.int (nI r)), some (.int (nI k)), some (.int (nI (T (20 + k)))), some (.int (nI (T (28 + k)))), some (.int (nI (lab (T (20 + k)))))]) t59_113 rfl (Nat.le_of_ble_eq_true rfl) ?_
          refine ep_aln t59_115 rfl ?_
          refine ep_getr (q := 43) t59_116 rfl (Nat.le_of_ble_eq_true rfl) rfl (rfl) ?_
          refine ep_il t59_119 rfl ?_
          refine ep_il t59_121 rfl ?_
          refine ep_astN t59_123 rfl (Nat.le_of_ble_eq_true rfl) (Nat.le_of_ble_eq_true rfl) (by have := hw.1; omega) ?_
          refine ep_aln t59_124 rfl ?_
          refine ep_getr (q := 43) t59_125 rfl (Nat.le_of_ble_eq_true rfl) rfl (rfl) ?_
          refine ep_il t59_128 rfl ?_
          refine ep_il t59_130 rfl ?_
          refine ep_astN t59_132 rfl (Nat.le_of_ble_eq_true rfl) (Nat.le_of_ble_eq_true rfl) (by have := hw.1; omega) ?_
          refine ep_inc (b := nI (k + 1)) (L' := [some (.ref 31), some (.ref 33), some (.int (nI c)), some (.int (nI r)), some (.int (nI (k + 1))), some (.int (nI (T (20 + k)))), some (.int (nI (T (28 + k)))), some (.int (nI (lab (T (20 + k)))))]) t59_133 rfl (nI_add k 1) rfl (Nat.le_of_ble_eq_true rfl) ?_
          refine ep_gt t59_136 ?_
          exact L_pb3_33 hT hw hc h0 K d (k + 1) _ (lstep lab (T (20 + k)) (T (28 + k))) _ _ _ (by omega) (fun p hp => (g_up_ne hp).trans ((g_up_ne hp).trans (h1 p hp))) (fun w hw2 => by
            unfold lstep
            by_cases e : w = T (28 + k)
            · rw [if_pos e, e, g_up_eq, Nat.min_eq_left (by omega)]
            · rw [if_neg e, g_up_j e]
              by_cases e2 : w = T (20 + k)
              · rw [if_pos e2, e2, g_up_eq, Nat.min_eq_left (by omega)]
              · rw [if_neg e2, g_up_j e2]; exact h2 w hw2) (h3.step hw hact) h4.yes
theorem L_pb2_33 {X : gX} {q : Bool} {σ : gT1} {T : Nat → Nat} {c : Nat} {P : Option Value → gS → Prop} (hT : ToldM (σ 33) T) (hw : WF0 T) (hc : c < 2147483648) (K : ∀ (σ' : gT1) (lab : Nat → Nat) (o4 o5 o6 o7 : Option Value), (∀ p, p ≠ 43 → σ' p = σ p) → (∀ u, u < T 0 → σ' 43 u = nI (lab u)) → POK T c lab → EvP X 59 145 [some (.ref 31), some (.ref 33), some (.int (nI c)), some (.int (nI (T 0))), o4, o5, o6, o7] [] (47, g_rho q, σ') P) : ∀ (d r : Nat) (σ' : gT1) (lab : Nat → Nat) (o4 o5 o6 o7 : Option Value), r + d = T 0 → (∀ p, p ≠ 43 → σ' p = σ p) → (∀ u, u < T 0 → σ' 43 u = nI (lab u)) → LInv T c lab → LCv T c r lab → EvP X 59 24 [some (.ref 31), some (.ref 33), some (.int (nI c)), some (.int (nI r)), o4, o5, o6, o7] [] (47, g_rho q, σ') P
  | 0, r, σ', lab, o4, o5, o6, o7, hk, h1, h2, h3, h4 => by
    obtain rfl : r = T 0 := by omega
    refine ep_iln t59_24 rfl ?_
    refine ep_aln t59_25 rfl ?_
    refine ep_k1 (w := nI 0) t59_26 rfl ?_
    refine ep_aldN t59_27 rfl (Nat.le_of_ble_eq_true rfl) (Nat.ne_of_beq_eq_false rfl) (Nat.le_of_ble_eq_true rfl) (by have := hw.1; have := hw.2.1; omega) ?_
    refine ep_val (b := nI (T 0)) ((congrFun (h1 33 (by decide)) _).trans (hT.1 0 (by decide))) ?_
    refine ep_ifP t59_28 (ic_ge (by have := hw.1; have := hw.2.1; omega) (by have := hw.1; have := hw.2.1; omega)) (fun (c28 : (T 0) ≤ (T 0)) => ?_) (fun (c28 : ¬ ((T 0) ≤ (T 0))) => (by exact absurd (Nat.le_refl _) c28))
    exact K σ' lab _ _ _ _ h1 h2 (LCv.ok h3 h4)
  | d + 1, r, σ', lab, o4, o5, o6, o7, hk, h1, h2, h3, h4 => by
    refine ep_iln t59_24 rfl ?_
    refine ep_aln t59_25 rfl ?_
    refine ep_k1 (w := nI 0) t59_26 rfl ?_
    refine ep_aldN t59_27 rfl (Nat.le_of_ble_eq_true rfl) (Nat.ne_of_beq_eq_false rfl) (Nat.le_of_ble_eq_true rfl) (by have := hw.1; have := hw.2.1; omega) ?_
    refine ep_val (b := nI (T 0)) ((congrFun (h1 33 (by decide)) _).trans (hT.1 0 (by decide))) ?_
    refine ep_ifP t59_28 (ic_ge (by have := hw.1; have := hw.2.1; omega) (by have := hw.1; have := hw.2.1; omega)) (fun (c28 : (T 0) ≤ r) => (by omega)) (fun (c28 : ¬ ((T 0) ≤ r)) => ?_)
    refine ep_k1 (w := nI 0) t59_31 rfl ?_
    refine ep_is (L' := [some (.ref 31), some (.ref 33), some (.int (nI c)), some (.int (nI r)), some (.int (nI 0)), o5, o6, o7]) t59_32 rfl (Nat.le_of_ble_eq_true rfl) ?_
    refine L_pb3_33 (l0 := lab) (r := r) hT hw hc (by have := hw.1; omega) (fun σ2 lab2 o5 o6 o7 g1 g2 g3 g4 => ?_) (T 3) 0 σ' lab o5 o6 o7 (by omega) h1 h2 h3 LRnd.z
    refine ep_inc (b := nI (r + 1)) (L' := [some (.ref 31), some (.ref 33), some (.int (nI c)), some (.int (nI (r + 1))), some (.int (nI (T 3))), o5, o6, o7]) t59_139 rfl (nI_add r 1) rfl (Nat.le_of_ble_eq_true rfl) ?_
    refine ep_gt t59_142 ?_
    exact L_pb2_33 hT hw hc K d (r + 1) σ2 lab2 _ _ _ _ (by omega) g1 g2 g3 (LCv.step hw h3 g3 g4 h4)
theorem cl_M_partsBy_33 {X : gX} {q : Bool} {σ : gT1} {T : Nat → Nat} {c : Nat} (hT : ToldM (σ 33) T) (hw : WF0 T) (hc : c < 2147483648) : ClP X 59 [.ref 31, .ref 33, .int (nI c)] (47, g_rho q, σ) (fun v g1 => v = none ∧ ∃ σ1 lab, g1 = (47, g_rho q, σ1) ∧ (∀ p, p ≠ 43 → σ1 p = σ p) ∧ (∀ u, u < T 0 → σ1 43 u = nI (lab u)) ∧ POK T c lab) := by
  refine ClP.of ⟨Nat.le_of_ble_eq_true rfl, rfl⟩ ?_
  show EvP X 59 0 [some (.ref 31), some (.ref 33), some (.int (nI c)), none, none, none, none, none] [] (47, g_rho q, σ) _
  refine ep_k1 (w := nI 0) t59_0 rfl ?_
  refine ep_isn (L' := [some (.ref 31), some (.ref 33), some (.int (nI c)), some (.int (nI 0)), none, none, none, none]) t59_1 rfl (Nat.le_of_ble_eq_true rfl) ?_
  refine L_pb1_33 hT hw hc (fun σ1 a1 a2 => ?_) (T 0) 0 σ (by omega) (fun _ _ => rfl) (fun j hj => absurd hj (Nat.not_lt_zero j))
  refine ep_k1 (w := nI 0) t59_22 rfl ?_
  refine ep_isn (L' := [some (.ref 31), some (.ref 33), some (.int (nI c)), some (.int (nI 0)), none, none, none, none]) t59_23 rfl (Nat.le_of_ble_eq_true rfl) ?_
  refine L_pb2_33 hT hw hc (fun σ2 lab o4 o5 o6 o7 b1 b2 b3 => ?_) (T 0) 0 σ1 (fun u => u) _ _ _ _ (by omega) a1 a2 (fun u hu => ⟨Nat.le_refl _, Cn.rf⟩) LCv.z
  exact ep_rv t59_145 ⟨rfl, σ2, lab, rfl, b1, b2, b3⟩

theorem L_pb1_34 {X : gX} {q : Bool} {σ : gT1} {T : Nat → Nat} {c : Nat} {P : Option Value → gS → Prop} (hT : ToldM (σ 34) T) (hw : WF0 T) (hc : c < 2147483648) {o4 o5 o6 o7 : Option Value} (K : ∀ σ' : gT1, (∀ p, p ≠ 43 → σ' p = σ p) → (∀ j, j < T 0 → σ' 43 j = nI j) → EvP X 59 22 [some (.ref 31), some (.ref 34), some (.int (nI c)), some (.int (nI (T 0))), o4, o5, o6, o7] [] (47, g_rho q, σ') P) : ∀ (d k : Nat) (σ' : gT1), k + d = T 0 → (∀ p, p ≠ 43 → σ' p = σ p) → (∀ j, j < k → σ' 43 j = nI j) → EvP X 59 2 [some (.ref 31), some (.ref 34), some (.int (nI c)), some (.int (nI k)), o4, o5, o6, o7] [] (47, g_rho q, σ') P
  | 0, k, σ', hk, h1, h2 => by
    obtain rfl : k = T 0 := by omega
    refine ep_iln t59_2 rfl ?_
    refine ep_aln t59_3 rfl ?_
    refine ep_k1 (w := nI 0) t59_4 rfl ?_
    refine ep_aldN t59_5 rfl (Nat.le_of_ble_eq_true rfl) (Nat.ne_of_beq_eq_false rfl) (Nat.le_of_ble_eq_true rfl) (by have := hw.1; omega) ?_
    refine ep_val (b := nI (T 0)) ((congrFun (h1 34 (by decide)) _).trans (hT.1 0 (by decide))) ?_
    refine ep_ifP t59_6 (ic_ge (by have := hw.1; omega) (by have := hw.1; omega)) (fun (c6 : (T 0) ≤ (T 0)) => ?_) (fun (c6 : ¬ ((T 0) ≤ (T 0))) => (by exact absurd (Nat.le_refl _) c6))
    exact K σ' h1 (fun j hj => h2 j (by omega))
  | d + 1, k, σ', hk, h1, h2 => by
    refine ep_iln t59_2 rfl ?_
    refine ep_aln t59_3 rfl ?_
    refine ep_k1 (w := nI 0) t59_4 rfl ?_
    refine ep_aldN t59_5 rfl (Nat.le_of_ble_eq_true rfl) (Nat.ne_of_beq_eq_false rfl) (Nat.le_of_ble_eq_true rfl) (by have := hw.1; omega) ?_
    refine ep_val (b := nI (T 0)) ((congrFun (h1 34 (by decide)) _).trans (hT.1 0 (by decide))) ?_
    refine ep_ifP t59_6 (ic_ge (by have := hw.1; omega) (by have := hw.1; omega)) (fun (c6 : (T 0) ≤ k) => (by omega)) (fun (c6 : ¬ ((T 0) ≤ k)) => ?_)
    refine ep_aln t59_9 rfl ?_
    refine ep_getr (q := 43) t59_10 rfl (Nat.le_of_ble_eq_true rfl) rfl (rfl) ?_
    refine ep_iln t59_13 rfl ?_
    refine ep_iln t59_14 rfl ?_
    refine ep_astN t59_15 rfl (Nat.le_of_ble_eq_true rfl) (Nat.le_of_ble_eq_true rfl) (by have := hw.1; omega) ?_
    refine ep_inc (b := nI (k + 1)) (L' := [some (.ref 31), some (.ref 34), some (.int (nI c)), some (.int (nI (k + 1))), o4, o5, o6, o7]) t59_16 rfl (nI_add k 1) rfl (Nat.le_of_ble_eq_true rfl) ?_
    refine ep_gt t59_19 ?_
    exact L_pb1_34 hT hw hc K d (k + 1) _ (by omega) (fun p hp => (g_up_ne hp).trans (h1 p hp)) (fun j hj => by
      by_cases e : j = k
      · subst e; exact g_up_eq
      · rw [g_up_j e]; exact h2 j (by omega))
theorem L_pb3_34 {X : gX} {q : Bool} {σ : gT1} {T : Nat → Nat} {c : Nat} {P : Option Value → gS → Prop} (hT : ToldM (σ 34) T) (hw : WF0 T) (hc : c < 2147483648) {r : Nat} {l0 : Nat → Nat} (h0 : r ≤ 6) (K : ∀ (σ' : gT1) (lab : Nat → Nat) (o5 o6 o7 : Option Value), (∀ p, p ≠ 43 → σ' p = σ p) → (∀ u, u < T 0 → σ' 43 u = nI (lab u)) → LInv T c lab → LRnd T c (T 3) l0 lab → EvP X 59 139 [some (.ref 31), some (.ref 34), some (.int (nI c)), some (.int (nI r)), some (.int (nI (T 3))), o5, o6, o7] [] (47, g_rho q, σ') P) : ∀ (d k : Nat) (σ' : gT1) (lab : Nat → Nat) (o5 o6 o7 : Option Value), k + d = T 3 → (∀ p, p ≠ 43 → σ' p = σ p) → (∀ u, u < T 0 → σ' 43 u = nI (lab u)) → LInv T c lab → LRnd T c k l0 lab → EvP X 59 34 [some (.ref 31), some (.ref 34), some (.int (nI c)), some (.int (nI r)), some (.int (nI k)), o5, o6, o7] [] (47, g_rho q, σ') P
  | 0, k, σ', lab, o5, o6, o7, hk, h1, h2, h3, h4 => by
    obtain rfl : k = T 3 := by omega
    refine ep_il t59_34 rfl ?_
    refine ep_aln t59_36 rfl ?_
    refine ep_k1 (w := nI 3) t59_37 rfl ?_
    refine ep_aldN t59_38 rfl (Nat.le_of_ble_eq_true rfl) (Nat.ne_of_beq_eq_false rfl) (Nat.le_of_ble_eq_true rfl) (by have := hw.1; have := hw.2.1; omega) ?_
    refine ep_val (b := nI (T 3)) ((congrFun (h1 34 (by decide)) _).trans (hT.1 3 (by decide))) ?_
    refine ep_ifP t59_39 (ic_ge (by have := hw.1; have := hw.2.1; omega) (by have := hw.1; have := hw.2.1; omega)) (fun (c39 : (T 3) ≤ (T 3)) => ?_) (fun (c39 : ¬ ((T 3) ≤ (T 3))) => (by exact absurd (Nat.le_refl _) c39))
    exact K σ' lab _ _ _ h1 h2 h3 h4
  | d + 1, k, σ', lab, o5, o6, o7, hk, h1, h2, h3, h4 => by
    have hk3 : k < T 3 := by omega
    refine ep_il t59_34 rfl ?_
    refine ep_aln t59_36 rfl ?_
    refine ep_k1 (w := nI 3) t59_37 rfl ?_
    refine ep_aldN t59_38 rfl (Nat.le_of_ble_eq_true rfl) (Nat.ne_of_beq_eq_false rfl) (Nat.le_of_ble_eq_true rfl) (by have := hw.1; have := hw.2.1; have := hw.2.2.2 k hk3; omega) ?_
    refine ep_val (b := nI (T 3)) ((congrFun (h1 34 (by decide)) _).trans (hT.1 3 (by decide))) ?_
    refine ep_ifP t59_39 (ic_ge (by have := hw.1; have := hw.2.1; have := hw.2.2.2 k hk3; omega) (by have := hw.1; have := hw.2.1; have := hw.2.2.2 k hk3; omega)) (fun (c39 : (T 3) ≤ k) => (by omega)) (fun (c39 : ¬ ((T 3) ≤ k)) => ?_)
    refine ep_iln t59_42 rfl ?_
    refine ep_il t59_43 rfl ?_
    refine ep_cs t59_45 (Nat.ne_of_beq_eq_false rfl) rfl (Nat.le_of_ble_eq_true rfl) (cl_M_has (by have := hw.1; have := hw.2.1; have := hw.2.2.2 k hk3; omega) (by have := hw.1; have := hw.2.1; have := hw.2.2.2 k hk3; omega)) ?_
    refine ep_bF t59_48 (fun (c48 : (Nat.testBit c k) = false) => ?_) (fun (c48 : (Nat.testBit c k) = true) => ?_)
    · refine ep_inc (b := nI (k + 1)) (L' := [some (.ref 31), some (.ref 34), some (.int (nI c)), some (.int (nI r)), some (.int (nI (k + 1))), o5, o6, o7]) t59_133 rfl (nI_add k 1) rfl (Nat.le_of_ble_eq_true rfl) ?_
      refine ep_gt t59_136 ?_
      first | exact L_pb3_34 hT hw hc h0 K d (k + 1) _ lab _ _ _ (by omega) h1 h2 h3 (h4.no (fun ha => absurd ha.2.1 (by rw [c48]; decide))) | exact L_pb3_34 hT hw hc h0 K d (k + 1) _ lab _ _ _ (by omega) h1 h2 h3 (h4.no (fun ha => ha.2.2 c58))
    · refine ep_aln t59_51 rfl ?_
      refine ep_k1 (w := nI 4) t59_52 rfl ?_
      refine ep_il t59_53 rfl ?_
      refine ep_addN (a := 4) (b := k) t59_55 ?_
      refine ep_aldN t59_56 rfl (Nat.le_of_ble_eq_true rfl) (Nat.ne_of_beq_eq_false rfl) (Nat.le_of_ble_eq_true rfl) (by have := hw.1; have := hw.2.1; have := hw.2.2.2 k hk3; omega) ?_
      refine ep_val (b := nI (T (4 + k))) ((congrFun (h1 34 (by decide)) _).trans ((hT.2 k hk3).1)) ?_
      refine ep_k1 (w := nI 2) t59_57 rfl ?_
      refine ep_ifP t59_58 (ic_eq (by have := hw.1; have := hw.2.1; have := hw.2.2.2 k hk3; omega) (by have := hw.1; have := hw.2.1; have := hw.2.2.2 k hk3; omega)) (fun (c58 : (T (4 + k)) = 2) => ?_) (fun (c58 : ¬ ((T (4 + k)) = 2)) => ?_)
      · refine ep_inc (b := nI (k + 1)) (L' := [some (.ref 31), some (.ref 34), some (.int (nI c)), some (.int (nI r)), some (.int (nI (k + 1))), o5, o6, o7]) t59_133 rfl (nI_add k 1) rfl (Nat.le_of_ble_eq_true rfl) ?_
        refine ep_gt t59_136 ?_
        first | exact L_pb3_34 hT hw hc h0 K d (k + 1) _ lab _ _ _ (by omega) h1 h2 h3 (h4.no (fun ha => absurd ha.2.1 (by rw [c48]; decide))) | exact L_pb3_34 hT hw hc h0 K d (k + 1) _ lab _ _ _ (by omega) h1 h2 h3 (h4.no (fun ha => ha.2.2 c58))
      · have hf := (hw.2.2.1 k hk3).1
        have hs := (hw.2.2.1 k hk3).2 c58
        have hact : t_act T c k := ⟨hk3, c48, c58⟩
        have hlf : lab (T (20 + k)) ≤ T (20 + k) := (h3 _ hf).1
        have hls : lab (T (28 + k)) ≤ T (28 + k) := (h3 _ hs).1
        refine ep_aln t59_61 rfl ?_
        refine ep_k2 (w := nI 20) t59_62 rfl ?_
        refine ep_il t59_64 rfl ?_
        refine ep_addN (a := 20) (b := k) t59_66 ?_
        refine ep_aldN t59_67 rfl (Nat.le_of_ble_eq_true rfl) (Nat.ne_of_beq_eq_false rfl) (Nat.le_of_ble_eq_true rfl) (by have := hw.1; have := hw.2.1; have := hw.2.2.2 k hk3; omega) ?_
        refine ep_val (b := nI (T (20 + k))) ((congrFun (h1 34 (by decide)) _).trans ((hT.2 k hk3).2.2.1)) ?_
        refine ep_is (L' := [some (.ref 31), some (.ref 34), some (.int (nI c)), some (.int (nI r)), some (.int (nI k)), some (.int (nI (T (20 + k)))), o6, o7]) t59_68 rfl (Nat.le_of_ble_eq_true rfl) ?_
        refine ep_aln t59_70 rfl ?_
        refine ep_k2 (w := nI 28) t59_71 rfl ?_
        refine ep_il t59_73 rfl ?_
        refine ep_addN (a := 28) (b := k) t59_75 ?_
        refine ep_aldN t59_76 rfl (Nat.le_of_ble_eq_true rfl) (Nat.ne_of_beq_eq_false rfl) (Nat.le_of_ble_eq_true rfl) (by have := hw.1; have := hw.2.1; have := hw.2.2.2 k hk3; omega) ?_
        refine ep_val (b := sec T k) ((congrFun (h1 34 (by decide)) _).trans ((hT.2 k hk3).2.2.2)) ?_
        refine ep_val (b := nI (T (28 + k))) (if_neg c58) ?_
        refine ep_is (L' := [some (.ref 31), some (.ref 34), some (.int (nI c)), some (.int (nI r)), some (.int (nI k)), some (.int (nI (T (20 + k)))), some (.int (nI (T (28 + k)))), o7]) t59_77 rfl (Nat.le_of_ble_eq_true rfl) ?_
        refine ep_aln t59_79 rfl ?_
        refine ep_getr (q := 43) t59_80 rfl (Nat.le_of_ble_eq_true rfl) rfl (rfl) ?_
        refine ep_il t59_83 rfl ?_
        refine ep_aldN t59_85 rfl (Nat.le_of_ble_eq_true rfl) (Nat.ne_of_beq_eq_false rfl) (Nat.le_of_ble_eq_true rfl) (by have := hw.1; omega) ?_
        refine ep_val (b := nI (lab (T (20 + k)))) (h2 _ hf) ?_
        refine ep_aln t59_86 rfl ?_
        refine ep_getr (q := 43) t59_87 rfl (Nat.le_of_ble_eq_true rfl) rfl (rfl) ?_
        refine ep_il t59_90 rfl ?_
        refine ep_aldN t59_92 rfl (Nat.le_of_ble_eq_true rfl) (Nat.ne_of_beq_eq_false rfl) (Nat.le_of_ble_eq_true rfl) (by have := hw.1; omega) ?_
        refine ep_val (b := nI (lab (T (28 + k)))) (h2 _ hs) ?_
        refine ep_ifP t59_93 (ic_ge (by have := hw.1; have := hw.2.1; have := hw.2.2.2 k hk3; omega) (by have := hw.1; have := hw.2.1; have := hw.2.2.2 k hk3; omega)) (fun (c93 : (lab (T (28 + k))) ≤ (lab (T (20 + k)))) => ?_) (fun (c93 : ¬ ((lab (T (28 + k))) ≤ (lab (T (20 + k))))) => ?_)
        · refine ep_aln t59_106 rfl ?_
          refine ep_getr (q := 43) t59_107 rfl (Nat.le_of_ble_eq_true rfl) rfl (rfl) ?_
          refine ep_il t59_110 rfl ?_
          refine ep_aldN t59_112 rfl (Nat.le_of_ble_eq_true rfl) (Nat.ne_of_beq_eq_false rfl) (Nat.le_of_ble_eq_true rfl) (by have := hw.1; omega) ?_
          refine ep_val (b := nI (lab (T (28 + k)))) (h2 _ hs) ?_
          refine ep_is (L' := [some (.ref 31), some (.ref 34), some (.int (nI c)), some (.int (nI r)), some (.int (nI k)), some (.int (nI (T (20 + k)))), some (.int (nI (T (28 + k)))), some (.int (nI (lab (T (28 + k)))))]) t59_113 rfl (Nat.le_of_ble_eq_true rfl) ?_
          refine ep_aln t59_115 rfl ?_
          refine ep_getr (q := 43) t59_116 rfl (Nat.le_of_ble_eq_true rfl) rfl (rfl) ?_
          refine ep_il t59_119 rfl ?_
          refine ep_il t59_121 rfl ?_
          refine ep_astN t59_123 rfl (Nat.le_of_ble_eq_true rfl) (Nat.le_of_ble_eq_true rfl) (by have := hw.1; omega) ?_
          refine ep_aln t59_124 rfl ?_
          refine ep_getr (q := 43) t59_125 rfl (Nat.le_of_ble_eq_true rfl) rfl (rfl) ?_
          refine ep_il t59_128 rfl ?_
          refine ep_il t59_130 rfl ?_
          refine ep_astN t59_132 rfl (Nat.le_of_ble_eq_true rfl) (Nat.le_of_ble_eq_true rfl) (by have := hw.1; omega) ?_
          refine ep_inc (b := nI (k + 1)) (L' := [some (.ref 31), some (.ref 34), some (.int (nI c)), some (.int (nI r)), some (.int (nI (k + 1))), some (.int (nI (T (20 + k)))), some (.int (nI (T (28 + k)))), some (.int (nI (lab (T (28 + k)))))]) t59_133 rfl (nI_add k 1) rfl (Nat.le_of_ble_eq_true rfl) ?_
          refine ep_gt t59_136 ?_
          exact L_pb3_34 hT hw hc h0 K d (k + 1) _ (lstep lab (T (20 + k)) (T (28 + k))) _ _ _ (by omega) (fun p hp => (g_up_ne hp).trans ((g_up_ne hp).trans (h1 p hp))) (fun w hw2 => by
            unfold lstep
            by_cases e : w = T (28 + k)
            · rw [if_pos e, e, g_up_eq, Nat.min_eq_right c93]
            · rw [if_neg e, g_up_j e]
              by_cases e2 : w = T (20 + k)
              · rw [if_pos e2, e2, g_up_eq, Nat.min_eq_right c93]
              · rw [if_neg e2, g_up_j e2]; exact h2 w hw2) (h3.step hw hact) h4.yes
        · refine ep_aln t59_96 rfl ?_
          refine ep_getr (q := 43) t59_97 rfl (Nat.le_of_ble_eq_true rfl) rfl (rfl) ?_
          refine ep_il t59_100 rfl ?_
          refine ep_aldN t59_102 rfl (Nat.le_of_ble_eq_true rfl) (Nat.ne_of_beq_eq_false rfl) (Nat.le_of_ble_eq_true rfl) (by have := hw.1; omega) ?_
          refine ep_val (b := nI (lab (T (20 + k)))) (h2 _ hf) ?_
          refine ep_gt t59_103 ?_
          refine ep_is (L' := [some (.ref 31), some (.ref 34), some (.int (nI c)), some (.int (nI r)), some (.int (nI k)), some (.int (nI (T (20 + k)))), some (.int (nI (T (28 + k)))), some (.int (nI (lab (T (20 + k)))))]) t59_113 rfl (Nat.le_of_ble_eq_true rfl) ?_
          refine ep_aln t59_115 rfl ?_
          refine ep_getr (q := 43) t59_116 rfl (Nat.le_of_ble_eq_true rfl) rfl (rfl) ?_
          refine ep_il t59_119 rfl ?_
          refine ep_il t59_121 rfl ?_
          refine ep_astN t59_123 rfl (Nat.le_of_ble_eq_true rfl) (Nat.le_of_ble_eq_true rfl) (by have := hw.1; omega) ?_
          refine ep_aln t59_124 rfl ?_
          refine ep_getr (q := 43) t59_125 rfl (Nat.le_of_ble_eq_true rfl) rfl (rfl) ?_
          refine ep_il t59_128 rfl ?_
          refine ep_il t59_130 rfl ?_
          refine ep_astN t59_132 rfl (Nat.le_of_ble_eq_true rfl) (Nat.le_of_ble_eq_true rfl) (by have := hw.1; omega) ?_
          refine ep_inc (b := nI (k + 1)) (L' := [some (.ref 31), some (.ref 34), some (.int (nI c)), some (.int (nI r)), some (.int (nI (k + 1))), some (.int (nI (T (20 + k)))), some (.int (nI (T (28 + k)))), some (.int (nI (lab (T (20 + k)))))]) t59_133 rfl (nI_add k 1) rfl (Nat.le_of_ble_eq_true rfl) ?_
          refine ep_gt t59_136 ?_
          exact L_pb3_34 hT hw hc h0 K d (k + 1) _ (lstep lab (T (20 + k)) (T (28 + k))) _ _ _ (by omega) (fun p hp => (g_up_ne hp).trans ((g_up_ne hp).trans (h1 p hp))) (fun w hw2 => by
            unfold lstep
            by_cases e : w = T (28 + k)
            · rw [if_pos e, e, g_up_eq, Nat.min_eq_left (by omega)]
            · rw [if_neg e, g_up_j e]
              by_cases e2 : w = T (20 + k)
              · rw [if_pos e2, e2, g_up_eq, Nat.min_eq_left (by omega)]
              · rw [if_neg e2, g_up_j e2]; exact h2 w hw2) (h3.step hw hact) h4.yes
theorem L_pb2_34 {X : gX} {q : Bool} {σ : gT1} {T : Nat → Nat} {c : Nat} {P : Option Value → gS → Prop} (hT : ToldM (σ 34) T) (hw : WF0 T) (hc : c < 2147483648) (K : ∀ (σ' : gT1) (lab : Nat → Nat) (o4 o5 o6 o7 : Option Value), (∀ p, p ≠ 43 → σ' p = σ p) → (∀ u, u < T 0 → σ' 43 u = nI (lab u)) → POK T c lab → EvP X 59 145 [some (.ref 31), some (.ref 34), some (.int (nI c)), some (.int (nI (T 0))), o4, o5, o6, o7] [] (47, g_rho q, σ') P) : ∀ (d r : Nat) (σ' : gT1) (lab : Nat → Nat) (o4 o5 o6 o7 : Option Value), r + d = T 0 → (∀ p, p ≠ 43 → σ' p = σ p) → (∀ u, u < T 0 → σ' 43 u = nI (lab u)) → LInv T c lab → LCv T c r lab → EvP X 59 24 [some (.ref 31), some (.ref 34), some (.int (nI c)), some (.int (nI r)), o4, o5, o6, o7] [] (47, g_rho q, σ') P
  | 0, r, σ', lab, o4, o5, o6, o7, hk, h1, h2, h3, h4 => by
    obtain rfl : r = T 0 := by omega
    refine ep_iln t59_24 rfl ?_
    refine ep_aln t59_25 rfl ?_
    refine ep_k1 (w := nI 0) t59_26 rfl ?_
    refine ep_aldN t59_27 rfl (Nat.le_of_ble_eq_true rfl) (Nat.ne_of_beq_eq_false rfl) (Nat.le_of_ble_eq_true rfl) (by have := hw.1; have := hw.2.1; omega) ?_
    refine ep_val (b := nI (T 0)) ((congrFun (h1 34 (by decide)) _).trans (hT.1 0 (by decide))) ?_
    refine ep_ifP t59_28 (ic_ge (by have := hw.1; have := hw.2.1; omega) (by have := hw.1; have := hw.2.1; omega)) (fun (c28 : (T 0) ≤ (T 0)) => ?_) (fun (c28 : ¬ ((T 0) ≤ (T 0))) => (by exact absurd (Nat.le_refl _) c28))
    exact K σ' lab _ _ _ _ h1 h2 (LCv.ok h3 h4)
  | d + 1, r, σ', lab, o4, o5, o6, o7, hk, h1, h2, h3, h4 => by
    refine ep_iln t59_24 rfl ?_
    refine ep_aln t59_25 rfl ?_
    refine ep_k1 (w := nI 0) t59_26 rfl ?_
    refine ep_aldN t59_27 rfl (Nat.le_of_ble_eq_true rfl) (Nat.ne_of_beq_eq_false rfl) (Nat.le_of_ble_eq_true rfl) (by have := hw.1; have := hw.2.1; omega) ?_
    refine ep_val (b := nI (T 0)) ((congrFun (h1 34 (by decide)) _).trans (hT.1 0 (by decide))) ?_
    refine ep_ifP t59_28 (ic_ge (by have := hw.1; have := hw.2.1; omega) (by have := hw.1; have := hw.2.1; omega)) (fun (c28 : (T 0) ≤ r) => (by omega)) (fun (c28 : ¬ ((T 0) ≤ r)) => ?_)
    refine ep_k1 (w := nI 0) t59_31 rfl ?_
    refine ep_is (L' := [some (.ref 31), some (.ref 34), some (.int (nI c)), some (.int (nI r)), some (.int (nI 0)), o5, o6, o7]) t59_32 rfl (Nat.le_of_ble_eq_true rfl) ?_
    refine L_pb3_34 (l0 := lab) (r := r) hT hw hc (by have := hw.1; omega) (fun σ2 lab2 o5 o6 o7 g1 g2 g3 g4 => ?_) (T 3) 0 σ' lab o5 o6 o7 (by omega) h1 h2 h3 LRnd.z
    refine ep_inc (b := nI (r + 1)) (L' := [some (.ref 31), some (.ref 34), some (.int (nI c)), some (.int (nI (r + 1))), some (.int (nI (T 3))), o5, o6, o7]) t59_139 rfl (nI_add r 1) rfl (Nat.le_of_ble_eq_true rfl) ?_
    refine ep_gt t59_142 ?_
    exact L_pb2_34 hT hw hc K d (r + 1) σ2 lab2 _ _ _ _ (by omega) g1 g2 g3 (LCv.step hw h3 g3 g4 h4)
theorem cl_M_partsBy_34 {X : gX} {q : Bool} {σ : gT1} {T : Nat → Nat} {c : Nat} (hT : ToldM (σ 34) T) (hw : WF0 T) (hc : c < 2147483648) : ClP X 59 [.ref 31, .ref 34, .int (nI c)] (47, g_rho q, σ) (fun v g1 => v = none ∧ ∃ σ1 lab, g1 = (47, g_rho q, σ1) ∧ (∀ p, p ≠ 43 → σ1 p = σ p) ∧ (∀ u, u < T 0 → σ1 43 u = nI (lab u)) ∧ POK T c lab) := by
  refine ClP.of ⟨Nat.le_of_ble_eq_true rfl, rfl⟩ ?_
  show EvP X 59 0 [some (.ref 31), some (.ref 34), some (.int (nI c)), none, none, none, none, none] [] (47, g_rho q, σ) _
  refine ep_k1 (w := nI 0) t59_0 rfl ?_
  refine ep_isn (L' := [some (.ref 31), some (.ref 34), some (.int (nI c)), some (.int (nI 0)), none, none, none, none]) t59_1 rfl (Nat.le_of_ble_eq_true rfl) ?_
  refine L_pb1_34 hT hw hc (fun σ1 a1 a2 => ?_) (T 0) 0 σ (by omega) (fun _ _ => rfl) (fun j hj => absurd hj (Nat.not_lt_zero j))
  refine ep_k1 (w := nI 0) t59_22 rfl ?_
  refine ep_isn (L' := [some (.ref 31), some (.ref 34), some (.int (nI c)), some (.int (nI 0)), none, none, none, none]) t59_23 rfl (Nat.le_of_ble_eq_true rfl) ?_
  refine L_pb2_34 hT hw hc (fun σ2 lab o4 o5 o6 o7 b1 b2 b3 => ?_) (T 0) 0 σ1 (fun u => u) _ _ _ _ (by omega) a1 a2 (fun u hu => ⟨Nat.le_refl _, Cn.rf⟩) LCv.z
  exact ep_rv t59_145 ⟨rfl, σ2, lab, rfl, b1, b2, b3⟩

