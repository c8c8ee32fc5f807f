/-! The model's odds; pair odds. -/
noncomputable def brk (T : Nat → Nat) (c : Nat) : Nat := mk (T 3) (fun k => c.testBit k = true ∧ T (4 + k) = 0)
theorem brk_and {T : Nat → Nat} {c : Nat} : c &&& mk (T 3) (fun k => T (4 + k) = 0) = brk T c := mk_eq (fun i => by
  rw [Nat.testBit_and, Bool.and_eq_true, mk_bit]
  constructor
  · rintro ⟨h1, h2, h3⟩
    exact ⟨h2, h1, h3⟩
  · rintro ⟨h1, h2, h3⟩
    exact ⟨h2, h1, h3⟩)
theorem tmo_top {x br S m : Nat} (hb : br < 2 ^ m) (hs : S < 2 ^ m) (hm : m ≤ 8) : tmo x br S m = tmo x br S 8 := by
  unfold tmo
  rw [pcn_top hs 8 hm, pcn_top (andN_le _ _ hb) 8 hm]
theorem ten_le {n : Nat} (h : n ≤ 8) : 10 ^ n ≤ 100000000 := Nat.pow_le_pow_right (n := 10) (by decide) h
theorem L_od1 {X : gX} {q : Bool} {σ : gT1} {T : Nat → Nat} {c : Nat} {o1 o2 o6 o7 o8 o9 : Option Value} {P : Option Value → gS → Prop} (hT : ToldM (σ 33) T) (hw : WF0 T) (hc : c < 2 ^ T 3) (e0 : σ 36 0 = nI c) (K : EvP X 129 91 [some (.ref 31), o1, o2, some (.int (nI (mk (T 3) (fun k => c.testBit k = true ∧ T (4 + k) = 0)))), some (.int (nI (10 ^ pcn (T 3) (brk T c)))), some (.int (nI (T 3))), o6, o7, o8, o9] [] (47, g_rho q, σ) P) : ∀ (d k : Nat), k + d = T 3 → EvP X 129 34 [some (.ref 31), o1, o2, some (.int (nI (mk k (fun k => c.testBit k = true ∧ T (4 + k) = 0)))), some (.int (nI (10 ^ pcn k (brk T c)))), some (.int (nI k)), o6, o7, o8, o9] [] (47, g_rho q, σ) P
  | 0, k, hk => by
    obtain rfl : k = T 3 := by omega
    refine ep_il t129_34 rfl ?_
    refine ep_aln t129_36 rfl ?_
    refine ep_getr (q := 33) t129_37 rfl (Nat.le_of_ble_eq_true rfl) rfl (rfl) ?_
    refine ep_k1 (w := nI 3) t129_40 rfl ?_
    refine ep_aldN t129_41 rfl (Nat.le_of_ble_eq_true rfl) (Nat.ne_of_beq_eq_false rfl) (Nat.le_of_ble_eq_true rfl) (by have := hw.2.1; omega) ?_
    refine ep_val (b := nI (T 3)) (hT.1 3 (by decide)) ?_
    refine ep_ifP t129_42 (ic_ge (by have := hw.2.1; omega) (by have := hw.2.1; omega)) (fun (c42 : (T 3) ≤ (T 3)) => ?_) (fun (c42 : ¬ ((T 3) ≤ (T 3))) => (by exact absurd (Nat.le_refl _) c42))
    exact K
  | d + 1, k, hk => by
    have hk3 : k < T 3 := by omega
    refine ep_il t129_34 rfl ?_
    refine ep_aln t129_36 rfl ?_
    refine ep_getr (q := 33) t129_37 rfl (Nat.le_of_ble_eq_true rfl) rfl (rfl) ?_
    refine ep_k1 (w := nI 3) t129_40 rfl ?_
    refine ep_aldN t129_41 rfl (Nat.le_of_ble_eq_true rfl) (Nat.ne_of_beq_eq_false rfl) (Nat.le_of_ble_eq_true rfl) (by have := hw.2.1; have := hw.2.2.2 k hk3; have := pow_le_256 hw.2.1; omega) ?_
    refine ep_val (b := nI (T 3)) (hT.1 3 (by decide)) ?_
    refine ep_ifP t129_42 (ic_ge (by have := hw.2.1; have := hw.2.2.2 k hk3; have := pow_le_256 hw.2.1; omega) (by have := hw.2.1; have := hw.2.2.2 k hk3; have := pow_le_256 hw.2.1; omega)) (fun (c42 : (T 3) ≤ k) => (by omega)) (fun (c42 : ¬ ((T 3) ≤ k)) => ?_)
    refine ep_aln t129_45 rfl ?_
    refine ep_getr (q := 36) t129_46 rfl (Nat.le_of_ble_eq_true rfl) rfl (rfl) ?_
    refine ep_k1 (w := nI 0) t129_49 rfl ?_
    refine ep_aldN t129_50 rfl (Nat.le_of_ble_eq_true rfl) (Nat.ne_of_beq_eq_false rfl) (Nat.le_of_ble_eq_true rfl) (by have := hw.2.1; have := hw.2.2.2 k hk3; have := pow_le_256 hw.2.1; omega) ?_
    refine ep_val (b := nI c) (e0) ?_
    refine ep_il t129_51 rfl ?_
    refine ep_cs t129_53 (Nat.ne_of_beq_eq_false rfl) rfl (Nat.le_of_ble_eq_true rfl) (cl_M_has (by have := hw.2.1; have := hw.2.2.2 k hk3; have := pow_le_256 hw.2.1; omega) (by have := hw.2.1; have := hw.2.2.2 k hk3; have := pow_le_256 hw.2.1; omega)) ?_
    refine ep_bF t129_56 (fun (c56 : (Nat.testBit c k) = false) => ?_) (fun (c56 : (Nat.testBit c k) = true) => ?_)
    · refine ep_inc (b := nI (k + 1)) (L' := [some (.ref 31), o1, o2, some (.int (nI (mk k (fun k => c.testBit k = true ∧ T (4 + k) = 0)))), some (.int (nI (10 ^ pcn k (brk T c)))), some (.int (nI (k + 1))), o6, o7, o8, o9]) t129_85 rfl (nI_add k 1) rfl (Nat.le_of_ble_eq_true rfl) ?_
      refine ep_gt t129_88 ?_
      have hnk : ¬ (c.testBit k = true ∧ T (4 + k) = 0) := fun h => by
        first
        | (rw [c56] at h; exact absurd h.1 (by decide))
        | exact c68 h.2
      have hbk : (brk T c).testBit k = false := by
        cases h : (brk T c).testBit k with
        | false => rfl
        | true => exact absurd ((mk_bit _ _ _).mp h).2 hnk
      have e1 : 10 ^ pcn k (brk T c) = 10 ^ pcn (k + 1) (brk T c) := by rw [pcn_suc, hbk]; rfl
      rw [mk_no (P := (fun k => c.testBit k = true ∧ T (4 + k) = 0)) hnk, e1]
      exact L_od1 hT hw hc e0 K d (k + 1) (by omega)
    · refine ep_aln t129_59 rfl ?_
      refine ep_getr (q := 33) t129_60 rfl (Nat.le_of_ble_eq_true rfl) rfl (rfl) ?_
      refine ep_k1 (w := nI 4) t129_63 rfl ?_
      refine ep_il t129_64 rfl ?_
      refine ep_addN (a := 4) (b := k) t129_66 ?_
      refine ep_aldN t129_67 rfl (Nat.le_of_ble_eq_true rfl) (Nat.ne_of_beq_eq_false rfl) (Nat.le_of_ble_eq_true rfl) (by have := hw.2.1; have := hw.2.2.2 k hk3; have := pow_le_256 hw.2.1; omega) ?_
      refine ep_val (b := nI (T (4 + k))) ((hT.2 k hk3).1) ?_
      refine ep_if0P t129_68 (ic0_ne (by have := hw.2.1; have := hw.2.2.2 k hk3; have := pow_le_256 hw.2.1; omega)) (fun (c68 : ¬ (T (4 + k)) = 0) => ?_) (fun (c68 : ¬ (¬ (T (4 + k)) = 0)) => ?_)
      · refine ep_inc (b := nI (k + 1)) (L' := [some (.ref 31), o1, o2, some (.int (nI (mk k (fun k => c.testBit k = true ∧ T (4 + k) = 0)))), some (.int (nI (10 ^ pcn k (brk T c)))), some (.int (nI (k + 1))), o6, o7, o8, o9]) t129_85 rfl (nI_add k 1) rfl (Nat.le_of_ble_eq_true rfl) ?_
        refine ep_gt t129_88 ?_
        have hnk : ¬ (c.testBit k = true ∧ T (4 + k) = 0) := fun h => by
          first
          | (rw [c56] at h; exact absurd h.1 (by decide))
          | exact c68 h.2
        have hbk : (brk T c).testBit k = false := by
          cases h : (brk T c).testBit k with
          | false => rfl
          | true => exact absurd ((mk_bit _ _ _).mp h).2 hnk
        have e1 : 10 ^ pcn k (brk T c) = 10 ^ pcn (k + 1) (brk T c) := by rw [pcn_suc, hbk]; rfl
        rw [mk_no (P := (fun k => c.testBit k = true ∧ T (4 + k) = 0)) hnk, e1]
        exact L_od1 hT hw hc e0 K d (k + 1) (by omega)
      · refine ep_iln t129_71 rfl ?_
        refine ep_k1 (w := nI 1) t129_72 rfl ?_
        refine ep_il t129_73 rfl ?_
        refine ep_oneN (b := k) t129_75 (by have := hw.2.1; have := hw.2.2.2 k hk3; have := pow_le_256 hw.2.1; omega) ?_
        refine ep_orN (a := mk k (fun k => c.testBit k = true ∧ T (4 + k) = 0)) (b := 2 ^ k) t129_76 ?_
        refine ep_isn (L' := [some (.ref 31), o1, o2, some (.int (nI ((mk k (fun k => c.testBit k = true ∧ T (4 + k) = 0)) ||| (2 ^ k)))), some (.int (nI (10 ^ pcn k (brk T c)))), some (.int (nI k)), o6, o7, o8, o9]) t129_77 rfl (Nat.le_of_ble_eq_true rfl) ?_
        refine ep_il t129_78 rfl ?_
        refine ep_k2 (w := nI 10) t129_80 rfl ?_
        refine ep_mulN (a := 10 ^ pcn k (brk T c)) (b := 10) t129_82 ?_
        refine ep_is (L' := [some (.ref 31), o1, o2, some (.int (nI ((mk k (fun k => c.testBit k = true ∧ T (4 + k) = 0)) ||| (2 ^ k)))), some (.int (nI ((10 ^ pcn k (brk T c)) * 10))), some (.int (nI k)), o6, o7, o8, o9]) t129_83 rfl (Nat.le_of_ble_eq_true rfl) ?_
        refine ep_inc (b := nI (k + 1)) (L' := [some (.ref 31), o1, o2, some (.int (nI ((mk k (fun k => c.testBit k = true ∧ T (4 + k) = 0)) ||| (2 ^ k)))), some (.int (nI ((10 ^ pcn k (brk T c)) * 10))), some (.int (nI (k + 1))), o6, o7, o8, o9]) t129_85 rfl (nI_add k 1) rfl (Nat.le_of_ble_eq_true rfl) ?_
        refine ep_gt t129_88 ?_
        have hyk : c.testBit k = true ∧ T (4 + k) = 0 := ⟨c56, Classical.byContradiction c68⟩
        have hbk : (brk T c).testBit k = true := (mk_bit _ _ _).mpr ⟨hk3, hyk⟩
        have e1 : 10 ^ pcn k (brk T c) * 10 = 10 ^ pcn (k + 1) (brk T c) := by rw [pcn_suc, hbk]; rfl
        rw [mk_yes (P := (fun k => c.testBit k = true ∧ T (4 + k) = 0)) hyk, e1]
        exact L_od1 hT hw hc e0 K d (k + 1) (by omega)
theorem L_od3 {X : gX} {q : Bool} {σ : gT1} {T : Nat → Nat} {br x S : Nat} {o2 o4 o5 o6 : Option Value} {P : Option Value → gS → Prop} (hw : WF0 T) (e3 : σ 33 3 = nI (T 3)) (hbr : br < 2 ^ T 3) (hx : x ≤ 10) (hS : S < 2 ^ T 3) (hsb : andN S br = 0) (K : EvP X 129 224 [some (.ref 31), some (.int (nI x)), o2, some (.int (nI br)), o4, o5, o6, some (.int (nI S)), some (.int (nI (tmo x br S (T 3)))), some (.int (nI (T 3)))] [] (47, g_rho q, σ) P) : ∀ (d k : Nat), k + d = T 3 → EvP X 129 171 [some (.ref 31), some (.int (nI x)), o2, some (.int (nI br)), o4, o5, o6, some (.int (nI S)), some (.int (nI (tmo x br S k))), some (.int (nI k))] [] (47, g_rho q, σ) P
  | 0, k, hk => by
    obtain rfl : k = T 3 := by omega
    refine ep_il t129_171 rfl ?_
    refine ep_aln t129_173 rfl ?_
    refine ep_getr (q := 33) t129_174 rfl (Nat.le_of_ble_eq_true rfl) rfl (rfl) ?_
    refine ep_k1 (w := nI 3) t129_177 rfl ?_
    refine ep_aldN t129_178 rfl (Nat.le_of_ble_eq_true rfl) (Nat.ne_of_beq_eq_false rfl) (Nat.le_of_ble_eq_true rfl) (by have := hw.2.1; have := pow_le_256 hw.2.1; omega) ?_
    refine ep_val (b := nI (T 3)) (e3) ?_
    refine ep_ifP t129_179 (ic_ge (by have := hw.2.1; have := pow_le_256 hw.2.1; omega) (by have := hw.2.1; have := pow_le_256 hw.2.1; omega)) (fun (c179 : (T 3) ≤ (T 3)) => ?_) (fun (c179 : ¬ ((T 3) ≤ (T 3))) => (by exact absurd (Nat.le_refl _) c179))
    exact K
  | d + 1, k, hk => by
    refine ep_il t129_171 rfl ?_
    refine ep_aln t129_173 rfl ?_
    refine ep_getr (q := 33) t129_174 rfl (Nat.le_of_ble_eq_true rfl) rfl (rfl) ?_
    refine ep_k1 (w := nI 3) t129_177 rfl ?_
    refine ep_aldN t129_178 rfl (Nat.le_of_ble_eq_true rfl) (Nat.ne_of_beq_eq_false rfl) (Nat.le_of_ble_eq_true rfl) (by have := hw.2.1; have := pow_le_256 hw.2.1; omega) ?_
    refine ep_val (b := nI (T 3)) (e3) ?_
    refine ep_ifP t129_179 (ic_ge (by have := hw.2.1; have := pow_le_256 hw.2.1; omega) (by have := hw.2.1; have := pow_le_256 hw.2.1; omega)) (fun (c179 : (T 3) ≤ k) => (by omega)) (fun (c179 : ¬ ((T 3) ≤ k)) => ?_)
    refine ep_il t129_182 rfl ?_
    refine ep_iln t129_184 rfl ?_
    refine ep_il t129_185 rfl ?_
    refine ep_cs t129_187 (Nat.ne_of_beq_eq_false rfl) rfl (Nat.le_of_ble_eq_true rfl) (cl_M_has (by have := hw.2.1; have := pow_le_256 hw.2.1; omega) (by have := hw.2.1; have := pow_le_256 hw.2.1; omega)) ?_
    refine ep_bT t129_190 (fun (c190 : (Nat.testBit br k) = true) => ?_) (fun (c190 : (Nat.testBit br k) = false) => ?_)
    · refine ep_il t129_197 rfl ?_
      refine ep_il t129_199 rfl ?_
      refine ep_cs t129_201 (Nat.ne_of_beq_eq_false rfl) rfl (Nat.le_of_ble_eq_true rfl) (cl_M_has (by have := hw.2.1; have := pow_le_256 hw.2.1; omega) (by have := hw.2.1; have := pow_le_256 hw.2.1; omega)) ?_
      refine ep_bF t129_204 (fun (c204 : (Nat.testBit S k) = false) => ?_) (fun (c204 : (Nat.testBit S k) = true) => ?_)
      · refine ep_k2 (w := nI 10) t129_211 rfl ?_
        refine ep_iln t129_213 rfl ?_
        refine ep_subN (a := 10) (b := x) t129_214 (by have := hw.2.1; have := pow_le_256 hw.2.1; omega) ?_
        refine ep_mulN (a := tmo x br S k) (b := 10 - x) t129_215 ?_
        refine ep_is (L' := [some (.ref 31), some (.int (nI x)), o2, some (.int (nI br)), o4, o5, o6, some (.int (nI S)), some (.int (nI ((tmo x br S k) * (10 - x)))), some (.int (nI k))]) t129_216 rfl (Nat.le_of_ble_eq_true rfl) ?_
        refine ep_inc (b := nI (k + 1)) (L' := [some (.ref 31), some (.int (nI x)), o2, some (.int (nI br)), o4, o5, o6, some (.int (nI S)), some (.int (nI ((tmo x br S k) * (10 - x)))), some (.int (nI (k + 1)))]) t129_218 rfl (nI_add k 1) rfl (Nat.le_of_ble_eq_true rfl) ?_
        refine ep_gt t129_221 ?_
        rw [tmo_out c190 c204]
        exact L_od3 hw e3 hbr hx hS hsb K d (k + 1) (by omega)
      · refine ep_iln t129_207 rfl ?_
        refine ep_gt t129_208 ?_
        refine ep_mulN (a := tmo x br S k) (b := x) t129_215 ?_
        refine ep_is (L' := [some (.ref 31), some (.int (nI x)), o2, some (.int (nI br)), o4, o5, o6, some (.int (nI S)), some (.int (nI ((tmo x br S k) * x))), some (.int (nI k))]) t129_216 rfl (Nat.le_of_ble_eq_true rfl) ?_
        refine ep_inc (b := nI (k + 1)) (L' := [some (.ref 31), some (.int (nI x)), o2, some (.int (nI br)), o4, o5, o6, some (.int (nI S)), some (.int (nI ((tmo x br S k) * x))), some (.int (nI (k + 1)))]) t129_218 rfl (nI_add k 1) rfl (Nat.le_of_ble_eq_true rfl) ?_
        refine ep_gt t129_221 ?_
        rw [tmo_in c190 c204]
        exact L_od3 hw e3 hbr hx hS hsb K d (k + 1) (by omega)
    · refine ep_k1 (w := nI 1) t129_193 rfl ?_
      refine ep_gt t129_194 ?_
      refine ep_mulN (a := tmo x br S k) (b := 1) t129_215 ?_
      refine ep_is (L' := [some (.ref 31), some (.int (nI x)), o2, some (.int (nI br)), o4, o5, o6, some (.int (nI S)), some (.int (nI ((tmo x br S k) * 1))), some (.int (nI k))]) t129_216 rfl (Nat.le_of_ble_eq_true rfl) ?_
      refine ep_inc (b := nI (k + 1)) (L' := [some (.ref 31), some (.int (nI x)), o2, some (.int (nI br)), o4, o5, o6, some (.int (nI S)), some (.int (nI ((tmo x br S k) * 1))), some (.int (nI (k + 1)))]) t129_218 rfl (nI_add k 1) rfl (Nat.le_of_ble_eq_true rfl) ?_
      refine ep_gt t129_221 ?_
      rw [tmo_no hsb c190]
      exact L_od3 hw e3 hbr hx hS hsb K d (k + 1) (by omega)
theorem L_od2 {X : gX} {q : Bool} {σ : gT1} {T : Nat → Nat} {c br x : Nat} {o2 o4 : Option Value} {P : Option Value → gS → Prop} (hT : ToldM (σ 33) T) (hw : WF0 T) (h31 : T 1 < 2147483648) (hc : c < 2 ^ T 3) (e0 : σ 36 0 = nI c) (hbr : br < 2 ^ T 3) (hx : x ≤ 10) (K : ∀ (σ' : gT1) (o8 o9 : Option Value), (∀ r, r ≠ 43 → σ' r = σ r) → EvP X 129 237 [some (.ref 31), some (.int (nI x)), o2, some (.int (nI br)), o4, some (.int (nI (liveM T c &&& T 2))), some (.int (nI (sumTo (wgt T c br (liveM T c &&& T 2) x) (2 ^ T 3)))), some (.int (nI (2 ^ T 3))), o8, o9] [] (47, g_rho q, σ') P) : ∀ (d S : Nat) (σ' : gT1) (o8 o9 : Option Value), S + d = 2 ^ T 3 → (∀ r, r ≠ 43 → σ' r = σ r) → EvP X 129 120 [some (.ref 31), some (.int (nI x)), o2, some (.int (nI br)), o4, some (.int (nI (liveM T c &&& T 2))), some (.int (nI (sumTo (wgt T c br (liveM T c &&& T 2) x) S))), some (.int (nI S)), o8, o9] [] (47, g_rho q, σ') P
  | 0, S, σ', o8, o9, hk, h1 => by
    obtain rfl : S = 2 ^ T 3 := by omega
    refine ep_il t129_120 rfl ?_
    refine ep_aln t129_122 rfl ?_
    refine ep_cv t129_123 rfl rfl (Nat.le_of_ble_eq_true rfl) (Nat.le_of_ble_eq_true rfl) (cl_M_states (T := T) ((congrFun (h1 33 (by decide)) 3).trans (hT.1 3 (by decide))) hw.2.1) ?_
    refine ep_ifP t129_126 (ic_ge (by have := pow_le_256 hw.2.1; omega) (by have := pow_le_256 hw.2.1; omega)) (fun (c126 : (2 ^ T 3) ≤ (2 ^ T 3)) => ?_) (fun (c126 : ¬ ((2 ^ T 3) ≤ (2 ^ T 3))) => (by exact absurd (Nat.le_refl _) c126))
    exact K σ' _ _ h1
  | d + 1, S, σ', o8, o9, hk, h1 => by
    refine ep_il t129_120 rfl ?_
    refine ep_aln t129_122 rfl ?_
    refine ep_cv t129_123 rfl rfl (Nat.le_of_ble_eq_true rfl) (Nat.le_of_ble_eq_true rfl) (cl_M_states (T := T) ((congrFun (h1 33 (by decide)) 3).trans (hT.1 3 (by decide))) hw.2.1) ?_
    refine ep_ifP t129_126 (ic_ge (by have := pow_le_256 hw.2.1; omega) (by have := pow_le_256 hw.2.1; omega)) (fun (c126 : (2 ^ T 3) ≤ S) => (by omega)) (fun (c126 : ¬ ((2 ^ T 3) ≤ S)) => ?_)
    have hS : S < 2 ^ T 3 := by omega
    have hcs : andN c S < 2 ^ T 3 := andN_le _ _ hc
    have hsb : andN S br < 2 ^ T 3 := andN_le _ _ hS
    have hlc := live_lt hw.1 c
    have hms : liveM T c &&& T 2 < 64 := and_lt hlc
    have hmn : andN (liveM T c &&& T 2) (liveM T (andN c S)) < 64 := andN_le (n := 6) _ _ hms
    have hx8 := pow_le_256 hw.2.1
    refine ep_il t129_129 rfl ?_
    refine ep_iln t129_131 rfl ?_
    refine ep_k1 (w := (-1)) t129_132 rfl ?_
    refine ep_xor t129_133 ?_
    refine ep_and t129_134 ?_
    refine ep_val (b := nI (andN S br)) (and_notG _ _) ?_
    refine ep_if0P t129_135 (ic0_ne (by have := pow_le_256 hw.2.1; omega)) (fun (c135 : ¬ (andN S br) = 0) => ?_) (fun (c135 : ¬ (¬ (andN S br) = 0)) => ?_)
    · refine ep_inc (b := nI (S + 1)) (L' := [some (.ref 31), some (.int (nI x)), o2, some (.int (nI br)), o4, some (.int (nI (liveM T c &&& T 2))), some (.int (nI (sumTo (wgt T c br (liveM T c &&& T 2) x) S))), some (.int (nI (S + 1))), o8, o9]) t129_231 rfl (nI_add S 1) rfl (Nat.le_of_ble_eq_true rfl) ?_
      refine ep_gt t129_234 ?_
      rw [wgt_no (T := T) (c := c) (br := br) (ms := liveM T c &&& T 2) (x := x) (S := S) (fun h => by first | exact c135 h.1 | exact c162 (andN_sub.mpr h.2))]
      exact L_od2 hT hw h31 hc e0 hbr hx K d (S + 1) σ' _ _ (by omega) h1
    · refine ep_il t129_138 rfl ?_
      refine ep_aln t129_140 rfl ?_
      refine ep_aln t129_141 rfl ?_
      refine ep_getr (q := 33) t129_142 rfl (Nat.le_of_ble_eq_true rfl) rfl (rfl) ?_
      refine ep_aln t129_145 rfl ?_
      refine ep_getr (q := 36) t129_146 rfl (Nat.le_of_ble_eq_true rfl) rfl (rfl) ?_
      refine ep_k1 (w := nI 0) t129_149 rfl ?_
      refine ep_aldN t129_150 rfl (Nat.le_of_ble_eq_true rfl) (Nat.ne_of_beq_eq_false rfl) (Nat.le_of_ble_eq_true rfl) (by have := pow_le_256 hw.2.1; omega) ?_
      refine ep_val (b := nI c) ((congrFun (h1 36 (by decide)) 0).trans e0) ?_
      refine ep_il t129_151 rfl ?_
      refine ep_k1 (w := (-1)) t129_153 rfl ?_
      refine ep_xor t129_154 ?_
      refine ep_and t129_155 ?_
      refine ep_val (b := nI (andN c S)) (and_notG _ _) ?_
      obtain ⟨v8, g8, hm8, σa, la, rfl, rfl, a1, -, -⟩ := cl_M_liveBy_33 (X := X) (q := q) (σ := σ') (T := T) (c := andN c S) (by rw [h1 33 (by decide)]; exact hT) hw h31 (by omega)
      have f1 : ∀ r, r ≠ 43 → σa r = σ r := fun r hr => (a1 r hr).trans (h1 r hr)
      refine ep_cv t129_156 rfl rfl (Nat.le_of_ble_eq_true rfl) (Nat.le_of_ble_eq_true rfl) (hm8) ?_
      refine ep_k1 (w := (-1)) t129_159 rfl ?_
      refine ep_xor t129_160 ?_
      refine ep_and t129_161 ?_
      refine ep_val (b := nI (andN (liveM T c &&& T 2) (liveM T (andN c S)))) (and_notG _ _) ?_
      refine ep_if0P t129_162 (ic0_ne (by have := pow_le_256 hw.2.1; omega)) (fun (c162 : ¬ (andN (liveM T c &&& T 2) (liveM T (andN c S))) = 0) => ?_) (fun (c162 : ¬ (¬ (andN (liveM T c &&& T 2) (liveM T (andN c S))) = 0)) => ?_)
      · refine ep_inc (b := nI (S + 1)) (L' := [some (.ref 31), some (.int (nI x)), o2, some (.int (nI br)), o4, some (.int (nI (liveM T c &&& T 2))), some (.int (nI (sumTo (wgt T c br (liveM T c &&& T 2) x) S))), some (.int (nI (S + 1))), o8, o9]) t129_231 rfl (nI_add S 1) rfl (Nat.le_of_ble_eq_true rfl) ?_
        refine ep_gt t129_234 ?_
        rw [wgt_no (T := T) (c := c) (br := br) (ms := liveM T c &&& T 2) (x := x) (S := S) (fun h => by first | exact c135 h.1 | exact c162 (andN_sub.mpr h.2))]
        exact L_od2 hT hw h31 hc e0 hbr hx K d (S + 1) σa _ _ (by omega) f1
      · refine ep_k1 (w := nI 1) t129_165 rfl ?_
        refine ep_is (L' := [some (.ref 31), some (.int (nI x)), o2, some (.int (nI br)), o4, some (.int (nI (liveM T c &&& T 2))), some (.int (nI (sumTo (wgt T c br (liveM T c &&& T 2) x) S))), some (.int (nI S)), some (.int (nI 1)), o9]) t129_166 rfl (Nat.le_of_ble_eq_true rfl) ?_
        refine ep_k1 (w := nI 0) t129_168 rfl ?_
        refine ep_is (L' := [some (.ref 31), some (.int (nI x)), o2, some (.int (nI br)), o4, some (.int (nI (liveM T c &&& T 2))), some (.int (nI (sumTo (wgt T c br (liveM T c &&& T 2) x) S))), some (.int (nI S)), some (.int (nI 1)), some (.int (nI 0))]) t129_169 rfl (Nat.le_of_ble_eq_true rfl) ?_
        refine L_od3 (S := S) hw ((congrFun (f1 33 (by decide)) 3).trans (hT.1 3 (by decide))) hbr hx hS (Classical.byContradiction c135) ?_ (T 3) 0 (by omega)
        refine ep_il t129_224 rfl ?_
        refine ep_il t129_226 rfl ?_
        refine ep_addN (a := sumTo (wgt T c br (liveM T c &&& T 2) x) S) (b := tmo x br S (T 3)) t129_228 ?_
        refine ep_is (L' := [some (.ref 31), some (.int (nI x)), o2, some (.int (nI br)), o4, some (.int (nI (liveM T c &&& T 2))), some (.int (nI ((sumTo (wgt T c br (liveM T c &&& T 2) x) S) + (tmo x br S (T 3))))), some (.int (nI S)), some (.int (nI (tmo x br S (T 3)))), some (.int (nI (T 3)))]) t129_229 rfl (Nat.le_of_ble_eq_true rfl) ?_
        refine ep_inc (b := nI (S + 1)) (L' := [some (.ref 31), some (.int (nI x)), o2, some (.int (nI br)), o4, some (.int (nI (liveM T c &&& T 2))), some (.int (nI ((sumTo (wgt T c br (liveM T c &&& T 2) x) S) + (tmo x br S (T 3))))), some (.int (nI (S + 1))), some (.int (nI (tmo x br S (T 3)))), some (.int (nI (T 3)))]) t129_231 rfl (nI_add S 1) rfl (Nat.le_of_ble_eq_true rfl) ?_
        refine ep_gt t129_234 ?_
        rw [tmo_top hbr hS hw.2.1, wgt_yes (T := T) (c := c) (br := br) (ms := liveM T c &&& T 2) (x := x) (S := S) (Classical.byContradiction c135) (andN_sub.mp (Classical.byContradiction c162))]
        exact L_od2 hT hw h31 hc e0 hbr hx K d (S + 1) σa _ _ (by omega) f1
theorem pr_odds {X : gX} {q : Bool} {σ : gT1} (hR : Rel q σ) (a : Int32) (b : Int32) : Pair X 127 129 [.int a, .int b] q σ := by
  have hR0 := hR
  obtain ⟨T, c, l, pr, hN, hW, hT, hO, hU, hI, hS⟩ := hR
  obtain ⟨⟨hwf0, hwf1⟩, ⟨hwf2, hwf3⟩, hwf4, hwf5, hwf6⟩ := hN.1
  have hB3 : σ (np q) 3 = nI (T 3) := hN.2.1.1 3 (by decide)
  have hB0 : σ (np q) 0 = nI (T 0) := hN.2.1.1 0 (by decide)
  have hM3 : σ 33 3 = nI (T 3) := hN.2.2.1 3 (by decide)
  have hM0 : σ 33 0 = nI (T 0) := hN.2.2.1 0 (by decide)
  obtain ⟨hsn, e4, e5, e25, e36⟩ := id hW
  obtain ⟨hc, hl, hp0, hp1, hp2⟩ := hsn.lt hwf4
  have hw0 := hN.1.w0
  have hx2 := pow_le_256 hwf4
  have hx3 : (2 : Nat) ^ T 0 ≤ 256 := pow_le_256 (by omega)
  have h31 : T 1 < 2147483648 := by omega
  have h32 : T 2 < 2147483648 := by omega
  have hl31 : l < 2147483648 := by omega
  have hpp := Nat.two_pow_pos (T 3)
  have hp : np q = 7 ∨ np q = 16 := by cases q <;> decide
  have hpr := hsn.2.2.2
  have ep2 : ∀ i, i < 3 → σ 36 (2 + i) = nI (pr i) := fun i hi => (e36 (2 + i) (by omega)).trans (by rw [Nat.add_comm 2 i]; rfl)
  have hlc := live_lt hwf1 c
  cases hia : inB a 0 10 with
  | false =>
    refine Pair.one (v := -1) hR0 ?_ (fun σ1 h1 => ?_)
    · cases q
      · refine ClP.of ⟨Nat.le_of_ble_eq_true rfl, rfl⟩ ?_
        show EvP X 127 0 [some (.ref 0), some (.int a), some (.int b), none, none, none, none] [] (47, g_rho false, σ) _
        refine ep_iln t127_0 rfl ?_
        refine ep_if0 t127_1 (fun (c1 : a < 0) => ?_) (fun (c1 : ¬ (a < 0)) => ?_)
        · refine ep_k1 (w := (-1)) t127_19 rfl ?_
          refine ep_ri t127_20 (fun h => absurd h (by decide)) ?_
          exact ⟨σ, rfl, rfl, fun _ _ _ => rfl⟩
        · refine ep_iln t127_4 rfl ?_
          refine ep_k2 (w := nI 10) t127_5 rfl ?_
          refine ep_if t127_7 (fun (c7 : (nI 10) < a) => ?_) (fun (c7 : ¬ ((nI 10) < a)) => (by exact absurd (inB_ok (x := 0) (y := 10) (by decide) (by decide) c1 c7) (by rw [hia]; decide)))
          refine ep_k1 (w := (-1)) t127_19 rfl ?_
          refine ep_ri t127_20 (fun h => absurd h (by decide)) ?_
          exact ⟨σ, rfl, rfl, fun _ _ _ => rfl⟩
      · refine ClP.of ⟨Nat.le_of_ble_eq_true rfl, rfl⟩ ?_
        show EvP X 127 0 [some (.ref 0), some (.int a), some (.int b), none, none, none, none] [] (47, g_rho true, σ) _
        refine ep_iln t127_0 rfl ?_
        refine ep_if0 t127_1 (fun (c1 : a < 0) => ?_) (fun (c1 : ¬ (a < 0)) => ?_)
        · refine ep_k1 (w := (-1)) t127_19 rfl ?_
          refine ep_ri t127_20 (fun h => absurd h (by decide)) ?_
          exact ⟨σ, rfl, rfl, fun _ _ _ => rfl⟩
        · refine ep_iln t127_4 rfl ?_
          refine ep_k2 (w := nI 10) t127_5 rfl ?_
          refine ep_if t127_7 (fun (c7 : (nI 10) < a) => ?_) (fun (c7 : ¬ ((nI 10) < a)) => (by exact absurd (inB_ok (x := 0) (y := 10) (by decide) (by decide) c1 c7) (by rw [hia]; decide)))
          refine ep_k1 (w := (-1)) t127_19 rfl ?_
          refine ep_ri t127_20 (fun h => absurd h (by decide)) ?_
          exact ⟨σ, rfl, rfl, fun _ _ _ => rfl⟩
    · have r : ∀ p, (p < 7 ∨ 30 < p) → σ1 p = σ p := fun p hp2 => h1 p (by omega) (by omega)
      refine ClP.of ⟨Nat.le_of_ble_eq_true rfl, rfl⟩ ?_
      show EvP X 129 0 [some (.ref 31), some (.int a), some (.int b), none, none, none, none, none, none, none] [] (47, g_rho q, σ1) _
      refine ep_aln t129_0 rfl ?_
      refine ep_k1 (w := nI 0) t129_1 rfl ?_
      refine ep_put t129_2 rfl (Nat.le_of_ble_eq_true rfl) rfl ?_
      refine ep_iln t129_5 rfl ?_
      refine ep_k1 (w := nI 0) t129_6 rfl ?_
      refine ep_k2 (w := nI 10) t129_7 rfl ?_
      refine ep_cs t129_9 (Nat.ne_of_beq_eq_false rfl) rfl (Nat.le_of_ble_eq_true rfl) (cl_M_inB _ (by decide) (by decide)) ?_
      refine ep_bF t129_12 (fun (c12 : (inB a 0 10) = false) => ?_) (fun (c12 : (inB a 0 10) = true) => (by exact absurd c12 (by rw [hia]; decide)))
      refine ep_k1 (w := (-1)) t129_24 rfl ?_
      refine ep_ri t129_25 (fun h => absurd h (by decide)) ?_
      exact ⟨g_up σ1 31 0 (nI 0), rfl, rfl, fun p a _ _ _ _ => g_up_ne a, fun k hk => g_up_j hk⟩
  | true =>
    obtain ⟨x, ⟨-, hx⟩, rfl⟩ := inB_of hia
    cases hib : inB b 0 1 with
    | false =>
      refine Pair.one (v := -1) hR0 ?_ (fun σ1 h1 => ?_)
      · cases q
        · refine ClP.of ⟨Nat.le_of_ble_eq_true rfl, rfl⟩ ?_
          show EvP X 127 0 [some (.ref 0), some (.int (nI x)), some (.int b), none, none, none, none] [] (47, g_rho false, σ) _
          refine ep_iln t127_0 rfl ?_
          refine ep_if0P t127_1 (ic0_lt (by omega)) (fun (c1 : x < 0) => (by omega)) (fun (c1 : ¬ (x < 0)) => ?_)
          refine ep_iln t127_4 rfl ?_
          refine ep_k2 (w := nI 10) t127_5 rfl ?_
          refine ep_ifP t127_7 (ic_gt (by omega) (by omega)) (fun (c7 : 10 < x) => (by omega)) (fun (c7 : ¬ (10 < x)) => ?_)
          refine ep_iln t127_10 rfl ?_
          refine ep_if0 t127_11 (fun (c11 : b < 0) => ?_) (fun (c11 : ¬ (b < 0)) => ?_)
          · refine ep_k1 (w := (-1)) t127_19 rfl ?_
            refine ep_ri t127_20 (fun h => absurd h (by decide)) ?_
            exact ⟨σ, rfl, rfl, fun _ _ _ => rfl⟩
          · refine ep_iln t127_14 rfl ?_
            refine ep_k1 (w := nI 1) t127_15 rfl ?_
            refine ep_if t127_16 (fun (c16 : b ≤ (nI 1)) => (by exact absurd (inB_ok (x := 0) (y := 1) (by decide) (by decide) c11 (Int32.not_lt.mpr c16)) (by rw [hib]; decide))) (fun (c16 : ¬ (b ≤ (nI 1))) => ?_)
            refine ep_k1 (w := (-1)) t127_19 rfl ?_
            refine ep_ri t127_20 (fun h => absurd h (by decide)) ?_
            exact ⟨σ, rfl, rfl, fun _ _ _ => rfl⟩
        · refine ClP.of ⟨Nat.le_of_ble_eq_true rfl, rfl⟩ ?_
          show EvP X 127 0 [some (.ref 0), some (.int (nI x)), some (.int b), none, none, none, none] [] (47, g_rho true, σ) _
          refine ep_iln t127_0 rfl ?_
          refine ep_if0P t127_1 (ic0_lt (by omega)) (fun (c1 : x < 0) => (by omega)) (fun (c1 : ¬ (x < 0)) => ?_)
          refine ep_iln t127_4 rfl ?_
          refine ep_k2 (w := nI 10) t127_5 rfl ?_
          refine ep_ifP t127_7 (ic_gt (by omega) (by omega)) (fun (c7 : 10 < x) => (by omega)) (fun (c7 : ¬ (10 < x)) => ?_)
          refine ep_iln t127_10 rfl ?_
          refine ep_if0 t127_11 (fun (c11 : b < 0) => ?_) (fun (c11 : ¬ (b < 0)) => ?_)
          · refine ep_k1 (w := (-1)) t127_19 rfl ?_
            refine ep_ri t127_20 (fun h => absurd h (by decide)) ?_
            exact ⟨σ, rfl, rfl, fun _ _ _ => rfl⟩
          · refine ep_iln t127_14 rfl ?_
            refine ep_k1 (w := nI 1) t127_15 rfl ?_
            refine ep_if t127_16 (fun (c16 : b ≤ (nI 1)) => (by exact absurd (inB_ok (x := 0) (y := 1) (by decide) (by decide) c11 (Int32.not_lt.mpr c16)) (by rw [hib]; decide))) (fun (c16 : ¬ (b ≤ (nI 1))) => ?_)
            refine ep_k1 (w := (-1)) t127_19 rfl ?_
            refine ep_ri t127_20 (fun h => absurd h (by decide)) ?_
            exact ⟨σ, rfl, rfl, fun _ _ _ => rfl⟩
      · have r : ∀ p, (p < 7 ∨ 30 < p) → σ1 p = σ p := fun p hp2 => h1 p (by omega) (by omega)
        refine ClP.of ⟨Nat.le_of_ble_eq_true rfl, rfl⟩ ?_
        show EvP X 129 0 [some (.ref 31), some (.int (nI x)), some (.int b), none, none, none, none, none, none, none] [] (47, g_rho q, σ1) _
        refine ep_aln t129_0 rfl ?_
        refine ep_k1 (w := nI 0) t129_1 rfl ?_
        refine ep_put t129_2 rfl (Nat.le_of_ble_eq_true rfl) rfl ?_
        refine ep_iln t129_5 rfl ?_
        refine ep_k1 (w := nI 0) t129_6 rfl ?_
        refine ep_k2 (w := nI 10) t129_7 rfl ?_
        refine ep_cs t129_9 (Nat.ne_of_beq_eq_false rfl) rfl (Nat.le_of_ble_eq_true rfl) (cl_M_inB _ (by decide) (by decide)) ?_
        refine ep_bF t129_12 (fun (c12 : (inB (nI x) 0 10) = false) => (by exact absurd c12 (by rw [hia]; decide))) (fun (c12 : (inB (nI x) 0 10) = true) => ?_)
        refine ep_iln t129_15 rfl ?_
        refine ep_k1 (w := nI 0) t129_16 rfl ?_
        refine ep_k1 (w := nI 1) t129_17 rfl ?_
        refine ep_cs t129_18 (Nat.ne_of_beq_eq_false rfl) rfl (Nat.le_of_ble_eq_true rfl) (cl_M_inB _ (by decide) (by decide)) ?_
        refine ep_bT t129_21 (fun (c21 : (inB b 0 1) = true) => (by exact absurd c21 (by rw [hib]; decide))) (fun (c21 : (inB b 0 1) = false) => ?_)
        refine ep_k1 (w := (-1)) t129_24 rfl ?_
        refine ep_ri t129_25 (fun h => absurd h (by decide)) ?_
        exact ⟨g_up σ1 31 0 (nI 0), rfl, rfl, fun p a _ _ _ _ => g_up_ne a, fun k hk => g_up_j hk⟩
    | true =>
      obtain ⟨t, ⟨-, ht⟩, rfl⟩ := inB_of hib
      have hbr : brk T c < 2 ^ T 3 := mk_lt _ _
      have hlo : 10 ^ pcn 8 (brk T c) ≤ 100000000 := ten_le (pcn_le _ 8)
      have hlp : 0 < 10 ^ pcn 8 (brk T c) := Nat.pow_pos (by decide)
      have hup : sumTo (wgt T c (brk T c) (liveM T c &&& T 2) x) (brk T c + 1) ≤ 10 ^ pcn 8 (brk T c) := wgt_le hx (by omega)
      have hmul : 10 ^ pcn 8 (brk T c) * (sumTo (wgt T c (brk T c) (liveM T c &&& T 2) x) (brk T c + 1)) < 2 ^ 54 := Nat.lt_of_le_of_lt (Nat.mul_le_mul hlo (Nat.le_trans hup hlo)) (by decide)
      have hG : 0 < Nat.gcd (10 ^ pcn 8 (brk T c)) (sumTo (wgt T c (brk T c) (liveM T c &&& T 2) x) (brk T c + 1)) := Nat.gcd_pos_of_pos_left _ hlp
      have hGl : Nat.gcd (10 ^ pcn 8 (brk T c)) (sumTo (wgt T c (brk T c) (liveM T c &&& T 2) x) (brk T c + 1)) ≤ 10 ^ pcn 8 (brk T c) := Nat.gcd_le_left _ hlp
      have hpc := pcn_le (brk T c) 8
      have hbr3 : pcn (T 3) (brk T c) = pcn 8 (brk T c) := (pcn_top hbr 8 hwf4).symm
      obtain rfl | rfl := (by omega : t = 0 ∨ t = 1)
      · refine Pair.one (v := nI ((sumTo (wgt T c (brk T c) (liveM T c &&& T 2) x) (brk T c + 1)) / (Nat.gcd (10 ^ pcn 8 (brk T c)) (sumTo (wgt T c (brk T c) (liveM T c &&& T 2) x) (brk T c + 1))))) hR0 ?_ (fun σ1 h1 => ?_)
        · cases q
          · refine ClP.of ⟨Nat.le_of_ble_eq_true rfl, rfl⟩ ?_
            show EvP X 127 0 [some (.ref 0), some (.int (nI x)), some (.int (nI 0)), none, none, none, none] [] (47, g_rho false, σ) _
            refine ep_iln t127_0 rfl ?_
            refine ep_if0P t127_1 (ic0_lt (by omega)) (fun (c1 : x < 0) => (by omega)) (fun (c1 : ¬ (x < 0)) => ?_)
            refine ep_iln t127_4 rfl ?_
            refine ep_k2 (w := nI 10) t127_5 rfl ?_
            refine ep_ifP t127_7 (ic_gt (by omega) (by omega)) (fun (c7 : 10 < x) => (by omega)) (fun (c7 : ¬ (10 < x)) => ?_)
            refine ep_iln t127_10 rfl ?_
            refine ep_if0P t127_11 (ic0_lt (by omega)) (fun (c11 : 0 < 0) => (by omega)) (fun (c11 : ¬ (0 < 0)) => ?_)
            refine ep_iln t127_14 rfl ?_
            refine ep_k1 (w := nI 1) t127_15 rfl ?_
            refine ep_ifP t127_16 (ic_le (by omega) (by omega)) (fun (c16 : 0 ≤ 1) => ?_) (fun (c16 : ¬ (0 ≤ 1)) => (by omega))
            refine ep_aln t127_21 rfl ?_
            refine ep_get t127_22 rfl (Nat.le_of_ble_eq_true rfl) rfl ?_
            refine ep_val (b := nI c) (e4) ?_
            refine ep_aln t127_25 rfl ?_
            refine ep_getr (q := 7) t127_26 rfl (Nat.le_of_ble_eq_true rfl) rfl (rfl) ?_
            refine ep_k1 (w := nI 0) t127_29 rfl ?_
            refine ep_cv t127_30 rfl rfl (Nat.le_of_ble_eq_true rfl) (Nat.le_of_ble_eq_true rfl) (cl_Net_ofKind_7 (T := T) hN.2.1 hw0) ?_
            refine ep_andN (a := c) (b := mk (T 3) (fun k => T (4 + k) = 0)) t127_33 ?_
            refine ep_val (b := nI (brk T c)) (congrArg nI brk_and) ?_
            refine ep_isn (L' := [some (.ref 0), some (.int (nI x)), some (.int (nI 0)), some (.int (nI (brk T c))), none, none, none]) t127_34 rfl (Nat.le_of_ble_eq_true rfl) ?_
            refine ep_k2 (w := nI 10) t127_35 rfl ?_
            refine ep_iln t127_37 rfl ?_
            refine ep_cs t127_38 (Nat.ne_of_beq_eq_false rfl) rfl (Nat.le_of_ble_eq_true rfl) (cl_bitCount (by omega)) ?_
            refine ep_cs t127_41 (Nat.ne_of_beq_eq_false rfl) rfl (Nat.le_of_ble_eq_true rfl) (cl_B_power (by omega)) ?_
            refine ep_is (L' := [some (.ref 0), some (.int (nI x)), some (.int (nI 0)), some (.int (nI (brk T c))), some (.int (nI (10 ^ pcn 8 (brk T c)))), none, none]) t127_44 rfl (Nat.le_of_ble_eq_true rfl) ?_
            refine ep_aln t127_46 rfl ?_
            refine ep_iln t127_47 rfl ?_
            refine ep_iln t127_48 rfl ?_
            refine ep_cv t127_49 rfl rfl (Nat.le_of_ble_eq_true rfl) (Nat.le_of_ble_eq_true rfl) (cl_B_ways_7 (T := T) (c := c) (br := brk T c) (x := x) hN.2.1 hw0 h32 hsn.1 e4 hbr hx) ?_
            refine ep_is (L' := [some (.ref 0), some (.int (nI x)), some (.int (nI 0)), some (.int (nI (brk T c))), some (.int (nI (10 ^ pcn 8 (brk T c)))), some (.int (nI (sumTo (wgt T c (brk T c) (liveM T c &&& T 2) x) (brk T c + 1)))), none]) t127_52 rfl (Nat.le_of_ble_eq_true rfl) ?_
            refine ep_il t127_54 rfl ?_
            refine ep_il t127_56 rfl ?_
            refine ep_cs t127_58 (Nat.ne_of_beq_eq_false rfl) rfl (Nat.le_of_ble_eq_true rfl) (cl_B_gcd hmul hup hlp (by omega)) ?_
            refine ep_is (L' := [some (.ref 0), some (.int (nI x)), some (.int (nI 0)), some (.int (nI (brk T c))), some (.int (nI (10 ^ pcn 8 (brk T c)))), some (.int (nI (sumTo (wgt T c (brk T c) (liveM T c &&& T 2) x) (brk T c + 1)))), some (.int (nI (Nat.gcd (10 ^ pcn 8 (brk T c)) (sumTo (wgt T c (brk T c) (liveM T c &&& T 2) x) (brk T c + 1)))))]) t127_61 rfl (Nat.le_of_ble_eq_true rfl) ?_
            refine ep_il t127_63 rfl ?_
            refine ep_if0P t127_65 (ic0_ne (by omega)) (fun (c65 : ¬ (Nat.gcd (10 ^ pcn 8 (brk T c)) (sumTo (wgt T c (brk T c) (liveM T c &&& T 2) x) (brk T c + 1))) = 0) => ?_) (fun (c65 : ¬ (¬ (Nat.gcd (10 ^ pcn 8 (brk T c)) (sumTo (wgt T c (brk T c) (liveM T c &&& T 2) x) (brk T c + 1))) = 0)) => (by omega))
            refine ep_iln t127_70 rfl ?_
            refine ep_if0P t127_71 (ic0_ne (by omega)) (fun (c71 : ¬ 0 = 0) => (by omega)) (fun (c71 : ¬ (¬ 0 = 0)) => ?_)
            refine ep_il t127_74 rfl ?_
            refine ep_gt t127_76 ?_
            refine ep_il t127_81 rfl ?_
            refine ep_divN (a := sumTo (wgt T c (brk T c) (liveM T c &&& T 2) x) (brk T c + 1)) (b := Nat.gcd (10 ^ pcn 8 (brk T c)) (sumTo (wgt T c (brk T c) (liveM T c &&& T 2) x) (brk T c + 1))) t127_83 (by omega) (by omega) (by omega) ?_
            refine ep_ri t127_84 (fun h => absurd h (by decide)) ?_
            exact ⟨σ, rfl, rfl, fun _ _ _ => rfl⟩
          · refine ClP.of ⟨Nat.le_of_ble_eq_true rfl, rfl⟩ ?_
            show EvP X 127 0 [some (.ref 0), some (.int (nI x)), some (.int (nI 0)), none, none, none, none] [] (47, g_rho true, σ) _
            refine ep_iln t127_0 rfl ?_
            refine ep_if0P t127_1 (ic0_lt (by omega)) (fun (c1 : x < 0) => (by omega)) (fun (c1 : ¬ (x < 0)) => ?_)
            refine ep_iln t127_4 rfl ?_
            refine ep_k2 (w := nI 10) t127_5 rfl ?_
            refine ep_ifP t127_7 (ic_gt (by omega) (by omega)) (fun (c7 : 10 < x) => (by omega)) (fun (c7 : ¬ (10 < x)) => ?_)
            refine ep_iln t127_10 rfl ?_
            refine ep_if0P t127_11 (ic0_lt (by omega)) (fun (c11 : 0 < 0) => (by omega)) (fun (c11 : ¬ (0 < 0)) => ?_)
            refine ep_iln t127_14 rfl ?_
            refine ep_k1 (w := nI 1) t127_15 rfl ?_
            refine ep_ifP t127_16 (ic_le (by omega) (by omega)) (fun (c16 : 0 ≤ 1) => ?_) (fun (c16 : ¬ (0 ≤ 1)) => (by omega))
            refine ep_aln t127_21 rfl ?_
            refine ep_get t127_22 rfl (Nat.le_of_ble_eq_true rfl) rfl ?_
            refine ep_val (b := nI c) (e4) ?_
            refine ep_aln t127_25 rfl ?_
            refine ep_getr (q := 16) t127_26 rfl (Nat.le_of_ble_eq_true rfl) rfl (rfl) ?_
            refine ep_k1 (w := nI 0) t127_29 rfl ?_
            refine ep_cv t127_30 rfl rfl (Nat.le_of_ble_eq_true rfl) (Nat.le_of_ble_eq_true rfl) (cl_Net_ofKind_16 (T := T) hN.2.1 hw0) ?_
            refine ep_andN (a := c) (b := mk (T 3) (fun k => T (4 + k) = 0)) t127_33 ?_
            refine ep_val (b := nI (brk T c)) (congrArg nI brk_and) ?_
            refine ep_isn (L' := [some (.ref 0), some (.int (nI x)), some (.int (nI 0)), some (.int (nI (brk T c))), none, none, none]) t127_34 rfl (Nat.le_of_ble_eq_true rfl) ?_
            refine ep_k2 (w := nI 10) t127_35 rfl ?_
            refine ep_iln t127_37 rfl ?_
            refine ep_cs t127_38 (Nat.ne_of_beq_eq_false rfl) rfl (Nat.le_of_ble_eq_true rfl) (cl_bitCount (by omega)) ?_
            refine ep_cs t127_41 (Nat.ne_of_beq_eq_false rfl) rfl (Nat.le_of_ble_eq_true rfl) (cl_B_power (by omega)) ?_
            refine ep_is (L' := [some (.ref 0), some (.int (nI x)), some (.int (nI 0)), some (.int (nI (brk T c))), some (.int (nI (10 ^ pcn 8 (brk T c)))), none, none]) t127_44 rfl (Nat.le_of_ble_eq_true rfl) ?_
            refine ep_aln t127_46 rfl ?_
            refine ep_iln t127_47 rfl ?_
            refine ep_iln t127_48 rfl ?_
            refine ep_cv t127_49 rfl rfl (Nat.le_of_ble_eq_true rfl) (Nat.le_of_ble_eq_true rfl) (cl_B_ways_16 (T := T) (c := c) (br := brk T c) (x := x) hN.2.1 hw0 h32 hsn.1 e4 hbr hx) ?_
            refine ep_is (L' := [some (.ref 0), some (.int (nI x)), some (.int (nI 0)), some (.int (nI (brk T c))), some (.int (nI (10 ^ pcn 8 (brk T c)))), some (.int (nI (sumTo (wgt T c (brk T c) (liveM T c &&& T 2) x) (brk T c + 1)))), none]) t127_52 rfl (Nat.le_of_ble_eq_true rfl) ?_
            refine ep_il t127_54 rfl ?_
            refine ep_il t127_56 rfl ?_
            refine ep_cs t127_58 (Nat.ne_of_beq_eq_false rfl) rfl (Nat.le_of_ble_eq_true rfl) (cl_B_gcd hmul hup hlp (by omega)) ?_
            refine ep_is (L' := [some (.ref 0), some (.int (nI x)), some (.int (nI 0)), some (.int (nI (brk T c))), some (.int (nI (10 ^ pcn 8 (brk T c)))), some (.int (nI (sumTo (wgt T c (brk T c) (liveM T c &&& T 2) x) (brk T c + 1)))), some (.int (nI (Nat.gcd (10 ^ pcn 8 (brk T c)) (sumTo (wgt T c (brk T c) (liveM T c &&& T 2) x) (brk T c + 1)))))]) t127_61 rfl (Nat.le_of_ble_eq_true rfl) ?_
            refine ep_il t127_63 rfl ?_
            refine ep_if0P t127_65 (ic0_ne (by omega)) (fun (c65 : ¬ (Nat.gcd (10 ^ pcn 8 (brk T c)) (sumTo (wgt T c (brk T c) (liveM T c &&& T 2) x) (brk T c + 1))) = 0) => ?_) (fun (c65 : ¬ (¬ (Nat.gcd (10 ^ pcn 8 (brk T c)) (sumTo (wgt T c (brk T c) (liveM T c &&& T 2) x) (brk T c + 1))) = 0)) => (by omega))
            refine ep_iln t127_70 rfl ?_
            refine ep_if0P t127_71 (ic0_ne (by omega)) (fun (c71 : ¬ 0 = 0) => (by omega)) (fun (c71 : ¬ (¬ 0 = 0)) => ?_)
            refine ep_il t127_74 rfl ?_
            refine ep_gt t127_76 ?_
            refine ep_il t127_81 rfl ?_
            refine ep_divN (a := sumTo (wgt T c (brk T c) (liveM T c &&& T 2) x) (brk T c + 1)) (b := Nat.gcd (10 ^ pcn 8 (brk T c)) (sumTo (wgt T c (brk T c) (liveM T c &&& T 2) x) (brk T c + 1))) t127_83 (by omega) (by omega) (by omega) ?_
            refine ep_ri t127_84 (fun h => absurd h (by decide)) ?_
            exact ⟨σ, rfl, rfl, fun _ _ _ => rfl⟩
        · have r : ∀ p, (p < 7 ∨ 30 < p) → σ1 p = σ p := fun p hp2 => h1 p (by omega) (by omega)
          refine ClP.of ⟨Nat.le_of_ble_eq_true rfl, rfl⟩ ?_
          show EvP X 129 0 [some (.ref 31), some (.int (nI x)), some (.int (nI 0)), none, none, none, none, none, none, none] [] (47, g_rho q, σ1) _
          refine ep_aln t129_0 rfl ?_
          refine ep_k1 (w := nI 0) t129_1 rfl ?_
          refine ep_put t129_2 rfl (Nat.le_of_ble_eq_true rfl) rfl ?_
          refine ep_iln t129_5 rfl ?_
          refine ep_k1 (w := nI 0) t129_6 rfl ?_
          refine ep_k2 (w := nI 10) t129_7 rfl ?_
          refine ep_cs t129_9 (Nat.ne_of_beq_eq_false rfl) rfl (Nat.le_of_ble_eq_true rfl) (cl_M_inB _ (by decide) (by decide)) ?_
          refine ep_bF t129_12 (fun (c12 : (inB (nI x) 0 10) = false) => (by exact absurd c12 (by rw [hia]; decide))) (fun (c12 : (inB (nI x) 0 10) = true) => ?_)
          refine ep_iln t129_15 rfl ?_
          refine ep_k1 (w := nI 0) t129_16 rfl ?_
          refine ep_k1 (w := nI 1) t129_17 rfl ?_
          refine ep_cs t129_18 (Nat.ne_of_beq_eq_false rfl) rfl (Nat.le_of_ble_eq_true rfl) (cl_M_inB _ (by decide) (by decide)) ?_
          refine ep_bT t129_21 (fun (c21 : (inB (nI 0) 0 1) = true) => ?_) (fun (c21 : (inB (nI 0) 0 1) = false) => (by exact absurd c21 (by rw [hib]; decide)))
          refine ep_k1 (w := nI 0) t129_26 rfl ?_
          refine ep_isn (L' := [some (.ref 31), some (.int (nI x)), some (.int (nI 0)), some (.int (nI 0)), none, none, none, none, none, none]) t129_27 rfl (Nat.le_of_ble_eq_true rfl) ?_
          refine ep_k1 (w := nI 1) t129_28 rfl ?_
          refine ep_is (L' := [some (.ref 31), some (.int (nI x)), some (.int (nI 0)), some (.int (nI 0)), some (.int (nI 1)), none, none, none, none, none]) t129_29 rfl (Nat.le_of_ble_eq_true rfl) ?_
          refine ep_k1 (w := nI 0) t129_31 rfl ?_
          refine ep_is (L' := [some (.ref 31), some (.int (nI x)), some (.int (nI 0)), some (.int (nI 0)), some (.int (nI 1)), some (.int (nI 0)), none, none, none, none]) t129_32 rfl (Nat.le_of_ble_eq_true rfl) ?_
          have hT1 : ToldM (g_up σ1 31 0 (nI 0) 33) T := by show ToldM (σ1 33) T; rw [r 33 (by decide)]; exact hN.2.2
          refine L_od1 (σ := g_up σ1 31 0 (nI 0)) (c := c) hT1 hw0 hsn.1 ((congrFun (r 36 (by decide)) 0).trans (e36 0 (by decide))) ?_ (T 3) 0 (by omega)
          refine ep_aln t129_91 rfl ?_
          refine ep_aln t129_92 rfl ?_
          refine ep_getr (q := 33) t129_93 rfl (Nat.le_of_ble_eq_true rfl) rfl (rfl) ?_
          refine ep_aln t129_96 rfl ?_
          refine ep_getr (q := 36) t129_97 rfl (Nat.le_of_ble_eq_true rfl) rfl (rfl) ?_
          refine ep_k1 (w := nI 0) t129_100 rfl ?_
          refine ep_aldN t129_101 rfl (Nat.le_of_ble_eq_true rfl) (Nat.ne_of_beq_eq_false rfl) (Nat.le_of_ble_eq_true rfl) (by omega) ?_
          refine ep_val (b := nI c) ((congrFun (r 36 (by decide)) 0).trans (e36 0 (by decide))) ?_
          obtain ⟨v8, g8, hm8, σa, la, rfl, rfl, a1, -, -⟩ := cl_M_liveBy_33 (X := X) (q := q) (σ := g_up σ1 31 0 (nI 0)) (T := T) (c := c) hT1 hw0 h31 (by omega)
          refine ep_cv t129_102 rfl rfl (Nat.le_of_ble_eq_true rfl) (Nat.le_of_ble_eq_true rfl) (hm8) ?_
          refine ep_aln t129_105 rfl ?_
          refine ep_getr (q := 33) t129_106 rfl (Nat.le_of_ble_eq_true rfl) rfl (rfl) ?_
          refine ep_k1 (w := nI 2) t129_109 rfl ?_
          refine ep_aldN t129_110 rfl (Nat.le_of_ble_eq_true rfl) (Nat.ne_of_beq_eq_false rfl) (Nat.le_of_ble_eq_true rfl) (by omega) ?_
          refine ep_val (b := nI (T 2)) ((congrFun (a1 33 (by decide)) 2).trans (hT1.1 2 (by decide))) ?_
          refine ep_andN (a := liveM T c) (b := T 2) t129_111 ?_
          refine ep_is (L' := [some (.ref 31), some (.int (nI x)), some (.int (nI 0)), some (.int (nI (mk (T 3) (fun k => c.testBit k = true ∧ T (4 + k) = 0)))), some (.int (nI (10 ^ pcn (T 3) (brk T c)))), some (.int (nI ((liveM T c) &&& (T 2)))), none, none, none, none]) t129_112 rfl (Nat.le_of_ble_eq_true rfl) ?_
          refine ep_k1 (w := nI 0) t129_114 rfl ?_
          refine ep_is (L' := [some (.ref 31), some (.int (nI x)), some (.int (nI 0)), some (.int (nI (mk (T 3) (fun k => c.testBit k = true ∧ T (4 + k) = 0)))), some (.int (nI (10 ^ pcn (T 3) (brk T c)))), some (.int (nI ((liveM T c) &&& (T 2)))), some (.int (nI 0)), none, none, none]) t129_115 rfl (Nat.le_of_ble_eq_true rfl) ?_
          refine ep_k1 (w := nI 0) t129_117 rfl ?_
          refine ep_is (L' := [some (.ref 31), some (.int (nI x)), some (.int (nI 0)), some (.int (nI (mk (T 3) (fun k => c.testBit k = true ∧ T (4 + k) = 0)))), some (.int (nI (10 ^ pcn (T 3) (brk T c)))), some (.int (nI ((liveM T c) &&& (T 2)))), some (.int (nI 0)), some (.int (nI 0)), none, none]) t129_118 rfl (Nat.le_of_ble_eq_true rfl) ?_
          refine L_od2 (σ := σa) (T := T) (c := c) (br := brk T c) (x := x) (by rw [a1 33 (by decide)]; exact hT1) hw0 h31 hsn.1 ((congrFun (a1 36 (by decide)) 0).trans ((congrFun (r 36 (by decide)) 0).trans (e36 0 (by decide)))) hbr hx (fun σ3 p8 p9 f1 => ?_) (2 ^ T 3) 0 σa none none (by omega) (fun _ _ => rfl)
          rw [hbr3, wgt_all hbr]
          refine ep_il t129_237 rfl ?_
          refine ep_il t129_239 rfl ?_
          have hgc := cl_M_gcd (X := X) (g := (47, g_rho q, σ3)) (a := sumTo (wgt T c (brk T c) (liveM T c &&& T 2) x) (brk T c + 1)) (b := 10 ^ pcn 8 (brk T c)) (by omega) (by omega)
          rw [Nat.gcd_comm] at hgc
          refine ep_cs t129_241 (Nat.ne_of_beq_eq_false rfl) rfl (Nat.le_of_ble_eq_true rfl) (hgc) ?_
          refine ep_is (L' := [some (.ref 31), some (.int (nI x)), some (.int (nI 0)), some (.int (nI (brk T c))), some (.int (nI (10 ^ pcn 8 (brk T c)))), some (.int (nI (liveM T c &&& T 2))), some (.int (nI (sumTo (wgt T c (brk T c) (liveM T c &&& T 2) x) (brk T c + 1)))), some (.int (nI (Nat.gcd (10 ^ pcn 8 (brk T c)) (sumTo (wgt T c (brk T c) (liveM T c &&& T 2) x) (brk T c + 1))))), p8, p9]) t129_244 rfl (Nat.le_of_ble_eq_true rfl) ?_
          refine ep_iln t129_246 rfl ?_
          refine ep_if0P t129_247 (ic0_ne (by omega)) (fun (c247 : ¬ 0 = 0) => (by omega)) (fun (c247 : ¬ (¬ 0 = 0)) => ?_)
          refine ep_il t129_250 rfl ?_
          refine ep_il t129_252 rfl ?_
          refine ep_divN (a := sumTo (wgt T c (brk T c) (liveM T c &&& T 2) x) (brk T c + 1)) (b := Nat.gcd (10 ^ pcn 8 (brk T c)) (sumTo (wgt T c (brk T c) (liveM T c &&& T 2) x) (brk T c + 1))) t129_254 (by omega) (by omega) (by omega) ?_
          refine ep_gt t129_255 ?_
          refine ep_ri t129_263 (fun h => absurd h (by decide)) ?_
          exact ⟨σ3, rfl, rfl, fun p a b _ _ _ => (f1 p b).trans ((a1 p b).trans (g_up_ne a)), fun k hk => (congrFun (f1 31 (by decide)) k).trans ((congrFun (a1 31 (by decide)) k).trans (g_up_j hk))⟩
      · refine Pair.one (v := nI ((10 ^ pcn 8 (brk T c)) / (Nat.gcd (10 ^ pcn 8 (brk T c)) (sumTo (wgt T c (brk T c) (liveM T c &&& T 2) x) (brk T c + 1))))) hR0 ?_ (fun σ1 h1 => ?_)
        · cases q
          · refine ClP.of ⟨Nat.le_of_ble_eq_true rfl, rfl⟩ ?_
            show EvP X 127 0 [some (.ref 0), some (.int (nI x)), some (.int (nI 1)), none, none, none, none] [] (47, g_rho false, σ) _
            refine ep_iln t127_0 rfl ?_
            refine ep_if0P t127_1 (ic0_lt (by omega)) (fun (c1 : x < 0) => (by omega)) (fun (c1 : ¬ (x < 0)) => ?_)
            refine ep_iln t127_4 rfl ?_
            refine ep_k2 (w := nI 10) t127_5 rfl ?_
            refine ep_ifP t127_7 (ic_gt (by omega) (by omega)) (fun (c7 : 10 < x) => (by omega)) (fun (c7 : ¬ (10 < x)) => ?_)
            refine ep_iln t127_10 rfl ?_
            refine ep_if0P t127_11 (ic0_lt (by omega)) (fun (c11 : 1 < 0) => (by omega)) (fun (c11 : ¬ (1 < 0)) => ?_)
            refine ep_iln t127_14 rfl ?_
            refine ep_k1 (w := nI 1) t127_15 rfl ?_
            refine ep_ifP t127_16 (ic_le (by omega) (by omega)) (fun (c16 : 1 ≤ 1) => ?_) (fun (c16 : ¬ (1 ≤ 1)) => (by omega))
            refine ep_aln t127_21 rfl ?_
            refine ep_get t127_22 rfl (Nat.le_of_ble_eq_true rfl) rfl ?_
            refine ep_val (b := nI c) (e4) ?_
            refine ep_aln t127_25 rfl ?_
            refine ep_getr (q := 7) t127_26 rfl (Nat.le_of_ble_eq_true rfl) rfl (rfl) ?_
            refine ep_k1 (w := nI 0) t127_29 rfl ?_
            refine ep_cv t127_30 rfl rfl (Nat.le_of_ble_eq_true rfl) (Nat.le_of_ble_eq_true rfl) (cl_Net_ofKind_7 (T := T) hN.2.1 hw0) ?_
            refine ep_andN (a := c) (b := mk (T 3) (fun k => T (4 + k) = 0)) t127_33 ?_
            refine ep_val (b := nI (brk T c)) (congrArg nI brk_and) ?_
            refine ep_isn (L' := [some (.ref 0), some (.int (nI x)), some (.int (nI 1)), some (.int (nI (brk T c))), none, none, none]) t127_34 rfl (Nat.le_of_ble_eq_true rfl) ?_
            refine ep_k2 (w := nI 10) t127_35 rfl ?_
            refine ep_iln t127_37 rfl ?_
            refine ep_cs t127_38 (Nat.ne_of_beq_eq_false rfl) rfl (Nat.le_of_ble_eq_true rfl) (cl_bitCount (by omega)) ?_
            refine ep_cs t127_41 (Nat.ne_of_beq_eq_false rfl) rfl (Nat.le_of_ble_eq_true rfl) (cl_B_power (by omega)) ?_
            refine ep_is (L' := [some (.ref 0), some (.int (nI x)), some (.int (nI 1)), some (.int (nI (brk T c))), some (.int (nI (10 ^ pcn 8 (brk T c)))), none, none]) t127_44 rfl (Nat.le_of_ble_eq_true rfl) ?_
            refine ep_aln t127_46 rfl ?_
            refine ep_iln t127_47 rfl ?_
            refine ep_iln t127_48 rfl ?_
            refine ep_cv t127_49 rfl rfl (Nat.le_of_ble_eq_true rfl) (Nat.le_of_ble_eq_true rfl) (cl_B_ways_7 (T := T) (c := c) (br := brk T c) (x := x) hN.2.1 hw0 h32 hsn.1 e4 hbr hx) ?_
            refine ep_is (L' := [some (.ref 0), some (.int (nI x)), some (.int (nI 1)), some (.int (nI (brk T c))), some (.int (nI (10 ^ pcn 8 (brk T c)))), some (.int (nI (sumTo (wgt T c (brk T c) (liveM T c &&& T 2) x) (brk T c + 1)))), none]) t127_52 rfl (Nat.le_of_ble_eq_true rfl) ?_
            refine ep_il t127_54 rfl ?_
            refine ep_il t127_56 rfl ?_
            refine ep_cs t127_58 (Nat.ne_of_beq_eq_false rfl) rfl (Nat.le_of_ble_eq_true rfl) (cl_B_gcd hmul hup hlp (by omega)) ?_
            refine ep_is (L' := [some (.ref 0), some (.int (nI x)), some (.int (nI 1)), some (.int (nI (brk T c))), some (.int (nI (10 ^ pcn 8 (brk T c)))), some (.int (nI (sumTo (wgt T c (brk T c) (liveM T c &&& T 2) x) (brk T c + 1)))), some (.int (nI (Nat.gcd (10 ^ pcn 8 (brk T c)) (sumTo (wgt T c (brk T c) (liveM T c &&& T 2) x) (brk T c + 1)))))]) t127_61 rfl (Nat.le_of_ble_eq_true rfl) ?_
            refine ep_il t127_63 rfl ?_
            refine ep_if0P t127_65 (ic0_ne (by omega)) (fun (c65 : ¬ (Nat.gcd (10 ^ pcn 8 (brk T c)) (sumTo (wgt T c (brk T c) (liveM T c &&& T 2) x) (brk T c + 1))) = 0) => ?_) (fun (c65 : ¬ (¬ (Nat.gcd (10 ^ pcn 8 (brk T c)) (sumTo (wgt T c (brk T c) (liveM T c &&& T 2) x) (brk T c + 1))) = 0)) => (by omega))
            refine ep_iln t127_70 rfl ?_
            refine ep_if0P t127_71 (ic0_ne (by omega)) (fun (c71 : ¬ 1 = 0) => ?_) (fun (c71 : ¬ (¬ 1 = 0)) => (by omega))
            refine ep_il t127_79 rfl ?_
            refine ep_il t127_81 rfl ?_
            refine ep_divN (a := 10 ^ pcn 8 (brk T c)) (b := Nat.gcd (10 ^ pcn 8 (brk T c)) (sumTo (wgt T c (brk T c) (liveM T c &&& T 2) x) (brk T c + 1))) t127_83 (by omega) (by omega) (by omega) ?_
            refine ep_ri t127_84 (fun h => absurd h (by decide)) ?_
            exact ⟨σ, rfl, rfl, fun _ _ _ => rfl⟩
          · refine ClP.of ⟨Nat.le_of_ble_eq_true rfl, rfl⟩ ?_
            show EvP X 127 0 [some (.ref 0), some (.int (nI x)), some (.int (nI 1)), none, none, none, none] [] (47, g_rho true, σ) _
            refine ep_iln t127_0 rfl ?_
            refine ep_if0P t127_1 (ic0_lt (by omega)) (fun (c1 : x < 0) => (by omega)) (fun (c1 : ¬ (x < 0)) => ?_)
            refine ep_iln t127_4 rfl ?_
            refine ep_k2 (w := nI 10) t127_5 rfl ?_
            refine ep_ifP t127_7 (ic_gt (by omega) (by omega)) (fun (c7 : 10 < x) => (by omega)) (fun (c7 : ¬ (10 < x)) => ?_)
            refine ep_iln t127_10 rfl ?_
            refine ep_if0P t127_11 (ic0_lt (by omega)) (fun (c11 : 1 < 0) => (by omega)) (fun (c11 : ¬ (1 < 0)) => ?_)
            refine ep_iln t127_14 rfl ?_
            refine ep_k1 (w := nI 1) t127_15 rfl ?_
            refine ep_ifP t127_16 (ic_le (by omega) (by omega)) (fun (c16 : 1 ≤ 1) => ?_) (fun (c16 : ¬ (1 ≤ 1)) => (by omega))
            refine ep_aln t127_21 rfl ?_
            refine ep_get t127_22 rfl (Nat.le_of_ble_eq_true rfl) rfl ?_
            refine ep_val (b := nI c) (e4) ?_
            refine ep_aln t127_25 rfl ?_
            refine ep_getr (q := 16) t127_26 rfl (Nat.le_of_ble_eq_true rfl) rfl (rfl) ?_
            refine ep_k1 (w := nI 0) t127_29 rfl ?_
            refine ep_cv t127_30 rfl rfl (Nat.le_of_ble_eq_true rfl) (Nat.le_of_ble_eq_true rfl) (cl_Net_ofKind_16 (T := T) hN.2.1 hw0) ?_
            refine ep_andN (a := c) (b := mk (T 3) (fun k => T (4 + k) = 0)) t127_33 ?_
            refine ep_val (b := nI (brk T c)) (congrArg nI brk_and) ?_
            refine ep_isn (L' := [some (.ref 0), some (.int (nI x)), some (.int (nI 1)), some (.int (nI (brk T c))), none, none, none]) t127_34 rfl (Nat.le_of_ble_eq_true rfl) ?_
            refine ep_k2 (w := nI 10) t127_35 rfl ?_
            refine ep_iln t127_37 rfl ?_
            refine ep_cs t127_38 (Nat.ne_of_beq_eq_false rfl) rfl (Nat.le_of_ble_eq_true rfl) (cl_bitCount (by omega)) ?_
            refine ep_cs t127_41 (Nat.ne_of_beq_eq_false rfl) rfl (Nat.le_of_ble_eq_true rfl) (cl_B_power (by omega)) ?_
            refine ep_is (L' := [some (.ref 0), some (.int (nI x)), some (.int (nI 1)), some (.int (nI (brk T c))), some (.int (nI (10 ^ pcn 8 (brk T c)))), none, none]) t127_44 rfl (Nat.le_of_ble_eq_true rfl) ?_
            refine ep_aln t127_46 rfl ?_
            refine ep_iln t127_47 rfl ?_
            refine ep_iln t127_48 rfl ?_
            refine ep_cv t127_49 rfl rfl (Nat.le_of_ble_eq_true rfl) (Nat.le_of_ble_eq_true rfl) (cl_B_ways_16 (T := T) (c := c) (br := brk T c) (x := x) hN.2.1 hw0 h32 hsn.1 e4 hbr hx) ?_
            refine ep_is (L' := [some (.ref 0), some (.int (nI x)), some (.int (nI 1)), some (.int (nI (brk T c))), some (.int (nI (10 ^ pcn 8 (brk T c)))), some (.int (nI (sumTo (wgt T c (brk T c) (liveM T c &&& T 2) x) (brk T c + 1)))), none]) t127_52 rfl (Nat.le_of_ble_eq_true rfl) ?_
            refine ep_il t127_54 rfl ?_
            refine ep_il t127_56 rfl ?_
            refine ep_cs t127_58 (Nat.ne_of_beq_eq_false rfl) rfl (Nat.le_of_ble_eq_true rfl) (cl_B_gcd hmul hup hlp (by omega)) ?_
            refine ep_is (L' := [some (.ref 0), some (.int (nI x)), some (.int (nI 1)), some (.int (nI (brk T c))), some (.int (nI (10 ^ pcn 8 (brk T c)))), some (.int (nI (sumTo (wgt T c (brk T c) (liveM T c &&& T 2) x) (brk T c + 1)))), some (.int (nI (Nat.gcd (10 ^ pcn 8 (brk T c)) (sumTo (wgt T c (brk T c) (liveM T c &&& T 2) x) (brk T c + 1)))))]) t127_61 rfl (Nat.le_of_ble_eq_true rfl) ?_
            refine ep_il t127_63 rfl ?_
            refine ep_if0P t127_65 (ic0_ne (by omega)) (fun (c65 : ¬ (Nat.gcd (10 ^ pcn 8 (brk T c)) (sumTo (wgt T c (brk T c) (liveM T c &&& T 2) x) (brk T c + 1))) = 0) => ?_) (fun (c65 : ¬ (¬ (Nat.gcd (10 ^ pcn 8 (brk T c)) (sumTo (wgt T c (brk T c) (liveM T c &&& T 2) x) (brk T c + 1))) = 0)) => (by omega))
            refine ep_iln t127_70 rfl ?_
            refine ep_if0P t127_71 (ic0_ne (by omega)) (fun (c71 : ¬ 1 = 0) => ?_) (fun (c71 : ¬ (¬ 1 = 0)) => (by omega))
            refine ep_il t127_79 rfl ?_
            refine ep_il t127_81 rfl ?_
            refine ep_divN (a := 10 ^ pcn 8 (brk T c)) (b := Nat.gcd (10 ^ pcn 8 (brk T c)) (sumTo (wgt T c (brk T c) (liveM T c &&& T 2) x) (brk T c + 1))) t127_83 (by omega) (by omega) (by omega) ?_
            refine ep_ri t127_84 (fun h => absurd h (by decide)) ?_
            exact ⟨σ, rfl, rfl, fun _ _ _ => rfl⟩
        · have r : ∀ p, (p < 7 ∨ 30 < p) → σ1 p = σ p := fun p hp2 => h1 p (by omega) (by omega)
          refine ClP.of ⟨Nat.le_of_ble_eq_true rfl, rfl⟩ ?_
          show EvP X 129 0 [some (.ref 31), some (.int (nI x)), some (.int (nI 1)), none, none, none, none, none, none, none] [] (47, g_rho q, σ1) _
          refine ep_aln t129_0 rfl ?_
          refine ep_k1 (w := nI 0) t129_1 rfl ?_
          refine ep_put t129_2 rfl (Nat.le_of_ble_eq_true rfl) rfl ?_
          refine ep_iln t129_5 rfl ?_
          refine ep_k1 (w := nI 0) t129_6 rfl ?_
          refine ep_k2 (w := nI 10) t129_7 rfl ?_
          refine ep_cs t129_9 (Nat.ne_of_beq_eq_false rfl) rfl (Nat.le_of_ble_eq_true rfl) (cl_M_inB _ (by decide) (by decide)) ?_
          refine ep_bF t129_12 (fun (c12 : (inB (nI x) 0 10) = false) => (by exact absurd c12 (by rw [hia]; decide))) (fun (c12 : (inB (nI x) 0 10) = true) => ?_)
          refine ep_iln t129_15 rfl ?_
          refine ep_k1 (w := nI 0) t129_16 rfl ?_
          refine ep_k1 (w := nI 1) t129_17 rfl ?_
          refine ep_cs t129_18 (Nat.ne_of_beq_eq_false rfl) rfl (Nat.le_of_ble_eq_true rfl) (cl_M_inB _ (by decide) (by decide)) ?_
          refine ep_bT t129_21 (fun (c21 : (inB (nI 1) 0 1) = true) => ?_) (fun (c21 : (inB (nI 1) 0 1) = false) => (by exact absurd c21 (by rw [hib]; decide)))
          refine ep_k1 (w := nI 0) t129_26 rfl ?_
          refine ep_isn (L' := [some (.ref 31), some (.int (nI x)), some (.int (nI 1)), some (.int (nI 0)), none, none, none, none, none, none]) t129_27 rfl (Nat.le_of_ble_eq_true rfl) ?_
          refine ep_k1 (w := nI 1) t129_28 rfl ?_
          refine ep_is (L' := [some (.ref 31), some (.int (nI x)), some (.int (nI 1)), some (.int (nI 0)), some (.int (nI 1)), none, none, none, none, none]) t129_29 rfl (Nat.le_of_ble_eq_true rfl) ?_
          refine ep_k1 (w := nI 0) t129_31 rfl ?_
          refine ep_is (L' := [some (.ref 31), some (.int (nI x)), some (.int (nI 1)), some (.int (nI 0)), some (.int (nI 1)), some (.int (nI 0)), none, none, none, none]) t129_32 rfl (Nat.le_of_ble_eq_true rfl) ?_
          have hT1 : ToldM (g_up σ1 31 0 (nI 0) 33) T := by show ToldM (σ1 33) T; rw [r 33 (by decide)]; exact hN.2.2
          refine L_od1 (σ := g_up σ1 31 0 (nI 0)) (c := c) hT1 hw0 hsn.1 ((congrFun (r 36 (by decide)) 0).trans (e36 0 (by decide))) ?_ (T 3) 0 (by omega)
          refine ep_aln t129_91 rfl ?_
          refine ep_aln t129_92 rfl ?_
          refine ep_getr (q := 33) t129_93 rfl (Nat.le_of_ble_eq_true rfl) rfl (rfl) ?_
          refine ep_aln t129_96 rfl ?_
          refine ep_getr (q := 36) t129_97 rfl (Nat.le_of_ble_eq_true rfl) rfl (rfl) ?_
          refine ep_k1 (w := nI 0) t129_100 rfl ?_
          refine ep_aldN t129_101 rfl (Nat.le_of_ble_eq_true rfl) (Nat.ne_of_beq_eq_false rfl) (Nat.le_of_ble_eq_true rfl) (by omega) ?_
          refine ep_val (b := nI c) ((congrFun (r 36 (by decide)) 0).trans (e36 0 (by decide))) ?_
          obtain ⟨v8, g8, hm8, σa, la, rfl, rfl, a1, -, -⟩ := cl_M_liveBy_33 (X := X) (q := q) (σ := g_up σ1 31 0 (nI 0)) (T := T) (c := c) hT1 hw0 h31 (by omega)
          refine ep_cv t129_102 rfl rfl (Nat.le_of_ble_eq_true rfl) (Nat.le_of_ble_eq_true rfl) (hm8) ?_
          refine ep_aln t129_105 rfl ?_
          refine ep_getr (q := 33) t129_106 rfl (Nat.le_of_ble_eq_true rfl) rfl (rfl) ?_
          refine ep_k1 (w := nI 2) t129_109 rfl ?_
          refine ep_aldN t129_110 rfl (Nat.le_of_ble_eq_true rfl) (Nat.ne_of_beq_eq_false rfl) (Nat.le_of_ble_eq_true rfl) (by omega) ?_
          refine ep_val (b := nI (T 2)) ((congrFun (a1 33 (by decide)) 2).trans (hT1.1 2 (by decide))) ?_
          refine ep_andN (a := liveM T c) (b := T 2) t129_111 ?_
          refine ep_is (L' := [some (.ref 31), some (.int (nI x)), some (.int (nI 1)), some (.int (nI (mk (T 3) (fun k => c.testBit k = true ∧ T (4 + k) = 0)))), some (.int (nI (10 ^ pcn (T 3) (brk T c)))), some (.int (nI ((liveM T c) &&& (T 2)))), none, none, none, none]) t129_112 rfl (Nat.le_of_ble_eq_true rfl) ?_
          refine ep_k1 (w := nI 0) t129_114 rfl ?_
          refine ep_is (L' := [some (.ref 31), some (.int (nI x)), some (.int (nI 1)), some (.int (nI (mk (T 3) (fun k => c.testBit k = true ∧ T (4 + k) = 0)))), some (.int (nI (10 ^ pcn (T 3) (brk T c)))), some (.int (nI ((liveM T c) &&& (T 2)))), some (.int (nI 0)), none, none, none]) t129_115 rfl (Nat.le_of_ble_eq_true rfl) ?_
          refine ep_k1 (w := nI 0) t129_117 rfl ?_
          refine ep_is (L' := [some (.ref 31), some (.int (nI x)), some (.int (nI 1)), some (.int (nI (mk (T 3) (fun k => c.testBit k = true ∧ T (4 + k) = 0)))), some (.int (nI (10 ^ pcn (T 3) (brk T c)))), some (.int (nI ((liveM T c) &&& (T 2)))), some (.int (nI 0)), some (.int (nI 0)), none, none]) t129_118 rfl (Nat.le_of_ble_eq_true rfl) ?_
          refine L_od2 (σ := σa) (T := T) (c := c) (br := brk T c) (x := x) (by rw [a1 33 (by decide)]; exact hT1) hw0 h31 hsn.1 ((congrFun (a1 36 (by decide)) 0).trans ((congrFun (r 36 (by decide)) 0).trans (e36 0 (by decide)))) hbr hx (fun σ3 p8 p9 f1 => ?_) (2 ^ T 3) 0 σa none none (by omega) (fun _ _ => rfl)
          rw [hbr3, wgt_all hbr]
          refine ep_il t129_237 rfl ?_
          refine ep_il t129_239 rfl ?_
          have hgc := cl_M_gcd (X := X) (g := (47, g_rho q, σ3)) (a := sumTo (wgt T c (brk T c) (liveM T c &&& T 2) x) (brk T c + 1)) (b := 10 ^ pcn 8 (brk T c)) (by omega) (by omega)
          rw [Nat.gcd_comm] at hgc
          refine ep_cs t129_241 (Nat.ne_of_beq_eq_false rfl) rfl (Nat.le_of_ble_eq_true rfl) (hgc) ?_
          refine ep_is (L' := [some (.ref 31), some (.int (nI x)), some (.int (nI 1)), some (.int (nI (brk T c))), some (.int (nI (10 ^ pcn 8 (brk T c)))), some (.int (nI (liveM T c &&& T 2))), some (.int (nI (sumTo (wgt T c (brk T c) (liveM T c &&& T 2) x) (brk T c + 1)))), some (.int (nI (Nat.gcd (10 ^ pcn 8 (brk T c)) (sumTo (wgt T c (brk T c) (liveM T c &&& T 2) x) (brk T c + 1))))), p8, p9]) t129_244 rfl (Nat.le_of_ble_eq_true rfl) ?_
          refine ep_iln t129_246 rfl ?_
          refine ep_if0P t129_247 (ic0_ne (by omega)) (fun (c247 : ¬ 1 = 0) => ?_) (fun (c247 : ¬ (¬ 1 = 0)) => (by omega))
          refine ep_il t129_258 rfl ?_
          refine ep_il t129_260 rfl ?_
          refine ep_divN (a := 10 ^ pcn 8 (brk T c)) (b := Nat.gcd (10 ^ pcn 8 (brk T c)) (sumTo (wgt T c (brk T c) (liveM T c &&& T 2) x) (brk T c + 1))) t129_262 (by omega) (by omega) (by omega) ?_
          refine ep_ri t129_263 (fun h => absurd h (by decide)) ?_
          exact ⟨σ3, rfl, rfl, fun p a b _ _ _ => (f1 p b).trans ((a1 p b).trans (g_up_ne a)), fun k hk => (congrFun (f1 31 (by decide)) k).trans ((congrFun (a1 31 (by decide)) k).trans (g_up_j hk))⟩
