/-! The class: parts; pair node. -/
noncomputable def pm (T : Nat → Nat) (c j u : Nat) : Nat := mk (T 0) (fun v => Cnj T c j u v)
theorem pm_lt {T : Nat → Nat} (h : T 0 ≤ 6) (c j u : Nat) : pm T c j u < 64 := Nat.lt_of_lt_of_le (mk_lt _ _) (Nat.le_trans (Nat.pow_le_pow_right (by decide) h) (by decide))
theorem pm_zero {T : Nat → Nat} {c u : Nat} (hu : u < T 0) : 2 ^ u = pm T c 0 u := mk_eq (fun i => by
  rw [Nat.testBit_two_pow, decide_eq_true_eq]
  constructor
  · intro h
    exact ⟨by omega, h ▸ Cnj.rf⟩
  · intro h
    exact h.2.zero)
theorem pm_skip {T : Nat → Nat} {c j u : Nat} (ha : ¬ t_act T c j) : pm T c j u = pm T c (j + 1) u := mk_congr (fun i _ => ⟨fun h => h.mono (Nat.le_succ j), fun h => h.skip ha⟩)
theorem or_lt64 {a b : Nat} (ha : a < 64) (hb : b < 64) : a ||| b < 64 := Nat.or_lt_two_pow (n := 6) ha hb
theorem pm_in {T : Nat → Nat} {c j u : Nat} (hu : u < T 0) (ha : t_act T c j) (h : (pm T c j (T (20 + j)) ||| pm T c j (T (28 + j))).testBit u = true) : pm T c j (T (20 + j)) ||| pm T c j (T (28 + j)) = pm T c (j + 1) u := by
  have key : ∀ i, (pm T c j (T (20 + j)) ||| pm T c j (T (28 + j))).testBit i = true ↔ i < T 0 ∧ (Cnj T c j (T (20 + j)) i ∨ Cnj T c j (T (28 + j)) i) := fun i => by
    rw [Nat.testBit_or, Bool.or_eq_true]
    unfold pm
    rw [mk_bit, mk_bit]
    constructor
    · rintro (⟨h1, h2⟩ | ⟨h1, h2⟩)
      · exact ⟨h1, Or.inl h2⟩
      · exact ⟨h1, Or.inr h2⟩
    · rintro ⟨h1, h2 | h2⟩
      · exact Or.inl ⟨h1, h2⟩
      · exact Or.inr ⟨h1, h2⟩
  have he : Cnj T c (j + 1) (T (20 + j)) (T (28 + j)) := Cnj.ed (Nat.lt_succ_self j) ha
  have hm : ∀ {a b : Nat}, Cnj T c j a b → Cnj T c (j + 1) a b := fun h => h.mono (Nat.le_succ j)
  have huf : Cnj T c (j + 1) u (T (20 + j)) := by
    rcases ((key u).mp h).2 with g | g
    · exact (hm g).sy
    · exact (hm g).sy.tr he.sy
  refine mk_eq (fun i => (key i).trans ⟨fun ⟨h1, h2⟩ => ⟨h1, ?_⟩, fun ⟨h1, h2⟩ => ⟨h1, ?_⟩⟩)
  · rcases h2 with g | g
    · exact huf.tr (hm g)
    · exact huf.tr (he.tr (hm g))
  · rcases h2.step with g | ⟨_, g⟩ | ⟨_, g⟩
    · rcases ((key u).mp h).2 with z | z
      · exact Or.inl (z.tr g)
      · exact Or.inr (z.tr g)
    · exact Or.inr g
    · exact Or.inl g
theorem pm_out {T : Nat → Nat} {c j u : Nat} (hu : u < T 0) (h : ¬ (pm T c j (T (20 + j)) ||| pm T c j (T (28 + j))).testBit u = true) : pm T c j u = pm T c (j + 1) u := by
  have key : ∀ a, (Cnj T c j a u → (a = T (20 + j) ∨ a = T (28 + j)) → False) := fun a g ea => h (by
    rw [Nat.testBit_or, Bool.or_eq_true]
    unfold pm
    rw [mk_bit, mk_bit]
    rcases ea with e | e
    · subst e; exact Or.inl ⟨hu, g⟩
    · subst e; exact Or.inr ⟨hu, g⟩)
  exact mk_congr (fun i _ => ⟨fun g => g.mono (Nat.le_succ j), fun g => by
    rcases g.step with z | ⟨z, _⟩ | ⟨z, _⟩
    · exact z
    · exact (key _ z.sy (Or.inl rfl)).elim
    · exact (key _ z.sy (Or.inr rfl)).elim⟩)
theorem pm_bit {T : Nat → Nat} {c u v : Nat} : (pm T c (T 3) u).testBit v = true ↔ v < T 0 ∧ Cn T c u v := mk_bit _ _ _
/-- the class's own parts have changed, nothing else -/
theorem Rel.part {q : Bool} {σ σ' : gT1} (h : Rel q σ) (m1 : ∀ p, p ≠ np q + 8 → σ' p = σ p) : Rel q σ' := by
  obtain ⟨T, c, l, pr, hN, hW, hT, hO, hU, hI, hS⟩ := h
  have hp : np q = 7 ∨ np q = 16 := by cases q <;> decide
  have m : ∀ p, (p < 7 ∨ 25 ≤ p) → σ' p = σ p := fun p hq => m1 p (by omega)
  have f : ∀ p k, (p < 7 ∨ 25 ≤ p) → σ' p k = σ p k := fun p k hq => congrFun (m p hq) k
  have hN' : R_net q T σ' := by
    obtain ⟨h1, h2, h3⟩ := hN
    refine ⟨h1, ?_, by rw [m 33 (by omega)]; exact h3⟩
    unfold NetC at *
    rw [m1 (np q) (by omega), m1 (np q + 1) (by omega), m1 (np q + 2) (by omega), m1 (np q + 3) (by omega), m1 (np q + 4) (by omega), m1 (np q + 5) (by omega), m1 (np q + 6) (by omega), m1 (np q + 7) (by omega)]
    exact h2
  exact ⟨T, c, l, pr, hN', hW.fr (f 0 4 (by decide)) (f 0 5 (by decide)) (m 25 (by decide)) (m 36 (by decide)), hT.fr (f 1 1 (by decide)) (m 2 (by decide)) (f 31 2 (by decide)) (m 32 (by decide)), hO.fr (f 0 8 (by decide)) (m 26 (by decide)) (f 31 17 (by decide)) (m 40 (by decide)), hU.fr (f 0 10 (by decide)) (m 27 (by decide)) (f 31 13 (by decide)) (m 37 (by decide)), hI.fr (f 0 12 (by decide)) (m 28 (by decide)) (m 39 (by decide)) (m 38 (by decide)), hS.fr (f 0 14 (by decide)) (m 29 (by decide)) (f 31 20 (by decide)) (m 41 (by decide)) (m 42 (by decide))⟩
theorem L_jn_7 {X : gX} {q : Bool} {σ : gT1} {n w : Nat} {P : Option Value → gS → Prop} (hn : n ≤ 6) (e0 : σ 7 0 = nI n) (hw : w < 2147483648) (K : ∀ σ' : gT1, (∀ r, r ≠ 15 → σ' r = σ r) → (∀ v, v < n → σ' 15 v = if w.testBit v = true then nI w else σ 15 v) → P none (47, g_rho q, σ')) : ∀ (d u : Nat) (σ' : gT1), u + d = n → (∀ r, r ≠ 15 → σ' r = σ r) → (∀ v, v < u → σ' 15 v = if w.testBit v = true then nI w else σ 15 v) → (∀ v, u ≤ v → σ' 15 v = σ 15 v) → EvP X 36 2 [some (.ref 7), some (.int (nI w)), some (.int (nI u))] [] (47, g_rho q, σ') P
  | 0, u, σ', hk, h1, h2, h3 => by
    obtain rfl : n = u := by omega
    refine ep_iln t36_2 rfl ?_
    refine ep_aln t36_3 rfl ?_
    refine ep_get t36_4 rfl (Nat.le_of_ble_eq_true rfl) rfl ?_
    refine ep_val (b := nI n) ((congrFun (h1 7 (by decide)) 0).trans e0) ?_
    refine ep_ifP t36_7 (ic_ge (by omega) (by omega)) (fun (c7 : n ≤ n) => ?_) (fun (c7 : ¬ (n ≤ n)) => (by exact absurd (Nat.le_refl _) c7))
    refine ep_rv t36_32 ?_
    exact K σ' h1 h2
  | d + 1, u, σ', hk, h1, h2, h3 => by
    refine ep_iln t36_2 rfl ?_
    refine ep_aln t36_3 rfl ?_
    refine ep_get t36_4 rfl (Nat.le_of_ble_eq_true rfl) rfl ?_
    refine ep_val (b := nI n) ((congrFun (h1 7 (by decide)) 0).trans e0) ?_
    refine ep_ifP t36_7 (ic_ge (by omega) (by omega)) (fun (c7 : n ≤ u) => (by omega)) (fun (c7 : ¬ (n ≤ u)) => ?_)
    refine ep_iln t36_10 rfl ?_
    refine ep_iln t36_11 rfl ?_
    refine ep_cs t36_12 (Nat.ne_of_beq_eq_false rfl) rfl (Nat.le_of_ble_eq_true rfl) (cl_B_bit (by omega) (by omega)) ?_
    refine ep_k1 (w := nI 1) t36_15 rfl ?_
    refine ep_b1n t36_16 (fun (c16 : (Nat.testBit w u) = false) => ?_) (fun (c16 : (Nat.testBit w u) = true) => ?_)
    · refine ep_inc (b := nI (u + 1)) (L' := [some (.ref 7), some (.int (nI w)), some (.int (nI (u + 1)))]) t36_26 rfl (nI_add u 1) rfl (Nat.le_of_ble_eq_true rfl) ?_
      refine ep_gt t36_29 ?_
      refine L_jn_7 hn e0 hw K d (u + 1) _ (by omega) h1 (fun v hv => ?_) (fun v hv => h3 v (by omega))
      by_cases e : v = u
      · subst e; rw [if_neg (by rw [c16]; decide)]; exact h3 v (Nat.le_refl _)
      · exact h2 v (by omega)
    · refine ep_aln t36_19 rfl ?_
      refine ep_getr (q := 15) t36_20 rfl (Nat.le_of_ble_eq_true rfl) rfl (rfl) ?_
      refine ep_iln t36_23 rfl ?_
      refine ep_iln t36_24 rfl ?_
      refine ep_astN t36_25 rfl (Nat.le_of_ble_eq_true rfl) (Nat.le_of_ble_eq_true rfl) (by omega) ?_
      refine ep_inc (b := nI (u + 1)) (L' := [some (.ref 7), some (.int (nI w)), some (.int (nI (u + 1)))]) t36_26 rfl (nI_add u 1) rfl (Nat.le_of_ble_eq_true rfl) ?_
      refine ep_gt t36_29 ?_
      refine L_jn_7 hn e0 hw K d (u + 1) _ (by omega) (fun r hr => (g_up_ne hr).trans (h1 r hr)) (fun v hv => ?_) (fun v hv => ?_)
      · by_cases e : v = u
        · subst e; rw [if_pos c16]; exact g_up_eq
        · rw [g_up_j e]; exact h2 v (by omega)
      · rw [g_up_j (by omega)]; exact h3 v (by omega)
theorem cl_Net_join_7 {X : gX} {q : Bool} {σ : gT1} {n w : Nat} (hn : n ≤ 6) (e0 : σ 7 0 = nI n) (hw : w < 2147483648) : ClP X 36 [.ref 7, .int (nI w)] (47, g_rho q, σ) (fun v g1 => v = none ∧ ∃ σ1, g1 = (47, g_rho q, σ1) ∧ (∀ r, r ≠ 15 → σ1 r = σ r) ∧ ∀ v, v < n → σ1 15 v = if w.testBit v = true then nI w else σ 15 v) := by
  refine ClP.of ⟨Nat.le_of_ble_eq_true rfl, rfl⟩ ?_
  show EvP X 36 0 [some (.ref 7), some (.int (nI w)), none] [] (47, g_rho q, σ) _
  refine ep_k1 (w := nI 0) t36_0 rfl ?_
  refine ep_isn (L' := [some (.ref 7), some (.int (nI w)), some (.int (nI 0))]) t36_1 rfl (Nat.le_of_ble_eq_true rfl) ?_
  exact L_jn_7 hn e0 hw (fun σ1 a1 a2 => ⟨rfl, σ1, rfl, a1, a2⟩) n 0 σ (by omega) (fun _ _ => rfl) (fun v hv => absurd hv (Nat.not_lt_zero v)) (fun _ _ => rfl)

theorem L_fp1_7 {X : gX} {q : Bool} {σ : gT1} {T : Nat → Nat} {c : Nat} {P : Option Value → gS → Prop} (hA : (∀ j, j < 4 → σ 7 j = nI (T j)) ∧ ∀ k, k < T 3 → σ 8 k = nI (T (4 + k)) ∧ σ 9 k = nI (T (12 + k)) ∧ σ 10 k = nI (T (20 + k)) ∧ σ 11 k = sec T k) (hw : WF0 T) (hc : c < 2147483648) (K : ∀ σ' : gT1, (∀ r, r ≠ 15 → σ' r = σ r) → (∀ v, v < T 0 → σ' 15 v = nI (pm T c 0 v)) → EvP X 37 25 [some (.ref 7), some (.int (nI c)), some (.int (nI (T 0)))] [] (47, g_rho q, σ') P) : ∀ (d u : Nat) (σ' : gT1), u + d = T 0 → (∀ r, r ≠ 15 → σ' r = σ r) → (∀ v, v < u → σ' 15 v = nI (pm T c 0 v)) → EvP X 37 2 [some (.ref 7), some (.int (nI c)), some (.int (nI u))] [] (47, g_rho q, σ') P
  | 0, u, σ', hk, h1, h2 => by
    obtain rfl : u = T 0 := by omega
    refine ep_iln t37_2 rfl ?_
    refine ep_aln t37_3 rfl ?_
    refine ep_get t37_4 rfl (Nat.le_of_ble_eq_true rfl) rfl ?_
    refine ep_val (b := nI (T 0)) ((congrFun (h1 7 (by decide)) _).trans (hA.1 0 (by decide))) ?_
    refine ep_ifP t37_7 (ic_ge (by have := hw.1; have := hw.2.1; omega) (by have := hw.1; have := hw.2.1; omega)) (fun (c7 : (T 0) ≤ (T 0)) => ?_) (fun (c7 : ¬ ((T 0) ≤ (T 0))) => (by exact absurd (Nat.le_refl _) c7))
    exact K σ' h1 (fun v hv => h2 v hv)
  | d + 1, u, σ', hk, h1, h2 => by
    refine ep_iln t37_2 rfl ?_
    refine ep_aln t37_3 rfl ?_
    refine ep_get t37_4 rfl (Nat.le_of_ble_eq_true rfl) rfl ?_
    refine ep_val (b := nI (T 0)) ((congrFun (h1 7 (by decide)) _).trans (hA.1 0 (by decide))) ?_
    refine ep_ifP t37_7 (ic_ge (by have := hw.1; have := hw.2.1; omega) (by have := hw.1; have := hw.2.1; omega)) (fun (c7 : (T 0) ≤ u) => (by omega)) (fun (c7 : ¬ ((T 0) ≤ u)) => ?_)
    refine ep_aln t37_10 rfl ?_
    refine ep_getr (q := 15) t37_11 rfl (Nat.le_of_ble_eq_true rfl) rfl (rfl) ?_
    refine ep_iln t37_14 rfl ?_
    refine ep_k1 (w := nI 1) t37_15 rfl ?_
    refine ep_iln t37_16 rfl ?_
    refine ep_oneN (b := u) t37_17 (by have := hw.1; have := hw.2.1; omega) ?_
    refine ep_astN t37_18 rfl (Nat.le_of_ble_eq_true rfl) (Nat.le_of_ble_eq_true rfl) (by have := hw.1; have := hw.2.1; omega) ?_
    refine ep_inc (b := nI (u + 1)) (L' := [some (.ref 7), some (.int (nI c)), some (.int (nI (u + 1)))]) t37_19 rfl (nI_add u 1) rfl (Nat.le_of_ble_eq_true rfl) ?_
    refine ep_gt t37_22 ?_
    refine L_fp1_7 hA hw hc K d (u + 1) _ (by omega) (fun r hr => (g_up_ne hr).trans (h1 r hr)) (fun v hv => ?_)
    by_cases e : v = u
    · subst e; rw [g_up_eq, pm_zero (T := T) (c := c) (by omega)]
    · rw [g_up_j e]; exact h2 v (by omega)
theorem L_fp2_7 {X : gX} {q : Bool} {σ : gT1} {T : Nat → Nat} {c : Nat} {P : Option Value → gS → Prop} (hA : (∀ j, j < 4 → σ 7 j = nI (T j)) ∧ ∀ k, k < T 3 → σ 8 k = nI (T (4 + k)) ∧ σ 9 k = nI (T (12 + k)) ∧ σ 10 k = nI (T (20 + k)) ∧ σ 11 k = sec T k) (hw : WF0 T) (hc : c < 2147483648) (K : ∀ σ' : gT1, (∀ r, r ≠ 15 → σ' r = σ r) → (∀ v, v < T 0 → σ' 15 v = nI (pm T c (T 3) v)) → P none (47, g_rho q, σ')) : ∀ (d k : Nat) (σ' : gT1), k + d = T 3 → (∀ r, r ≠ 15 → σ' r = σ r) → (∀ v, v < T 0 → σ' 15 v = nI (pm T c k v)) → EvP X 37 27 [some (.ref 7), some (.int (nI c)), some (.int (nI k))] [] (47, g_rho q, σ') P
  | 0, k, σ', hk, h1, h2 => by
    obtain rfl : k = T 3 := by omega
    refine ep_iln t37_27 rfl ?_
    refine ep_aln t37_28 rfl ?_
    refine ep_get t37_29 rfl (Nat.le_of_ble_eq_true rfl) rfl ?_
    refine ep_val (b := nI (T 3)) ((congrFun (h1 7 (by decide)) _).trans (hA.1 3 (by decide))) ?_
    refine ep_ifP t37_32 (ic_ge (by have := hw.1; have := hw.2.1; omega) (by have := hw.1; have := hw.2.1; omega)) (fun (c32 : (T 3) ≤ (T 3)) => ?_) (fun (c32 : ¬ ((T 3) ≤ (T 3))) => (by exact absurd (Nat.le_refl _) c32))
    refine ep_rv t37_87 ?_
    exact K σ' h1 h2
  | d + 1, k, σ', hk, h1, h2 => by
    have hk3 : k < T 3 := by omega
    refine ep_iln t37_27 rfl ?_
    refine ep_aln t37_28 rfl ?_
    refine ep_get t37_29 rfl (Nat.le_of_ble_eq_true rfl) rfl ?_
    refine ep_val (b := nI (T 3)) ((congrFun (h1 7 (by decide)) _).trans (hA.1 3 (by decide))) ?_
    refine ep_ifP t37_32 (ic_ge (by have := hw.1; have := hw.2.1; have := hw.2.2.2 k hk3; omega) (by have := hw.1; have := hw.2.1; have := hw.2.2.2 k hk3; omega)) (fun (c32 : (T 3) ≤ k) => (by omega)) (fun (c32 : ¬ ((T 3) ≤ k)) => ?_)
    refine ep_aln t37_35 rfl ?_
    refine ep_getr (q := 8) t37_36 rfl (Nat.le_of_ble_eq_true rfl) rfl (rfl) ?_
    refine ep_iln t37_39 rfl ?_
    refine ep_aldN t37_40 rfl (Nat.le_of_ble_eq_true rfl) (Nat.ne_of_beq_eq_false rfl) (Nat.le_of_ble_eq_true rfl) (by have := hw.1; have := hw.2.1; have := hw.2.2.2 k hk3; omega) ?_
    refine ep_val (b := nI (T (4 + k))) ((congrFun (h1 8 (by decide)) _).trans (hA.2 k hk3).1) ?_
    refine ep_k1 (w := nI 2) t37_41 rfl ?_
    refine ep_ifP t37_42 (ic_eq (by have := hw.1; have := hw.2.1; have := hw.2.2.2 k hk3; omega) (by have := hw.1; have := hw.2.1; have := hw.2.2.2 k hk3; omega)) (fun (c42 : (T (4 + k)) = 2) => ?_) (fun (c42 : ¬ ((T (4 + k)) = 2)) => ?_)
    · refine ep_inc (b := nI (k + 1)) (L' := [some (.ref 7), some (.int (nI c)), some (.int (nI (k + 1)))]) t37_81 rfl (nI_add k 1) rfl (Nat.le_of_ble_eq_true rfl) ?_
      refine ep_gt t37_84 ?_
      have hna : ¬ t_act T c k := by
        intro ha
        first
        | exact ha.2.2 c42
        | exact absurd ha.2.1 (by rw [c51]; decide)
      exact L_fp2_7 hA hw hc K d (k + 1) _ (by omega) h1 (fun v hv => by rw [h2 v hv, pm_skip hna])
    · refine ep_iln t37_45 rfl ?_
      refine ep_iln t37_46 rfl ?_
      refine ep_cs t37_47 (Nat.ne_of_beq_eq_false rfl) rfl (Nat.le_of_ble_eq_true rfl) (cl_B_bit (by have := hw.1; have := hw.2.1; have := hw.2.2.2 k hk3; omega) (by have := hw.1; have := hw.2.1; have := hw.2.2.2 k hk3; omega)) ?_
      refine ep_k1 (w := nI 1) t37_50 rfl ?_
      refine ep_b1n t37_51 (fun (c51 : (Nat.testBit c k) = false) => ?_) (fun (c51 : (Nat.testBit c k) = true) => ?_)
      · refine ep_inc (b := nI (k + 1)) (L' := [some (.ref 7), some (.int (nI c)), some (.int (nI (k + 1)))]) t37_81 rfl (nI_add k 1) rfl (Nat.le_of_ble_eq_true rfl) ?_
        refine ep_gt t37_84 ?_
        have hna : ¬ t_act T c k := by
          intro ha
          first
          | exact ha.2.2 c42
          | exact absurd ha.2.1 (by rw [c51]; decide)
        exact L_fp2_7 hA hw hc K d (k + 1) _ (by omega) h1 (fun v hv => by rw [h2 v hv, pm_skip hna])
      · have hf := (hw.2.2.1 k hk3).1
        have hs := (hw.2.2.1 k hk3).2 c42
        have hact : t_act T c k := ⟨hk3, c51, c42⟩
        have hp1 := pm_lt hw.1 c k (T (20 + k))
        have hp2 := pm_lt hw.1 c k (T (28 + k))
        have hp3 := or_lt64 hp1 hp2
        refine ep_aln t37_54 rfl ?_
        refine ep_aln t37_55 rfl ?_
        refine ep_getr (q := 15) t37_56 rfl (Nat.le_of_ble_eq_true rfl) rfl (rfl) ?_
        refine ep_aln t37_59 rfl ?_
        refine ep_getr (q := 10) t37_60 rfl (Nat.le_of_ble_eq_true rfl) rfl (rfl) ?_
        refine ep_iln t37_63 rfl ?_
        refine ep_aldN t37_64 rfl (Nat.le_of_ble_eq_true rfl) (Nat.ne_of_beq_eq_false rfl) (Nat.le_of_ble_eq_true rfl) (by have := hw.1; have := hw.2.1; have := hw.2.2.2 k hk3; omega) ?_
        refine ep_val (b := nI (T (20 + k))) ((congrFun (h1 10 (by decide)) _).trans (hA.2 k hk3).2.2.1) ?_
        refine ep_aldN t37_65 rfl (Nat.le_of_ble_eq_true rfl) (Nat.ne_of_beq_eq_false rfl) (Nat.le_of_ble_eq_true rfl) (by have := hw.1; have := hw.2.1; omega) ?_
        refine ep_val (b := nI (pm T c k (T (20 + k)))) (h2 _ hf) ?_
        refine ep_aln t37_66 rfl ?_
        refine ep_getr (q := 15) t37_67 rfl (Nat.le_of_ble_eq_true rfl) rfl (rfl) ?_
        refine ep_aln t37_70 rfl ?_
        refine ep_getr (q := 11) t37_71 rfl (Nat.le_of_ble_eq_true rfl) rfl (rfl) ?_
        refine ep_iln t37_74 rfl ?_
        refine ep_aldN t37_75 rfl (Nat.le_of_ble_eq_true rfl) (Nat.ne_of_beq_eq_false rfl) (Nat.le_of_ble_eq_true rfl) (by have := hw.1; have := hw.2.1; have := hw.2.2.2 k hk3; omega) ?_
        refine ep_val (b := sec T k) ((congrFun (h1 11 (by decide)) _).trans (hA.2 k hk3).2.2.2) ?_
        refine ep_val (b := nI (T (28 + k))) (if_neg c42) ?_
        refine ep_aldN t37_76 rfl (Nat.le_of_ble_eq_true rfl) (Nat.ne_of_beq_eq_false rfl) (Nat.le_of_ble_eq_true rfl) (by have := hw.1; have := hw.2.1; omega) ?_
        refine ep_val (b := nI (pm T c k (T (28 + k)))) (h2 _ hs) ?_
        refine ep_orN (a := pm T c k (T (20 + k))) (b := pm T c k (T (28 + k))) t37_77 ?_
        obtain ⟨v9, g9, hj9, rfl, σ2, rfl, j1, j2⟩ := cl_Net_join_7 (X := X) (q := q) (σ := σ') (n := T 0) (w := pm T c k (T (20 + k)) ||| pm T c k (T (28 + k))) hw.1 ((congrFun (h1 7 (by decide)) 0).trans (hA.1 0 (by decide))) (by omega)
        refine ep_cv t37_78 rfl rfl (Nat.le_of_ble_eq_true rfl) (Nat.le_of_ble_eq_true rfl) (hj9) ?_
        refine ep_inc (b := nI (k + 1)) (L' := [some (.ref 7), some (.int (nI c)), some (.int (nI (k + 1)))]) t37_81 rfl (nI_add k 1) rfl (Nat.le_of_ble_eq_true rfl) ?_
        refine ep_gt t37_84 ?_
        refine L_fp2_7 hA hw hc K d (k + 1) σ2 (by omega) (fun r hr => (j1 r hr).trans (h1 r hr)) (fun v hv => ?_)
        rw [j2 v hv]
        by_cases e : (pm T c k (T (20 + k)) ||| pm T c k (T (28 + k))).testBit v = true
        · rw [if_pos e, pm_in hv hact e]
        · rw [if_neg e, h2 v hv, pm_out hv e]
theorem cl_Net_formParts_7 {X : gX} {q : Bool} {σ : gT1} {T : Nat → Nat} {c : Nat} (hA : (∀ j, j < 4 → σ 7 j = nI (T j)) ∧ ∀ k, k < T 3 → σ 8 k = nI (T (4 + k)) ∧ σ 9 k = nI (T (12 + k)) ∧ σ 10 k = nI (T (20 + k)) ∧ σ 11 k = sec T k) (hw : WF0 T) (hc : c < 2147483648) : ClP X 37 [.ref 7, .int (nI c)] (47, g_rho q, σ) (fun v g1 => v = none ∧ ∃ σ1, g1 = (47, g_rho q, σ1) ∧ (∀ r, r ≠ 15 → σ1 r = σ r) ∧ ∀ v, v < T 0 → σ1 15 v = nI (pm T c (T 3) v)) := by
  refine ClP.of ⟨Nat.le_of_ble_eq_true rfl, rfl⟩ ?_
  show EvP X 37 0 [some (.ref 7), some (.int (nI c)), none] [] (47, g_rho q, σ) _
  refine ep_k1 (w := nI 0) t37_0 rfl ?_
  refine ep_isn (L' := [some (.ref 7), some (.int (nI c)), some (.int (nI 0))]) t37_1 rfl (Nat.le_of_ble_eq_true rfl) ?_
  refine L_fp1_7 hA hw hc (fun σ1 a1 a2 => ?_) (T 0) 0 σ (by omega) (fun _ _ => rfl) (fun v hv => absurd hv (Nat.not_lt_zero v))
  refine ep_k1 (w := nI 0) t37_25 rfl ?_
  refine ep_isn (L' := [some (.ref 7), some (.int (nI c)), some (.int (nI 0))]) t37_26 rfl (Nat.le_of_ble_eq_true rfl) ?_
  exact L_fp2_7 hA hw hc (fun σ2 b1 b2 => ⟨rfl, σ2, rfl, b1, b2⟩) (T 3) 0 σ1 (by omega) a1 a2

theorem L_lw_7 {X : gX} {q : Bool} {σ : gT1} {T : Nat → Nat} {c u : Nat} {P : Option Value → gS → Prop} (hu : u < T 0) (h6 : T 0 ≤ 6) (eu : σ 15 u = nI (pm T c (T 3) u)) (K : ∀ x : Nat, (Cn T c u x ∧ ∀ j, j < x → ¬ Cn T c u j) → P (some (.int (nI x))) (47, g_rho q, σ)) : ∀ (d x : Nat), x + d = u → (∀ j, j < x → ¬ Cn T c u j) → EvP X 75 7 [some (.ref 7), some (.int (nI c)), some (.int (nI u)), some (.int (nI x))] [] (47, g_rho q, σ) P
  | 0, x, hk, h2 => by
    refine ep_iln t75_7 rfl ?_
    refine ep_iln t75_8 rfl ?_
    refine ep_ifP t75_9 (ic_ge (by omega) (by omega)) (fun (c9 : u ≤ x) => ?_) (fun (c9 : ¬ (u ≤ x)) => (by exact absurd (by omega) c9))
    refine ep_iln t75_31 rfl ?_
    refine ep_ri t75_32 (fun h => absurd h (by decide)) ?_
    exact K x ⟨(by omega : u = x) ▸ Cn.rf, h2⟩
  | d + 1, x, hk, h2 => by
    refine ep_iln t75_7 rfl ?_
    refine ep_iln t75_8 rfl ?_
    refine ep_ifP t75_9 (ic_ge (by have := pm_lt h6 c (T 3) u; omega) (by have := pm_lt h6 c (T 3) u; omega)) (fun (c9 : u ≤ x) => ?_) (fun (c9 : ¬ (u ≤ x)) => ?_)
    · refine ep_iln t75_31 rfl ?_
      refine ep_ri t75_32 (fun h => absurd h (by decide)) ?_
      first
      | exact K x ⟨(by omega : u = x) ▸ Cn.rf, h2⟩
      | exact K x ⟨(pm_bit.mp c22).2, h2⟩
    · refine ep_aln t75_12 rfl ?_
      refine ep_getr (q := 15) t75_13 rfl (Nat.le_of_ble_eq_true rfl) rfl (rfl) ?_
      refine ep_iln t75_16 rfl ?_
      refine ep_aldN t75_17 rfl (Nat.le_of_ble_eq_true rfl) (Nat.ne_of_beq_eq_false rfl) (Nat.le_of_ble_eq_true rfl) (by have := pm_lt h6 c (T 3) u; omega) ?_
      refine ep_val (b := nI (pm T c (T 3) u)) (eu) ?_
      refine ep_iln t75_18 rfl ?_
      refine ep_cs t75_19 (Nat.ne_of_beq_eq_false rfl) rfl (Nat.le_of_ble_eq_true rfl) (cl_B_bit (by have := pm_lt h6 c (T 3) u; omega) (by have := pm_lt h6 c (T 3) u; omega)) ?_
      refine ep_bT t75_22 (fun (c22 : (Nat.testBit (pm T c (T 3) u) x) = true) => ?_) (fun (c22 : (Nat.testBit (pm T c (T 3) u) x) = false) => ?_)
      · refine ep_iln t75_31 rfl ?_
        refine ep_ri t75_32 (fun h => absurd h (by decide)) ?_
        first
        | exact K x ⟨(by omega : u = x) ▸ Cn.rf, h2⟩
        | exact K x ⟨(pm_bit.mp c22).2, h2⟩
      · refine ep_inc (b := nI (x + 1)) (L' := [some (.ref 7), some (.int (nI c)), some (.int (nI u)), some (.int (nI (x + 1)))]) t75_25 rfl (nI_add x 1) rfl (Nat.le_of_ble_eq_true rfl) ?_
        refine ep_gt t75_28 ?_
        refine L_lw_7 hu h6 eu K d (x + 1) (by omega) (fun j hj => ?_)
        by_cases e : j = x
        · subst e
          intro hq
          have := pm_bit.mpr ⟨by omega, hq⟩
          rw [c22] at this
          exact absurd this (by decide)
        · exact h2 j (by omega)
theorem cl_Net_lowest_7 {X : gX} {q : Bool} {σ : gT1} {T : Nat → Nat} {c u : Nat} (hA : (∀ j, j < 4 → σ 7 j = nI (T j)) ∧ ∀ k, k < T 3 → σ 8 k = nI (T (4 + k)) ∧ σ 9 k = nI (T (12 + k)) ∧ σ 10 k = nI (T (20 + k)) ∧ σ 11 k = sec T k) (hw : WF0 T) (hc : c < 2147483648) (hu : u < T 0) : ClP X 75 [.ref 7, .int (nI c), .int (nI u)] (47, g_rho q, σ) (fun v g1 => ∃ x σ1, v = some (.int (nI x)) ∧ g1 = (47, g_rho q, σ1) ∧ (∀ r, r ≠ 15 → σ1 r = σ r) ∧ Cn T c u x ∧ ∀ j, j < x → ¬ Cn T c u j) := by
  refine ClP.of ⟨Nat.le_of_ble_eq_true rfl, rfl⟩ ?_
  show EvP X 75 0 [some (.ref 7), some (.int (nI c)), some (.int (nI u)), none] [] (47, g_rho q, σ) _
  refine ep_aln t75_0 rfl ?_
  refine ep_iln t75_1 rfl ?_
  obtain ⟨v9, g9, hj9, rfl, σ1, rfl, j1, j2⟩ := cl_Net_formParts_7 (X := X) (q := q) (σ := σ) (T := T) (c := c) hA hw hc
  refine ep_cv t75_2 rfl rfl (Nat.le_of_ble_eq_true rfl) (Nat.le_of_ble_eq_true rfl) (hj9) ?_
  refine ep_k1 (w := nI 0) t75_5 rfl ?_
  refine ep_isn (L' := [some (.ref 7), some (.int (nI c)), some (.int (nI u)), some (.int (nI 0))]) t75_6 rfl (Nat.le_of_ble_eq_true rfl) ?_
  exact L_lw_7 hu hw.1 (j2 u hu) (fun x hx => ⟨x, σ1, rfl, rfl, j1, hx⟩) u 0 (by omega) (fun j hj => absurd hj (Nat.not_lt_zero j))

theorem L_jn_16 {X : gX} {q : Bool} {σ : gT1} {n w : Nat} {P : Option Value → gS → Prop} (hn : n ≤ 6) (e0 : σ 16 0 = nI n) (hw : w < 2147483648) (K : ∀ σ' : gT1, (∀ r, r ≠ 24 → σ' r = σ r) → (∀ v, v < n → σ' 24 v = if w.testBit v = true then nI w else σ 24 v) → P none (47, g_rho q, σ')) : ∀ (d u : Nat) (σ' : gT1), u + d = n → (∀ r, r ≠ 24 → σ' r = σ r) → (∀ v, v < u → σ' 24 v = if w.testBit v = true then nI w else σ 24 v) → (∀ v, u ≤ v → σ' 24 v = σ 24 v) → EvP X 36 2 [some (.ref 16), some (.int (nI w)), some (.int (nI u))] [] (47, g_rho q, σ') P
  | 0, u, σ', hk, h1, h2, h3 => by
    obtain rfl : n = u := by omega
    refine ep_iln t36_2 rfl ?_
    refine ep_aln t36_3 rfl ?_
    refine ep_get t36_4 rfl (Nat.le_of_ble_eq_true rfl) rfl ?_
    refine ep_val (b := nI n) ((congrFun (h1 16 (by decide)) 0).trans e0) ?_
    refine ep_ifP t36_7 (ic_ge (by omega) (by omega)) (fun (c7 : n ≤ n) => ?_) (fun (c7 : ¬ (n ≤ n)) => (by exact absurd (Nat.le_refl _) c7))
    refine ep_rv t36_32 ?_
    exact K σ' h1 h2
  | d + 1, u, σ', hk, h1, h2, h3 => by
    refine ep_iln t36_2 rfl ?_
    refine ep_aln t36_3 rfl ?_
    refine ep_get t36_4 rfl (Nat.le_of_ble_eq_true rfl) rfl ?_
    refine ep_val (b := nI n) ((congrFun (h1 16 (by decide)) 0).trans e0) ?_
    refine ep_ifP t36_7 (ic_ge (by omega) (by omega)) (fun (c7 : n ≤ u) => (by omega)) (fun (c7 : ¬ (n ≤ u)) => ?_)
    refine ep_iln t36_10 rfl ?_
    refine ep_iln t36_11 rfl ?_
    refine ep_cs t36_12 (Nat.ne_of_beq_eq_false rfl) rfl (Nat.le_of_ble_eq_true rfl) (cl_B_bit (by omega) (by omega)) ?_
    refine ep_k1 (w := nI 1) t36_15 rfl ?_
    refine ep_b1n t36_16 (fun (c16 : (Nat.testBit w u) = false) => ?_) (fun (c16 : (Nat.testBit w u) = true) => ?_)
    · refine ep_inc (b := nI (u + 1)) (L' := [some (.ref 16), some (.int (nI w)), some (.int (nI (u + 1)))]) t36_26 rfl (nI_add u 1) rfl (Nat.le_of_ble_eq_true rfl) ?_
      refine ep_gt t36_29 ?_
      refine L_jn_16 hn e0 hw K d (u + 1) _ (by omega) h1 (fun v hv => ?_) (fun v hv => h3 v (by omega))
      by_cases e : v = u
      · subst e; rw [if_neg (by rw [c16]; decide)]; exact h3 v (Nat.le_refl _)
      · exact h2 v (by omega)
    · refine ep_aln t36_19 rfl ?_
      refine ep_getr (q := 24) t36_20 rfl (Nat.le_of_ble_eq_true rfl) rfl (rfl) ?_
      refine ep_iln t36_23 rfl ?_
      refine ep_iln t36_24 rfl ?_
      refine ep_astN t36_25 rfl (Nat.le_of_ble_eq_true rfl) (Nat.le_of_ble_eq_true rfl) (by omega) ?_
      refine ep_inc (b := nI (u + 1)) (L' := [some (.ref 16), some (.int (nI w)), some (.int (nI (u + 1)))]) t36_26 rfl (nI_add u 1) rfl (Nat.le_of_ble_eq_true rfl) ?_
      refine ep_gt t36_29 ?_
      refine L_jn_16 hn e0 hw K d (u + 1) _ (by omega) (fun r hr => (g_up_ne hr).trans (h1 r hr)) (fun v hv => ?_) (fun v hv => ?_)
      · by_cases e : v = u
        · subst e; rw [if_pos c16]; exact g_up_eq
        · rw [g_up_j e]; exact h2 v (by omega)
      · rw [g_up_j (by omega)]; exact h3 v (by omega)
theorem cl_Net_join_16 {X : gX} {q : Bool} {σ : gT1} {n w : Nat} (hn : n ≤ 6) (e0 : σ 16 0 = nI n) (hw : w < 2147483648) : ClP X 36 [.ref 16, .int (nI w)] (47, g_rho q, σ) (fun v g1 => v = none ∧ ∃ σ1, g1 = (47, g_rho q, σ1) ∧ (∀ r, r ≠ 24 → σ1 r = σ r) ∧ ∀ v, v < n → σ1 24 v = if w.testBit v = true then nI w else σ 24 v) := by
  refine ClP.of ⟨Nat.le_of_ble_eq_true rfl, rfl⟩ ?_
  show EvP X 36 0 [some (.ref 16), some (.int (nI w)), none] [] (47, g_rho q, σ) _
  refine ep_k1 (w := nI 0) t36_0 rfl ?_
  refine ep_isn (L' := [some (.ref 16), some (.int (nI w)), some (.int (nI 0))]) t36_1 rfl (Nat.le_of_ble_eq_true rfl) ?_
  exact L_jn_16 hn e0 hw (fun σ1 a1 a2 => ⟨rfl, σ1, rfl, a1, a2⟩) n 0 σ (by omega) (fun _ _ => rfl) (fun v hv => absurd hv (Nat.not_lt_zero v)) (fun _ _ => rfl)

theorem L_fp1_16 {X : gX} {q : Bool} {σ : gT1} {T : Nat → Nat} {c : Nat} {P : Option Value → gS → Prop} (hA : (∀ j, j < 4 → σ 16 j = nI (T j)) ∧ ∀ k, k < T 3 → σ 17 k = nI (T (4 + k)) ∧ σ 18 k = nI (T (12 + k)) ∧ σ 19 k = nI (T (20 + k)) ∧ σ 20 k = sec T k) (hw : WF0 T) (hc : c < 2147483648) (K : ∀ σ' : gT1, (∀ r, r ≠ 24 → σ' r = σ r) → (∀ v, v < T 0 → σ' 24 v = nI (pm T c 0 v)) → EvP X 37 25 [some (.ref 16), some (.int (nI c)), some (.int (nI (T 0)))] [] (47, g_rho q, σ') P) : ∀ (d u : Nat) (σ' : gT1), u + d = T 0 → (∀ r, r ≠ 24 → σ' r = σ r) → (∀ v, v < u → σ' 24 v = nI (pm T c 0 v)) → EvP X 37 2 [some (.ref 16), some (.int (nI c)), some (.int (nI u))] [] (47, g_rho q, σ') P
  | 0, u, σ', hk, h1, h2 => by
    obtain rfl : u = T 0 := by omega
    refine ep_iln t37_2 rfl ?_
    refine ep_aln t37_3 rfl ?_
    refine ep_get t37_4 rfl (Nat.le_of_ble_eq_true rfl) rfl ?_
    refine ep_val (b := nI (T 0)) ((congrFun (h1 16 (by decide)) _).trans (hA.1 0 (by decide))) ?_
    refine ep_ifP t37_7 (ic_ge (by have := hw.1; have := hw.2.1; omega) (by have := hw.1; have := hw.2.1; omega)) (fun (c7 : (T 0) ≤ (T 0)) => ?_) (fun (c7 : ¬ ((T 0) ≤ (T 0))) => (by exact absurd (Nat.le_refl _) c7))
    exact K σ' h1 (fun v hv => h2 v hv)
  | d + 1, u, σ', hk, h1, h2 => by
    refine ep_iln t37_2 rfl ?_
    refine ep_aln t37_3 rfl ?_
    refine ep_get t37_4 rfl (Nat.le_of_ble_eq_true rfl) rfl ?_
    refine ep_val (b := nI (T 0)) ((congrFun (h1 16 (by decide)) _).trans (hA.1 0 (by decide))) ?_
    refine ep_ifP t37_7 (ic_ge (by have := hw.1; have := hw.2.1; omega) (by have := hw.1; have := hw.2.1; omega)) (fun (c7 : (T 0) ≤ u) => (by omega)) (fun (c7 : ¬ ((T 0) ≤ u)) => ?_)
    refine ep_aln t37_10 rfl ?_
    refine ep_getr (q := 24) t37_11 rfl (Nat.le_of_ble_eq_true rfl) rfl (rfl) ?_
    refine ep_iln t37_14 rfl ?_
    refine ep_k1 (w := nI 1) t37_15 rfl ?_
    refine ep_iln t37_16 rfl ?_
    refine ep_oneN (b := u) t37_17 (by have := hw.1; have := hw.2.1; omega) ?_
    refine ep_astN t37_18 rfl (Nat.le_of_ble_eq_true rfl) (Nat.le_of_ble_eq_true rfl) (by have := hw.1; have := hw.2.1; omega) ?_
    refine ep_inc (b := nI (u + 1)) (L' := [some (.ref 16), some (.int (nI c)), some (.int (nI (u + 1)))]) t37_19 rfl (nI_add u 1) rfl (Nat.le_of_ble_eq_true rfl) ?_
    refine ep_gt t37_22 ?_
    refine L_fp1_16 hA hw hc K d (u + 1) _ (by omega) (fun r hr => (g_up_ne hr).trans (h1 r hr)) (fun v hv => ?_)
    by_cases e : v = u
    · subst e; rw [g_up_eq, pm_zero (T := T) (c := c) (by omega)]
    · rw [g_up_j e]; exact h2 v (by omega)
theorem L_fp2_16 {X : gX} {q : Bool} {σ : gT1} {T : Nat → Nat} {c : Nat} {P : Option Value → gS → Prop} (hA : (∀ j, j < 4 → σ 16 j = nI (T j)) ∧ ∀ k, k < T 3 → σ 17 k = nI (T (4 + k)) ∧ σ 18 k = nI (T (12 + k)) ∧ σ 19 k = nI (T (20 + k)) ∧ σ 20 k = sec T k) (hw : WF0 T) (hc : c < 2147483648) (K : ∀ σ' : gT1, (∀ r, r ≠ 24 → σ' r = σ r) → (∀ v, v < T 0 → σ' 24 v = nI (pm T c (T 3) v)) → P none (47, g_rho q, σ')) : ∀ (d k : Nat) (σ' : gT1), k + d = T 3 → (∀ r, r ≠ 24 → σ' r = σ r) → (∀ v, v < T 0 → σ' 24 v = nI (pm T c k v)) → EvP X 37 27 [some (.ref 16), some (.int (nI c)), some (.int (nI k))] [] (47, g_rho q, σ') P
  | 0, k, σ', hk, h1, h2 => by
    obtain rfl : k = T 3 := by omega
    refine ep_iln t37_27 rfl ?_
    refine ep_aln t37_28 rfl ?_
    refine ep_get t37_29 rfl (Nat.le_of_ble_eq_true rfl) rfl ?_
    refine ep_val (b := nI (T 3)) ((congrFun (h1 16 (by decide)) _).trans (hA.1 3 (by decide))) ?_
    refine ep_ifP t37_32 (ic_ge (by have := hw.1; have := hw.2.1; omega) (by have := hw.1; have := hw.2.1; omega)) (fun (c32 : (T 3) ≤ (T 3)) => ?_) (fun (c32 : ¬ ((T 3) ≤ (T 3))) => (by exact absurd (Nat.le_refl _) c32))
    refine ep_rv t37_87 ?_
    exact K σ' h1 h2
  | d + 1, k, σ', hk, h1, h2 => by
    have hk3 : k < T 3 := by omega
    refine ep_iln t37_27 rfl ?_
    refine ep_aln t37_28 rfl ?_
    refine ep_get t37_29 rfl (Nat.le_of_ble_eq_true rfl) rfl ?_
    refine ep_val (b := nI (T 3)) ((congrFun (h1 16 (by decide)) _).trans (hA.1 3 (by decide))) ?_
    refine ep_ifP t37_32 (ic_ge (by have := hw.1; have := hw.2.1; have := hw.2.2.2 k hk3; omega) (by have := hw.1; have := hw.2.1; have := hw.2.2.2 k hk3; omega)) (fun (c32 : (T 3) ≤ k) => (by omega)) (fun (c32 : ¬ ((T 3) ≤ k)) => ?_)
    refine ep_aln t37_35 rfl ?_
    refine ep_getr (q := 17) t37_36 rfl (Nat.le_of_ble_eq_true rfl) rfl (rfl) ?_
    refine ep_iln t37_39 rfl ?_
    refine ep_aldN t37_40 rfl (Nat.le_of_ble_eq_true rfl) (Nat.ne_of_beq_eq_false rfl) (Nat.le_of_ble_eq_true rfl) (by have := hw.1; have := hw.2.1; have := hw.2.2.2 k hk3; omega) ?_
    refine ep_val (b := nI (T (4 + k))) ((congrFun (h1 17 (by decide)) _).trans (hA.2 k hk3).1) ?_
    refine ep_k1 (w := nI 2) t37_41 rfl ?_
    refine ep_ifP t37_42 (ic_eq (by have := hw.1; have := hw.2.1; have := hw.2.2.2 k hk3; omega) (by have := hw.1; have := hw.2.1; have := hw.2.2.2 k hk3; omega)) (fun (c42 : (T (4 + k)) = 2) => ?_) (fun (c42 : ¬ ((T (4 + k)) = 2)) => ?_)
    · refine ep_inc (b := nI (k + 1)) (L' := [some (.ref 16), some (.int (nI c)), some (.int (nI (k + 1)))]) t37_81 rfl (nI_add k 1) rfl (Nat.le_of_ble_eq_true rfl) ?_
      refine ep_gt t37_84 ?_
      have hna : ¬ t_act T c k := by
        intro ha
        first
        | exact ha.2.2 c42
        | exact absurd ha.2.1 (by rw [c51]; decide)
      exact L_fp2_16 hA hw hc K d (k + 1) _ (by omega) h1 (fun v hv => by rw [h2 v hv, pm_skip hna])
    · refine ep_iln t37_45 rfl ?_
      refine ep_iln t37_46 rfl ?_
      refine ep_cs t37_47 (Nat.ne_of_beq_eq_false rfl) rfl (Nat.le_of_ble_eq_true rfl) (cl_B_bit (by have := hw.1; have := hw.2.1; have := hw.2.2.2 k hk3; omega) (by have := hw.1; have := hw.2.1; have := hw.2.2.2 k hk3; omega)) ?_
      refine ep_k1 (w := nI 1) t37_50 rfl ?_
      refine ep_b1n t37_51 (fun (c51 : (Nat.testBit c k) = false) => ?_) (fun (c51 : (Nat.testBit c k) = true) => ?_)
      · refine ep_inc (b := nI (k + 1)) (L' := [some (.ref 16), some (.int (nI c)), some (.int (nI (k + 1)))]) t37_81 rfl (nI_add k 1) rfl (Nat.le_of_ble_eq_true rfl) ?_
        refine ep_gt t37_84 ?_
        have hna : ¬ t_act T c k := by
          intro ha
          first
          | exact ha.2.2 c42
          | exact absurd ha.2.1 (by rw [c51]; decide)
        exact L_fp2_16 hA hw hc K d (k + 1) _ (by omega) h1 (fun v hv => by rw [h2 v hv, pm_skip hna])
      · have hf := (hw.2.2.1 k hk3).1
        have hs := (hw.2.2.1 k hk3).2 c42
        have hact : t_act T c k := ⟨hk3, c51, c42⟩
        have hp1 := pm_lt hw.1 c k (T (20 + k))
        have hp2 := pm_lt hw.1 c k (T (28 + k))
        have hp3 := or_lt64 hp1 hp2
        refine ep_aln t37_54 rfl ?_
        refine ep_aln t37_55 rfl ?_
        refine ep_getr (q := 24) t37_56 rfl (Nat.le_of_ble_eq_true rfl) rfl (rfl) ?_
        refine ep_aln t37_59 rfl ?_
        refine ep_getr (q := 19) t37_60 rfl (Nat.le_of_ble_eq_true rfl) rfl (rfl) ?_
        refine ep_iln t37_63 rfl ?_
        refine ep_aldN t37_64 rfl (Nat.le_of_ble_eq_true rfl) (Nat.ne_of_beq_eq_false rfl) (Nat.le_of_ble_eq_true rfl) (by have := hw.1; have := hw.2.1; have := hw.2.2.2 k hk3; omega) ?_
        refine ep_val (b := nI (T (20 + k))) ((congrFun (h1 19 (by decide)) _).trans (hA.2 k hk3).2.2.1) ?_
        refine ep_aldN t37_65 rfl (Nat.le_of_ble_eq_true rfl) (Nat.ne_of_beq_eq_false rfl) (Nat.le_of_ble_eq_true rfl) (by have := hw.1; have := hw.2.1; omega) ?_
        refine ep_val (b := nI (pm T c k (T (20 + k)))) (h2 _ hf) ?_
        refine ep_aln t37_66 rfl ?_
        refine ep_getr (q := 24) t37_67 rfl (Nat.le_of_ble_eq_true rfl) rfl (rfl) ?_
        refine ep_aln t37_70 rfl ?_
        refine ep_getr (q := 20) t37_71 rfl (Nat.le_of_ble_eq_true rfl) rfl (rfl) ?_
        refine ep_iln t37_74 rfl ?_
        refine ep_aldN t37_75 rfl (Nat.le_of_ble_eq_true rfl) (Nat.ne_of_beq_eq_false rfl) (Nat.le_of_ble_eq_true rfl) (by have := hw.1; have := hw.2.1; have := hw.2.2.2 k hk3; omega) ?_
        refine ep_val (b := sec T k) ((congrFun (h1 20 (by decide)) _).trans (hA.2 k hk3).2.2.2) ?_
        refine ep_val (b := nI (T (28 + k))) (if_neg c42) ?_
        refine ep_aldN t37_76 rfl (Nat.le_of_ble_eq_true rfl) (Nat.ne_of_beq_eq_false rfl) (Nat.le_of_ble_eq_true rfl) (by have := hw.1; have := hw.2.1; omega) ?_
        refine ep_val (b := nI (pm T c k (T (28 + k)))) (h2 _ hs) ?_
        refine ep_orN (a := pm T c k (T (20 + k))) (b := pm T c k (T (28 + k))) t37_77 ?_
        obtain ⟨v9, g9, hj9, rfl, σ2, rfl, j1, j2⟩ := cl_Net_join_16 (X := X) (q := q) (σ := σ') (n := T 0) (w := pm T c k (T (20 + k)) ||| pm T c k (T (28 + k))) hw.1 ((congrFun (h1 16 (by decide)) 0).trans (hA.1 0 (by decide))) (by omega)
        refine ep_cv t37_78 rfl rfl (Nat.le_of_ble_eq_true rfl) (Nat.le_of_ble_eq_true rfl) (hj9) ?_
        refine ep_inc (b := nI (k + 1)) (L' := [some (.ref 16), some (.int (nI c)), some (.int (nI (k + 1)))]) t37_81 rfl (nI_add k 1) rfl (Nat.le_of_ble_eq_true rfl) ?_
        refine ep_gt t37_84 ?_
        refine L_fp2_16 hA hw hc K d (k + 1) σ2 (by omega) (fun r hr => (j1 r hr).trans (h1 r hr)) (fun v hv => ?_)
        rw [j2 v hv]
        by_cases e : (pm T c k (T (20 + k)) ||| pm T c k (T (28 + k))).testBit v = true
        · rw [if_pos e, pm_in hv hact e]
        · rw [if_neg e, h2 v hv, pm_out hv e]
theorem cl_Net_formParts_16 {X : gX} {q : Bool} {σ : gT1} {T : Nat → Nat} {c : Nat} (hA : (∀ j, j < 4 → σ 16 j = nI (T j)) ∧ ∀ k, k < T 3 → σ 17 k = nI (T (4 + k)) ∧ σ 18 k = nI (T (12 + k)) ∧ σ 19 k = nI (T (20 + k)) ∧ σ 20 k = sec T k) (hw : WF0 T) (hc : c < 2147483648) : ClP X 37 [.ref 16, .int (nI c)] (47, g_rho q, σ) (fun v g1 => v = none ∧ ∃ σ1, g1 = (47, g_rho q, σ1) ∧ (∀ r, r ≠ 24 → σ1 r = σ r) ∧ ∀ v, v < T 0 → σ1 24 v = nI (pm T c (T 3) v)) := by
  refine ClP.of ⟨Nat.le_of_ble_eq_true rfl, rfl⟩ ?_
  show EvP X 37 0 [some (.ref 16), some (.int (nI c)), none] [] (47, g_rho q, σ) _
  refine ep_k1 (w := nI 0) t37_0 rfl ?_
  refine ep_isn (L' := [some (.ref 16), some (.int (nI c)), some (.int (nI 0))]) t37_1 rfl (Nat.le_of_ble_eq_true rfl) ?_
  refine L_fp1_16 hA hw hc (fun σ1 a1 a2 => ?_) (T 0) 0 σ (by omega) (fun _ _ => rfl) (fun v hv => absurd hv (Nat.not_lt_zero v))
  refine ep_k1 (w := nI 0) t37_25 rfl ?_
  refine ep_isn (L' := [some (.ref 16), some (.int (nI c)), some (.int (nI 0))]) t37_26 rfl (Nat.le_of_ble_eq_true rfl) ?_
  exact L_fp2_16 hA hw hc (fun σ2 b1 b2 => ⟨rfl, σ2, rfl, b1, b2⟩) (T 3) 0 σ1 (by omega) a1 a2

theorem L_lw_16 {X : gX} {q : Bool} {σ : gT1} {T : Nat → Nat} {c u : Nat} {P : Option Value → gS → Prop} (hu : u < T 0) (h6 : T 0 ≤ 6) (eu : σ 24 u = nI (pm T c (T 3) u)) (K : ∀ x : Nat, (Cn T c u x ∧ ∀ j, j < x → ¬ Cn T c u j) → P (some (.int (nI x))) (47, g_rho q, σ)) : ∀ (d x : Nat), x + d = u → (∀ j, j < x → ¬ Cn T c u j) → EvP X 75 7 [some (.ref 16), some (.int (nI c)), some (.int (nI u)), some (.int (nI x))] [] (47, g_rho q, σ) P
  | 0, x, hk, h2 => by
    refine ep_iln t75_7 rfl ?_
    refine ep_iln t75_8 rfl ?_
    refine ep_ifP t75_9 (ic_ge (by omega) (by omega)) (fun (c9 : u ≤ x) => ?_) (fun (c9 : ¬ (u ≤ x)) => (by exact absurd (by omega) c9))
    refine ep_iln t75_31 rfl ?_
    refine ep_ri t75_32 (fun h => absurd h (by decide)) ?_
    exact K x ⟨(by omega : u = x) ▸ Cn.rf, h2⟩
  | d + 1, x, hk, h2 => by
    refine ep_iln t75_7 rfl ?_
    refine ep_iln t75_8 rfl ?_
    refine ep_ifP t75_9 (ic_ge (by have := pm_lt h6 c (T 3) u; omega) (by have := pm_lt h6 c (T 3) u; omega)) (fun (c9 : u ≤ x) => ?_) (fun (c9 : ¬ (u ≤ x)) => ?_)
    · refine ep_iln t75_31 rfl ?_
      refine ep_ri t75_32 (fun h => absurd h (by decide)) ?_
      first
      | exact K x ⟨(by omega : u = x) ▸ Cn.rf, h2⟩
      | exact K x ⟨(pm_bit.mp c22).2, h2⟩
    · refine ep_aln t75_12 rfl ?_
      refine ep_getr (q := 24) t75_13 rfl (Nat.le_of_ble_eq_true rfl) rfl (rfl) ?_
      refine ep_iln t75_16 rfl ?_
      refine ep_aldN t75_17 rfl (Nat.le_of_ble_eq_true rfl) (Nat.ne_of_beq_eq_false rfl) (Nat.le_of_ble_eq_true rfl) (by have := pm_lt h6 c (T 3) u; omega) ?_
      refine ep_val (b := nI (pm T c (T 3) u)) (eu) ?_
      refine ep_iln t75_18 rfl ?_
      refine ep_cs t75_19 (Nat.ne_of_beq_eq_false rfl) rfl (Nat.le_of_ble_eq_true rfl) (cl_B_bit (by have := pm_lt h6 c (T 3) u; omega) (by have := pm_lt h6 c (T 3) u; omega)) ?_
      refine ep_bT t75_22 (fun (c22 : (Nat.testBit (pm T c (T 3) u) x) = true) => ?_) (fun (c22 : (Nat.testBit (pm T c (T 3) u) x) = false) => ?_)
      · refine ep_iln t75_31 rfl ?_
        refine ep_ri t75_32 (fun h => absurd h (by decide)) ?_
        first
        | exact K x ⟨(by omega : u = x) ▸ Cn.rf, h2⟩
        | exact K x ⟨(pm_bit.mp c22).2, h2⟩
      · refine ep_inc (b := nI (x + 1)) (L' := [some (.ref 16), some (.int (nI c)), some (.int (nI u)), some (.int (nI (x + 1)))]) t75_25 rfl (nI_add x 1) rfl (Nat.le_of_ble_eq_true rfl) ?_
        refine ep_gt t75_28 ?_
        refine L_lw_16 hu h6 eu K d (x + 1) (by omega) (fun j hj => ?_)
        by_cases e : j = x
        · subst e
          intro hq
          have := pm_bit.mpr ⟨by omega, hq⟩
          rw [c22] at this
          exact absurd this (by decide)
        · exact h2 j (by omega)
theorem cl_Net_lowest_16 {X : gX} {q : Bool} {σ : gT1} {T : Nat → Nat} {c u : Nat} (hA : (∀ j, j < 4 → σ 16 j = nI (T j)) ∧ ∀ k, k < T 3 → σ 17 k = nI (T (4 + k)) ∧ σ 18 k = nI (T (12 + k)) ∧ σ 19 k = nI (T (20 + k)) ∧ σ 20 k = sec T k) (hw : WF0 T) (hc : c < 2147483648) (hu : u < T 0) : ClP X 75 [.ref 16, .int (nI c), .int (nI u)] (47, g_rho q, σ) (fun v g1 => ∃ x σ1, v = some (.int (nI x)) ∧ g1 = (47, g_rho q, σ1) ∧ (∀ r, r ≠ 24 → σ1 r = σ r) ∧ Cn T c u x ∧ ∀ j, j < x → ¬ Cn T c u j) := by
  refine ClP.of ⟨Nat.le_of_ble_eq_true rfl, rfl⟩ ?_
  show EvP X 75 0 [some (.ref 16), some (.int (nI c)), some (.int (nI u)), none] [] (47, g_rho q, σ) _
  refine ep_aln t75_0 rfl ?_
  refine ep_iln t75_1 rfl ?_
  obtain ⟨v9, g9, hj9, rfl, σ1, rfl, j1, j2⟩ := cl_Net_formParts_16 (X := X) (q := q) (σ := σ) (T := T) (c := c) hA hw hc
  refine ep_cv t75_2 rfl rfl (Nat.le_of_ble_eq_true rfl) (Nat.le_of_ble_eq_true rfl) (hj9) ?_
  refine ep_k1 (w := nI 0) t75_5 rfl ?_
  refine ep_isn (L' := [some (.ref 16), some (.int (nI c)), some (.int (nI u)), some (.int (nI 0))]) t75_6 rfl (Nat.le_of_ble_eq_true rfl) ?_
  exact L_lw_16 hu hw.1 (j2 u hu) (fun x hx => ⟨x, σ1, rfl, rfl, j1, hx⟩) u 0 (by omega) (fun j hj => absurd hj (Nat.not_lt_zero j))

