/-! The model: what is live and earthed, why not. -/
theorem or_bit {x u i : Nat} : (x ||| 2 ^ u).testBit i = true ↔ x.testBit i = true ∨ i = u := by
  rw [Nat.testBit_or, Nat.testBit_two_pow, Bool.or_eq_true, decide_eq_true_eq]
  constructor
  · rintro (h | h)
    · exact Or.inl h
    · exact Or.inr h.symm
  · rintro (h | h)
    · exact Or.inl h
    · exact Or.inr h.symm
theorem and_not (a k : Nat) : nI a &&& (nI (2 ^ k) ^^^ (-1)) = nI (clr a k) := by
  apply Int32.toBitVec_inj.mp
  rw [Int32.toBitVec_and, Int32.toBitVec_xor]
  apply BitVec.eq_of_getLsbD_eq
  intro i hi
  show (BitVec.ofNat 32 a &&& (BitVec.ofNat 32 (2 ^ k) ^^^ BitVec.allOnes 32)).getLsbD i = (BitVec.ofNat 32 (a ^^^ (a &&& 2 ^ k))).getLsbD i
  simp only [BitVec.getLsbD_and, BitVec.getLsbD_xor, BitVec.getLsbD_ofNat, BitVec.getLsbD_allOnes, hi, decide_true, Bool.true_and, Nat.testBit_xor, Nat.testBit_and]
  cases a.testBit i <;> cases (2 ^ k).testBit i <;> rfl
theorem clr_bit (a k i : Nat) : (clr a k).testBit i = (a.testBit i && !decide (k = i)) := by
  unfold clr
  rw [Nat.testBit_xor, Nat.testBit_and, Nat.testBit_two_pow]
  cases a.testBit i <;> cases decide (k = i) <;> rfl
theorem clr_le (a k n : Nat) (h : a < 2 ^ n) : clr a k < 2 ^ n := lt_of_bits (fun i hi => by
  rw [clr_bit] at hi
  simp only [Bool.and_eq_true] at hi
  exact Nat.lt_of_not_le (fun q => by
    have := Nat.testBit_lt_two_pow (x := a) (i := i) (Nat.lt_of_lt_of_le h (Nat.pow_le_pow_right (by decide) q))
    rw [this] at hi
    exact absurd hi.1 (by decide)))
theorem lt_bit {a n i : Nat} (h : a < 2 ^ n) (hb : a.testBit i = true) : i < n := Nat.lt_of_not_le (fun q => by
  have := Nat.testBit_lt_two_pow (x := a) (i := i) (Nat.lt_of_lt_of_le h (Nat.pow_le_pow_right (by decide) q))
  rw [this] at hb
  exact absurd hb (by decide))
theorem lt31 {a n : Nat} (h : a < 2 ^ n) (hn : n ≤ 30) : a < 2147483648 := Nat.lt_of_lt_of_le h (Nat.le_trans (Nat.pow_le_pow_right (by decide) hn) (by decide))
theorem L_sp3_33 {X : gX} {q : Bool} {σ : gT1} {n set : Nat} {lab : Nat → Nat} {P : Option Value → gS → Prop} (hn : n ≤ 6) (e0 : σ 33 0 = nI n) (hlab : ∀ u, u < n → σ 43 u = nI (lab u)) (hll : ∀ u, u < n → lab u < 6) (hset : set < 2147483648) {u : Nat} (hu : u < n) (K : ∀ its : Nat, (∀ i, its.testBit i = true ↔ (i < u ∧ ∃ v, v < n ∧ set.testBit v = true ∧ lab i = lab v) ∨ (i = u ∧ ∃ v, v < n ∧ set.testBit v = true ∧ lab u = lab v)) → EvP X 60 67 [some (.ref 31), some (.ref 33), some (.int (nI set)), some (.int (nI its)), some (.int (nI u)), some (.int (nI n))] [] (47, g_rho q, σ) P) : ∀ (d j its : Nat), j + d = n → (∀ i, its.testBit i = true ↔ (i < u ∧ ∃ v, v < n ∧ set.testBit v = true ∧ lab i = lab v) ∨ (i = u ∧ ∃ v, v < j ∧ set.testBit v = true ∧ lab u = lab v)) → EvP X 60 16 [some (.ref 31), some (.ref 33), some (.int (nI set)), some (.int (nI its)), some (.int (nI u)), some (.int (nI j))] [] (47, g_rho q, σ) P
  | 0, j, its, hk, h2 => by
    obtain rfl : n = j := by omega
    refine ep_il t60_16 rfl ?_
    refine ep_aln t60_18 rfl ?_
    refine ep_k1 (w := nI 0) t60_19 rfl ?_
    refine ep_aldN t60_20 rfl (Nat.le_of_ble_eq_true rfl) (Nat.ne_of_beq_eq_false rfl) (Nat.le_of_ble_eq_true rfl) (by have := hn; omega) ?_
    refine ep_val (b := nI n) (e0) ?_
    refine ep_ifP t60_21 (ic_ge (by have := hn; omega) (by have := hn; omega)) (fun (c21 : n ≤ n) => ?_) (fun (c21 : ¬ (n ≤ n)) => (by exact absurd (Nat.le_refl _) c21))
    exact K its h2
  | d + 1, j, its, hk, h2 => by
    refine ep_il t60_16 rfl ?_
    refine ep_aln t60_18 rfl ?_
    refine ep_k1 (w := nI 0) t60_19 rfl ?_
    refine ep_aldN t60_20 rfl (Nat.le_of_ble_eq_true rfl) (Nat.ne_of_beq_eq_false rfl) (Nat.le_of_ble_eq_true rfl) (by have := hn; omega) ?_
    refine ep_val (b := nI n) (e0) ?_
    refine ep_ifP t60_21 (ic_ge (by have := hn; omega) (by have := hn; omega)) (fun (c21 : n ≤ j) => (by omega)) (fun (c21 : ¬ (n ≤ j)) => ?_)
    refine ep_iln t60_24 rfl ?_
    refine ep_iln t60_25 rfl ?_
    refine ep_il t60_26 rfl ?_
    refine ep_cs t60_28 (Nat.ne_of_beq_eq_false rfl) rfl (Nat.le_of_ble_eq_true rfl) (cl_M_has (by have := hn; omega) (by have := hn; omega)) ?_
    refine ep_bF t60_31 (fun (c31 : (Nat.testBit set j) = false) => ?_) (fun (c31 : (Nat.testBit set j) = true) => ?_)
    · refine ep_k1 (w := nI 0) t60_58 rfl ?_
      refine ep_orN (a := its) (b := 0) t60_59 ?_
      refine ep_isn (L' := [some (.ref 31), some (.ref 33), some (.int (nI set)), some (.int (nI (its ||| 0))), some (.int (nI u)), some (.int (nI j))]) t60_60 rfl (Nat.le_of_ble_eq_true rfl) ?_
      refine ep_inc (b := nI (j + 1)) (L' := [some (.ref 31), some (.ref 33), some (.int (nI set)), some (.int (nI (its ||| 0))), some (.int (nI u)), some (.int (nI (j + 1)))]) t60_61 rfl (nI_add j 1) rfl (Nat.le_of_ble_eq_true rfl) ?_
      refine ep_gt t60_64 ?_
      exact L_sp3_33 hn e0 hlab hll hset hu K d (j + 1) _ (by omega) (fun i => by
        rw [Nat.or_zero, h2 i]
        constructor
        · rintro (h | ⟨h, v, g1, g2⟩)
          · exact Or.inl h
          · exact Or.inr ⟨h, v, by omega, g2⟩
        · rintro (h | ⟨h, v, g1, g2⟩)
          · exact Or.inl h
          · refine Or.inr ⟨h, v, ?_, g2⟩
            by_cases e : v = j
            · subst e
              first
              | exact absurd g2.1 (by rw [c31]; decide)
              | exact absurd g2.2 c48
            · omega)
    · refine ep_aln t60_34 rfl ?_
      refine ep_getr (q := 43) t60_35 rfl (Nat.le_of_ble_eq_true rfl) rfl (rfl) ?_
      refine ep_il t60_38 rfl ?_
      refine ep_aldN t60_40 rfl (Nat.le_of_ble_eq_true rfl) (Nat.ne_of_beq_eq_false rfl) (Nat.le_of_ble_eq_true rfl) (by have := hn; omega) ?_
      refine ep_val (b := nI (lab u)) (hlab u (by omega)) ?_
      refine ep_aln t60_41 rfl ?_
      refine ep_getr (q := 43) t60_42 rfl (Nat.le_of_ble_eq_true rfl) rfl (rfl) ?_
      refine ep_il t60_45 rfl ?_
      refine ep_aldN t60_47 rfl (Nat.le_of_ble_eq_true rfl) (Nat.ne_of_beq_eq_false rfl) (Nat.le_of_ble_eq_true rfl) (by have := hn; omega) ?_
      refine ep_val (b := nI (lab j)) (hlab j (by omega)) ?_
      have hlu := hll u hu
      have hlj := hll j (by omega)
      refine ep_ifP t60_48 (ic_ne (by have := hn; omega) (by have := hn; omega)) (fun (c48 : ¬ (lab u) = (lab j)) => ?_) (fun (c48 : ¬ (¬ (lab u) = (lab j))) => ?_)
      · refine ep_k1 (w := nI 0) t60_58 rfl ?_
        refine ep_orN (a := its) (b := 0) t60_59 ?_
        refine ep_isn (L' := [some (.ref 31), some (.ref 33), some (.int (nI set)), some (.int (nI (its ||| 0))), some (.int (nI u)), some (.int (nI j))]) t60_60 rfl (Nat.le_of_ble_eq_true rfl) ?_
        refine ep_inc (b := nI (j + 1)) (L' := [some (.ref 31), some (.ref 33), some (.int (nI set)), some (.int (nI (its ||| 0))), some (.int (nI u)), some (.int (nI (j + 1)))]) t60_61 rfl (nI_add j 1) rfl (Nat.le_of_ble_eq_true rfl) ?_
        refine ep_gt t60_64 ?_
        exact L_sp3_33 hn e0 hlab hll hset hu K d (j + 1) _ (by omega) (fun i => by
          rw [Nat.or_zero, h2 i]
          constructor
          · rintro (h | ⟨h, v, g1, g2⟩)
            · exact Or.inl h
            · exact Or.inr ⟨h, v, by omega, g2⟩
          · rintro (h | ⟨h, v, g1, g2⟩)
            · exact Or.inl h
            · refine Or.inr ⟨h, v, ?_, g2⟩
              by_cases e : v = j
              · subst e
                first
                | exact absurd g2.1 (by rw [c31]; decide)
                | exact absurd g2.2 c48
              · omega)
      · refine ep_k1 (w := nI 1) t60_51 rfl ?_
        refine ep_il t60_52 rfl ?_
        refine ep_oneN (b := u) t60_54 (by have := hn; omega) ?_
        refine ep_gt t60_55 ?_
        refine ep_orN (a := its) (b := 2 ^ u) t60_59 ?_
        refine ep_isn (L' := [some (.ref 31), some (.ref 33), some (.int (nI set)), some (.int (nI (its ||| (2 ^ u)))), some (.int (nI u)), some (.int (nI j))]) t60_60 rfl (Nat.le_of_ble_eq_true rfl) ?_
        refine ep_inc (b := nI (j + 1)) (L' := [some (.ref 31), some (.ref 33), some (.int (nI set)), some (.int (nI (its ||| (2 ^ u)))), some (.int (nI u)), some (.int (nI (j + 1)))]) t60_61 rfl (nI_add j 1) rfl (Nat.le_of_ble_eq_true rfl) ?_
        refine ep_gt t60_64 ?_
        exact L_sp3_33 hn e0 hlab hll hset hu K d (j + 1) _ (by omega) (fun i => by
          rw [or_bit, h2 i]
          constructor
          · rintro ((h | ⟨h, v, g1, g2⟩) | h)
            · exact Or.inl h
            · exact Or.inr ⟨h, v, by omega, g2⟩
            · exact Or.inr ⟨h, j, by omega, c31, Classical.byContradiction c48⟩
          · rintro (h | ⟨h, _⟩)
            · exact Or.inl (Or.inl h)
            · exact Or.inr h)
theorem L_sp2_33 {X : gX} {q : Bool} {σ : gT1} {n set : Nat} {lab : Nat → Nat} {P : Option Value → gS → Prop} (hn : n ≤ 6) (e0 : σ 33 0 = nI n) (hlab : ∀ u, u < n → σ 43 u = nI (lab u)) (hll : ∀ u, u < n → lab u < 6) (hset : set < 2147483648) (K : ∀ its : Nat, (∀ i, its.testBit i = true ↔ (i < n ∧ ∃ v, v < n ∧ set.testBit v = true ∧ lab i = lab v)) → P (some (.int (nI its))) (47, g_rho q, σ)) : ∀ (d u its : Nat) (o5 : Option Value), u + d = n → (∀ i, its.testBit i = true ↔ (i < u ∧ ∃ v, v < n ∧ set.testBit v = true ∧ lab i = lab v)) → EvP X 60 5 [some (.ref 31), some (.ref 33), some (.int (nI set)), some (.int (nI its)), some (.int (nI u)), o5] [] (47, g_rho q, σ) P
  | 0, u, its, o5, hk, h2 => by
    obtain rfl : n = u := by omega
    refine ep_il t60_5 rfl ?_
    refine ep_aln t60_7 rfl ?_
    refine ep_k1 (w := nI 0) t60_8 rfl ?_
    refine ep_aldN t60_9 rfl (Nat.le_of_ble_eq_true rfl) (Nat.ne_of_beq_eq_false rfl) (Nat.le_of_ble_eq_true rfl) (by have := hn; omega) ?_
    refine ep_val (b := nI n) (e0) ?_
    refine ep_ifP t60_10 (ic_ge (by have := hn; omega) (by have := hn; omega)) (fun (c10 : n ≤ n) => ?_) (fun (c10 : ¬ (n ≤ n)) => (by exact absurd (Nat.le_refl _) c10))
    refine ep_iln t60_73 rfl ?_
    refine ep_ri t60_74 (fun h => absurd h (by decide)) ?_
    exact K its h2
  | d + 1, u, its, o5, hk, h2 => by
    refine ep_il t60_5 rfl ?_
    refine ep_aln t60_7 rfl ?_
    refine ep_k1 (w := nI 0) t60_8 rfl ?_
    refine ep_aldN t60_9 rfl (Nat.le_of_ble_eq_true rfl) (Nat.ne_of_beq_eq_false rfl) (Nat.le_of_ble_eq_true rfl) (by have := hn; omega) ?_
    refine ep_val (b := nI n) (e0) ?_
    refine ep_ifP t60_10 (ic_ge (by have := hn; omega) (by have := hn; omega)) (fun (c10 : n ≤ u) => (by omega)) (fun (c10 : ¬ (n ≤ u)) => ?_)
    refine ep_k1 (w := nI 0) t60_13 rfl ?_
    refine ep_is (L' := [some (.ref 31), some (.ref 33), some (.int (nI set)), some (.int (nI its)), some (.int (nI u)), some (.int (nI 0))]) t60_14 rfl (Nat.le_of_ble_eq_true rfl) ?_
    refine L_sp3_33 hn e0 hlab hll hset (by omega) (fun its2 g => ?_) n 0 its (by omega) (fun i => ?_)
    rotate_left
    · rw [h2 i]
      constructor
      · exact fun h => Or.inl h
      · rintro (h | ⟨_, v, g1, _⟩)
        · exact h
        · exact absurd g1 (Nat.not_lt_zero v)
    refine ep_inc (b := nI (u + 1)) (L' := [some (.ref 31), some (.ref 33), some (.int (nI set)), some (.int (nI its2)), some (.int (nI (u + 1))), some (.int (nI n))]) t60_67 rfl (nI_add u 1) rfl (Nat.le_of_ble_eq_true rfl) ?_
    refine ep_gt t60_70 ?_
    exact L_sp2_33 hn e0 hlab hll hset K d (u + 1) its2 _ (by omega) (fun i => by
      rw [g i]
      constructor
      · rintro (⟨h, k⟩ | ⟨h, k⟩)
        · exact ⟨by omega, k⟩
        · exact ⟨by omega, h ▸ k⟩
      · rintro ⟨h, k⟩
        by_cases e : i = u
        · exact Or.inr ⟨e, e ▸ k⟩
        · exact Or.inl ⟨by omega, k⟩)
theorem cl_M_spread_33 {X : gX} {q : Bool} {σ : gT1} {n set : Nat} {lab : Nat → Nat} (hn : n ≤ 6) (e0 : σ 33 0 = nI n) (hlab : ∀ u, u < n → σ 43 u = nI (lab u)) (hll : ∀ u, u < n → lab u < 6) (hset : set < 2147483648) : Cl X 60 [.ref 31, .ref 33, .int (nI set)] (47, g_rho q, σ) (some (.int (nI (mk n (fun i => ∃ v, v < n ∧ set.testBit v = true ∧ lab i = lab v))))) (47, g_rho q, σ) := by
  refine Cl.of ⟨Nat.le_of_ble_eq_true rfl, rfl⟩ ?_
  show EvP X 60 0 [some (.ref 31), some (.ref 33), some (.int (nI set)), none, none, none] [] (47, g_rho q, σ) _
  refine ep_k1 (w := nI 0) t60_0 rfl ?_
  refine ep_isn (L' := [some (.ref 31), some (.ref 33), some (.int (nI set)), some (.int (nI 0)), none, none]) t60_1 rfl (Nat.le_of_ble_eq_true rfl) ?_
  refine ep_k1 (w := nI 0) t60_2 rfl ?_
  refine ep_is (L' := [some (.ref 31), some (.ref 33), some (.int (nI set)), some (.int (nI 0)), some (.int (nI 0)), none]) t60_3 rfl (Nat.le_of_ble_eq_true rfl) ?_
  exact L_sp2_33 hn e0 hlab hll hset (fun its h => ⟨by rw [mk_eq h], rfl⟩) n 0 0 _ (by omega) (fun i => ⟨fun h => by simp at h, fun h => absurd h.1 (Nat.not_lt_zero i)⟩)

theorem cl_M_liveBy_33 {X : gX} {q : Bool} {σ : gT1} {T : Nat → Nat} {c : Nat} (hT : ToldM (σ 33) T) (hw : WF0 T) (h31 : T 1 < 2147483648) (hc : c < 2147483648) : ClP X 61 [.ref 31, .ref 33, .int (nI c)] (47, g_rho q, σ) (fun v g1 => ∃ σ1 lab, v = some (.int (nI (liveM T c))) ∧ g1 = (47, g_rho q, σ1) ∧ (∀ p, p ≠ 43 → σ1 p = σ p) ∧ (∀ u, u < T 0 → σ1 43 u = nI (lab u)) ∧ POK T c lab) := by
  refine ClP.of ⟨Nat.le_of_ble_eq_true rfl, rfl⟩ ?_
  show EvP X 61 0 [some (.ref 31), some (.ref 33), some (.int (nI c))] [] (47, g_rho q, σ) _
  refine ep_aln t61_0 rfl ?_
  refine ep_aln t61_1 rfl ?_
  refine ep_iln t61_2 rfl ?_
  obtain ⟨v1, g1, hb, rfl, σ1, lab, rfl, b1, b2, b3⟩ := cl_M_partsBy_33 (X := X) (q := q) (σ := σ) (T := T) (c := c) hT hw hc
  have b0 : σ1 33 = σ 33 := b1 33 (by decide)
  have hll : ∀ u, u < T 0 → lab u < 6 := fun u hu => by have := (b3 u hu).1.1; have := hw.1; omega
  refine ep_cv t61_3 rfl rfl (Nat.le_of_ble_eq_true rfl) (Nat.le_of_ble_eq_true rfl) (hb) ?_
  refine ep_aln t61_6 rfl ?_
  refine ep_aln t61_7 rfl ?_
  refine ep_aln t61_8 rfl ?_
  refine ep_k1 (w := nI 1) t61_9 rfl ?_
  refine ep_aldN t61_10 rfl (Nat.le_of_ble_eq_true rfl) (Nat.ne_of_beq_eq_false rfl) (Nat.le_of_ble_eq_true rfl) (by omega) ?_
  refine ep_val (b := nI (T 1)) ((congrFun b0 1).trans (hT.1 1 (by decide))) ?_
  refine ep_cv t61_11 rfl rfl (Nat.le_of_ble_eq_true rfl) (Nat.le_of_ble_eq_true rfl) (cl_M_spread_33 (n := T 0) (lab := lab) hw.1 ((congrFun b0 0).trans (hT.1 0 (by decide))) b2 hll h31) ?_
  refine ep_ri t61_14 (fun h => absurd h (by decide)) ?_
  refine ⟨σ1, lab, ?_, rfl, b1, b2, b3⟩
  have e : mk (T 0) (fun i => ∃ v, v < T 0 ∧ (T 1).testBit v = true ∧ lab i = lab v) = liveM T c := mk_congr (fun i hi => ⟨fun ⟨v, g1, g2, g3⟩ => ⟨v, g1, g2, ((b3.iff hi g1).mp g3).sy⟩, fun ⟨v, g1, g2, g3⟩ => ⟨v, g1, g2, (b3.iff hi g1).mpr g3.sy⟩⟩)
  rw [e]

theorem L_ea_33 {X : gX} {q : Bool} {σ σ1 : gT1} {T : Nat → Nat} {c : Nat} {P : Option Value → gS → Prop} (hT : ToldM (σ 33) T) (hw : WF0 T) (hc : c < 2147483648) (b0 : σ1 33 = σ 33) (K : ∀ set : Nat, (∀ i, set.testBit i = true ↔ ∃ k, k < T 3 ∧ c.testBit k = true ∧ T (4 + k) = 2 ∧ T (20 + k) = i) → EvP X 62 60 [some (.ref 31), some (.ref 33), some (.int (nI c)), some (.int (nI set)), some (.int (nI (T 3)))] [] (47, g_rho q, σ1) P) : ∀ (d k set : Nat), k + d = T 3 → (∀ i, set.testBit i = true ↔ ∃ k2, k2 < k ∧ c.testBit k2 = true ∧ T (4 + k2) = 2 ∧ T (20 + k2) = i) → EvP X 62 11 [some (.ref 31), some (.ref 33), some (.int (nI c)), some (.int (nI set)), some (.int (nI k))] [] (47, g_rho q, σ1) P
  | 0, k, set, hk, h2 => by
    obtain rfl : k = T 3 := by omega
    refine ep_il t62_11 rfl ?_
    refine ep_aln t62_13 rfl ?_
    refine ep_k1 (w := nI 3) t62_14 rfl ?_
    refine ep_aldN t62_15 rfl (Nat.le_of_ble_eq_true rfl) (Nat.ne_of_beq_eq_false rfl) (Nat.le_of_ble_eq_true rfl) (by have := hw.1; have := hw.2.1; omega) ?_
    refine ep_val (b := nI (T 3)) ((congrFun b0 _).trans (hT.1 3 (by decide))) ?_
    refine ep_ifP t62_16 (ic_ge (by have := hw.1; have := hw.2.1; omega) (by have := hw.1; have := hw.2.1; omega)) (fun (c16 : (T 3) ≤ (T 3)) => ?_) (fun (c16 : ¬ ((T 3) ≤ (T 3))) => (by exact absurd (Nat.le_refl _) c16))
    exact K set h2
  | d + 1, k, set, hk, h2 => by
    have hk3 : k < T 3 := by omega
    refine ep_il t62_11 rfl ?_
    refine ep_aln t62_13 rfl ?_
    refine ep_k1 (w := nI 3) t62_14 rfl ?_
    refine ep_aldN t62_15 rfl (Nat.le_of_ble_eq_true rfl) (Nat.ne_of_beq_eq_false rfl) (Nat.le_of_ble_eq_true rfl) (by have := hw.1; have := hw.2.1; have := hw.2.2.2 k hk3; omega) ?_
    refine ep_val (b := nI (T 3)) ((congrFun b0 _).trans (hT.1 3 (by decide))) ?_
    refine ep_ifP t62_16 (ic_ge (by have := hw.1; have := hw.2.1; have := hw.2.2.2 k hk3; omega) (by have := hw.1; have := hw.2.1; have := hw.2.2.2 k hk3; omega)) (fun (c16 : (T 3) ≤ k) => (by omega)) (fun (c16 : ¬ ((T 3) ≤ k)) => ?_)
    refine ep_iln t62_19 rfl ?_
    refine ep_iln t62_20 rfl ?_
    refine ep_il t62_21 rfl ?_
    refine ep_cs t62_23 (Nat.ne_of_beq_eq_false rfl) rfl (Nat.le_of_ble_eq_true rfl) (cl_M_has (by have := hw.1; have := hw.2.1; have := hw.2.2.2 k hk3; omega) (by have := hw.1; have := hw.2.1; have := hw.2.2.2 k hk3; omega)) ?_
    refine ep_bF t62_26 (fun (c26 : (Nat.testBit c k) = false) => ?_) (fun (c26 : (Nat.testBit c k) = true) => ?_)
    · refine ep_k1 (w := nI 0) t62_51 rfl ?_
      refine ep_orN (a := set) (b := 0) t62_52 ?_
      refine ep_isn (L' := [some (.ref 31), some (.ref 33), some (.int (nI c)), some (.int (nI (set ||| 0))), some (.int (nI k))]) t62_53 rfl (Nat.le_of_ble_eq_true rfl) ?_
      refine ep_inc (b := nI (k + 1)) (L' := [some (.ref 31), some (.ref 33), some (.int (nI c)), some (.int (nI (set ||| 0))), some (.int (nI (k + 1)))]) t62_54 rfl (nI_add k 1) rfl (Nat.le_of_ble_eq_true rfl) ?_
      refine ep_gt t62_57 ?_
      exact L_ea_33 hT hw hc b0 K d (k + 1) _ (by omega) (fun i => by
        rw [Nat.or_zero, h2 i]
        constructor
        · rintro ⟨k2, g1, g2⟩
          exact ⟨k2, by omega, g2⟩
        · rintro ⟨k2, g1, g2, g3, g4⟩
          refine ⟨k2, ?_, g2, g3, g4⟩
          by_cases e : k2 = k
          · subst e
            first
            | exact absurd g2 (by rw [c26]; decide)
            | exact absurd g3 c36
          · omega)
    · refine ep_aln t62_29 rfl ?_
      refine ep_k1 (w := nI 4) t62_30 rfl ?_
      refine ep_il t62_31 rfl ?_
      refine ep_addN (a := 4) (b := k) t62_33 ?_
      refine ep_aldN t62_34 rfl (Nat.le_of_ble_eq_true rfl) (Nat.ne_of_beq_eq_false rfl) (Nat.le_of_ble_eq_true rfl) (by have := hw.1; have := hw.2.1; have := hw.2.2.2 k hk3; omega) ?_
      refine ep_val (b := nI (T (4 + k))) ((congrFun b0 _).trans ((hT.2 k hk3).1)) ?_
      refine ep_k1 (w := nI 2) t62_35 rfl ?_
      refine ep_ifP t62_36 (ic_ne (by have := hw.1; have := hw.2.1; have := hw.2.2.2 k hk3; omega) (by have := hw.1; have := hw.2.1; have := hw.2.2.2 k hk3; omega)) (fun (c36 : ¬ (T (4 + k)) = 2) => ?_) (fun (c36 : ¬ (¬ (T (4 + k)) = 2)) => ?_)
      · refine ep_k1 (w := nI 0) t62_51 rfl ?_
        refine ep_orN (a := set) (b := 0) t62_52 ?_
        refine ep_isn (L' := [some (.ref 31), some (.ref 33), some (.int (nI c)), some (.int (nI (set ||| 0))), some (.int (nI k))]) t62_53 rfl (Nat.le_of_ble_eq_true rfl) ?_
        refine ep_inc (b := nI (k + 1)) (L' := [some (.ref 31), some (.ref 33), some (.int (nI c)), some (.int (nI (set ||| 0))), some (.int (nI (k + 1)))]) t62_54 rfl (nI_add k 1) rfl (Nat.le_of_ble_eq_true rfl) ?_
        refine ep_gt t62_57 ?_
        exact L_ea_33 hT hw hc b0 K d (k + 1) _ (by omega) (fun i => by
          rw [Nat.or_zero, h2 i]
          constructor
          · rintro ⟨k2, g1, g2⟩
            exact ⟨k2, by omega, g2⟩
          · rintro ⟨k2, g1, g2, g3, g4⟩
            refine ⟨k2, ?_, g2, g3, g4⟩
            by_cases e : k2 = k
            · subst e
              first
              | exact absurd g2 (by rw [c26]; decide)
              | exact absurd g3 c36
            · omega)
      · have c36' : T (4 + k) = 2 := Classical.byContradiction c36
        have hf := (hw.2.2.1 k hk3).1
        refine ep_k1 (w := nI 1) t62_39 rfl ?_
        refine ep_aln t62_40 rfl ?_
        refine ep_k2 (w := nI 20) t62_41 rfl ?_
        refine ep_il t62_43 rfl ?_
        refine ep_addN (a := 20) (b := k) t62_45 ?_
        refine ep_aldN t62_46 rfl (Nat.le_of_ble_eq_true rfl) (Nat.ne_of_beq_eq_false rfl) (Nat.le_of_ble_eq_true rfl) (by have := hw.1; have := hw.2.1; have := hw.2.2.2 k hk3; omega) ?_
        refine ep_val (b := nI (T (20 + k))) ((congrFun b0 _).trans ((hT.2 k hk3).2.2.1)) ?_
        refine ep_oneN (b := T (20 + k)) t62_47 (by have := hw.1; have := hw.2.1; have := hw.2.2.2 k hk3; omega) ?_
        refine ep_gt t62_48 ?_
        refine ep_orN (a := set) (b := 2 ^ (T (20 + k))) t62_52 ?_
        refine ep_isn (L' := [some (.ref 31), some (.ref 33), some (.int (nI c)), some (.int (nI (set ||| (2 ^ (T (20 + k)))))), some (.int (nI k))]) t62_53 rfl (Nat.le_of_ble_eq_true rfl) ?_
        refine ep_inc (b := nI (k + 1)) (L' := [some (.ref 31), some (.ref 33), some (.int (nI c)), some (.int (nI (set ||| (2 ^ (T (20 + k)))))), some (.int (nI (k + 1)))]) t62_54 rfl (nI_add k 1) rfl (Nat.le_of_ble_eq_true rfl) ?_
        refine ep_gt t62_57 ?_
        exact L_ea_33 hT hw hc b0 K d (k + 1) _ (by omega) (fun i => by
          rw [or_bit, h2 i]
          constructor
          · rintro (⟨k2, g1, g2⟩ | h)
            · exact ⟨k2, by omega, g2⟩
            · exact ⟨k, by omega, c26, c36', h.symm⟩
          · rintro ⟨k2, g1, g2, g3, g4⟩
            by_cases e : k2 = k
            · subst e; exact Or.inr g4.symm
            · exact Or.inl ⟨k2, by omega, g2, g3, g4⟩)
theorem cl_M_earthedBy_33 {X : gX} {q : Bool} {σ : gT1} {T : Nat → Nat} {c : Nat} (hT : ToldM (σ 33) T) (hw : WF0 T) (hc : c < 2147483648) : ClP X 62 [.ref 31, .ref 33, .int (nI c)] (47, g_rho q, σ) (fun v g1 => ∃ σ1 lab, v = some (.int (nI (earthM T c))) ∧ g1 = (47, g_rho q, σ1) ∧ (∀ p, p ≠ 43 → σ1 p = σ p) ∧ (∀ u, u < T 0 → σ1 43 u = nI (lab u)) ∧ POK T c lab) := by
  refine ClP.of ⟨Nat.le_of_ble_eq_true rfl, rfl⟩ ?_
  show EvP X 62 0 [some (.ref 31), some (.ref 33), some (.int (nI c)), none, none] [] (47, g_rho q, σ) _
  refine ep_aln t62_0 rfl ?_
  refine ep_aln t62_1 rfl ?_
  refine ep_iln t62_2 rfl ?_
  obtain ⟨v1, g1, hb, rfl, σ1, lab, rfl, b1, b2, b3⟩ := cl_M_partsBy_33 (X := X) (q := q) (σ := σ) (T := T) (c := c) hT hw hc
  have b0 : σ1 33 = σ 33 := b1 33 (by decide)
  have hll : ∀ u, u < T 0 → lab u < 6 := fun u hu => by have := (b3 u hu).1.1; have := hw.1; omega
  refine ep_cv t62_3 rfl rfl (Nat.le_of_ble_eq_true rfl) (Nat.le_of_ble_eq_true rfl) (hb) ?_
  refine ep_k1 (w := nI 0) t62_6 rfl ?_
  refine ep_isn (L' := [some (.ref 31), some (.ref 33), some (.int (nI c)), some (.int (nI 0)), none]) t62_7 rfl (Nat.le_of_ble_eq_true rfl) ?_
  refine ep_k1 (w := nI 0) t62_8 rfl ?_
  refine ep_is (L' := [some (.ref 31), some (.ref 33), some (.int (nI c)), some (.int (nI 0)), some (.int (nI 0))]) t62_9 rfl (Nat.le_of_ble_eq_true rfl) ?_
  refine L_ea_33 hT hw hc b0 (fun set h2 => ?_) (T 3) 0 0 (by omega) (fun i => ⟨fun h => by simp at h, fun ⟨k, h, _⟩ => absurd h (Nat.not_lt_zero k)⟩)
  refine ep_aln t62_60 rfl ?_
  refine ep_aln t62_61 rfl ?_
  refine ep_iln t62_62 rfl ?_
  have hset : set < 2147483648 := lt31 (n := 6) (lt_of_bits (fun i hi => by
      obtain ⟨k, g1, g2, g3, g4⟩ := (h2 i).mp hi
      have := (hw.2.2.1 k g1).1
      have := hw.1
      omega)) (by decide)
  refine ep_cv t62_63 rfl rfl (Nat.le_of_ble_eq_true rfl) (Nat.le_of_ble_eq_true rfl) (cl_M_spread_33 (n := T 0) (lab := lab) hw.1 ((congrFun b0 0).trans (hT.1 0 (by decide))) b2 hll hset) ?_
  refine ep_ri t62_66 (fun h => absurd h (by decide)) ?_
  refine ⟨σ1, lab, ?_, rfl, b1, b2, b3⟩
  have e : mk (T 0) (fun i => ∃ v, v < T 0 ∧ set.testBit v = true ∧ lab i = lab v) = earthM T c := mk_congr (fun i hi => ⟨fun ⟨v, g1, g2, g3⟩ => by
      obtain ⟨k, z1, z2, z3, z4⟩ := (h2 v).mp g2
      exact ⟨k, z1, z2, z3, z4 ▸ ((b3.iff hi g1).mp g3).sy⟩, fun ⟨k, z1, z2, z3, z4⟩ => ⟨T (20 + k), (hw.2.2.1 k z1).1, (h2 _).mpr ⟨k, z1, z2, z3, rfl⟩, (b3.iff hi (hw.2.2.1 k z1).1).mpr z4.sy⟩⟩)
  rw [e]

theorem L_sp3_34 {X : gX} {q : Bool} {σ : gT1} {n set : Nat} {lab : Nat → Nat} {P : Option Value → gS → Prop} (hn : n ≤ 6) (e0 : σ 34 0 = nI n) (hlab : ∀ u, u < n → σ 43 u = nI (lab u)) (hll : ∀ u, u < n → lab u < 6) (hset : set < 2147483648) {u : Nat} (hu : u < n) (K : ∀ its : Nat, (∀ i, its.testBit i = true ↔ (i < u ∧ ∃ v, v < n ∧ set.testBit v = true ∧ lab i = lab v) ∨ (i = u ∧ ∃ v, v < n ∧ set.testBit v = true ∧ lab u = lab v)) → EvP X 60 67 [some (.ref 31), some (.ref 34), some (.int (nI set)), some (.int (nI its)), some (.int (nI u)), some (.int (nI n))] [] (47, g_rho q, σ) P) : ∀ (d j its : Nat), j + d = n → (∀ i, its.testBit i = true ↔ (i < u ∧ ∃ v, v < n ∧ set.testBit v = true ∧ lab i = lab v) ∨ (i = u ∧ ∃ v, v < j ∧ set.testBit v = true ∧ lab u = lab v)) → EvP X 60 16 [some (.ref 31), some (.ref 34), some (.int (nI set)), some (.int (nI its)), some (.int (nI u)), some (.int (nI j))] [] (47, g_rho q, σ) P
  | 0, j, its, hk, h2 => by
    obtain rfl : n = j := by omega
    refine ep_il t60_16 rfl ?_
    refine ep_aln t60_18 rfl ?_
    refine ep_k1 (w := nI 0) t60_19 rfl ?_
    refine ep_aldN t60_20 rfl (Nat.le_of_ble_eq_true rfl) (Nat.ne_of_beq_eq_false rfl) (Nat.le_of_ble_eq_true rfl) (by have := hn; omega) ?_
    refine ep_val (b := nI n) (e0) ?_
    refine ep_ifP t60_21 (ic_ge (by have := hn; omega) (by have := hn; omega)) (fun (c21 : n ≤ n) => ?_) (fun (c21 : ¬ (n ≤ n)) => (by exact absurd (Nat.le_refl _) c21))
    exact K its h2
  | d + 1, j, its, hk, h2 => by
    refine ep_il t60_16 rfl ?_
    refine ep_aln t60_18 rfl ?_
    refine ep_k1 (w := nI 0) t60_19 rfl ?_
    refine ep_aldN t60_20 rfl (Nat.le_of_ble_eq_true rfl) (Nat.ne_of_beq_eq_false rfl) (Nat.le_of_ble_eq_true rfl) (by have := hn; omega) ?_
    refine ep_val (b := nI n) (e0) ?_
    refine ep_ifP t60_21 (ic_ge (by have := hn; omega) (by have := hn; omega)) (fun (c21 : n ≤ j) => (by omega)) (fun (c21 : ¬ (n ≤ j)) => ?_)
    refine ep_iln t60_24 rfl ?_
    refine ep_iln t60_25 rfl ?_
    refine ep_il t60_26 rfl ?_
    refine ep_cs t60_28 (Nat.ne_of_beq_eq_false rfl) rfl (Nat.le_of_ble_eq_true rfl) (cl_M_has (by have := hn; omega) (by have := hn; omega)) ?_
    refine ep_bF t60_31 (fun (c31 : (Nat.testBit set j) = false) => ?_) (fun (c31 : (Nat.testBit set j) = true) => ?_)
    · refine ep_k1 (w := nI 0) t60_58 rfl ?_
      refine ep_orN (a := its) (b := 0) t60_59 ?_
      refine ep_isn (L' := [some (.ref 31), some (.ref 34), some (.int (nI set)), some (.int (nI (its ||| 0))), some (.int (nI u)), some (.int (nI j))]) t60_60 rfl (Nat.le_of_ble_eq_true rfl) ?_
      refine ep_inc (b := nI (j + 1)) (L' := [some (.ref 31), some (.ref 34), some (.int (nI set)), some (.int (nI (its ||| 0))), some (.int (nI u)), some (.int (nI (j + 1)))]) t60_61 rfl (nI_add j 1) rfl (Nat.le_of_ble_eq_true rfl) ?_
      refine ep_gt t60_64 ?_
      exact L_sp3_34 hn e0 hlab hll hset hu K d (j + 1) _ (by omega) (fun i => by
        rw [Nat.or_zero, h2 i]
        constructor
        · rintro (h | ⟨h, v, g1, g2⟩)
          · exact Or.inl h
          · exact Or.inr ⟨h, v, by omega, g2⟩
        · rintro (h | ⟨h, v, g1, g2⟩)
          · exact Or.inl h
          · refine Or.inr ⟨h, v, ?_, g2⟩
            by_cases e : v = j
            · subst e
              first
              | exact absurd g2.1 (by rw [c31]; decide)
              | exact absurd g2.2 c48
            · omega)
    · refine ep_aln t60_34 rfl ?_
      refine ep_getr (q := 43) t60_35 rfl (Nat.le_of_ble_eq_true rfl) rfl (rfl) ?_
      refine ep_il t60_38 rfl ?_
      refine ep_aldN t60_40 rfl (Nat.le_of_ble_eq_true rfl) (Nat.ne_of_beq_eq_false rfl) (Nat.le_of_ble_eq_true rfl) (by have := hn; omega) ?_
      refine ep_val (b := nI (lab u)) (hlab u (by omega)) ?_
      refine ep_aln t60_41 rfl ?_
      refine ep_getr (q := 43) t60_42 rfl (Nat.le_of_ble_eq_true rfl) rfl (rfl) ?_
      refine ep_il t60_45 rfl ?_
      refine ep_aldN t60_47 rfl (Nat.le_of_ble_eq_true rfl) (Nat.ne_of_beq_eq_false rfl) (Nat.le_of_ble_eq_true rfl) (by have := hn; omega) ?_
      refine ep_val (b := nI (lab j)) (hlab j (by omega)) ?_
      have hlu := hll u hu
      have hlj := hll j (by omega)
      refine ep_ifP t60_48 (ic_ne (by have := hn; omega) (by have := hn; omega)) (fun (c48 : ¬ (lab u) = (lab j)) => ?_) (fun (c48 : ¬ (¬ (lab u) = (lab j))) => ?_)
      · refine ep_k1 (w := nI 0) t60_58 rfl ?_
        refine ep_orN (a := its) (b := 0) t60_59 ?_
        refine ep_isn (L' := [some (.ref 31), some (.ref 34), some (.int (nI set)), some (.int (nI (its ||| 0))), some (.int (nI u)), some (.int (nI j))]) t60_60 rfl (Nat.le_of_ble_eq_true rfl) ?_
        refine ep_inc (b := nI (j + 1)) (L' := [some (.ref 31), some (.ref 34), some (.int (nI set)), some (.int (nI (its ||| 0))), some (.int (nI u)), some (.int (nI (j + 1)))]) t60_61 rfl (nI_add j 1) rfl (Nat.le_of_ble_eq_true rfl) ?_
        refine ep_gt t60_64 ?_
        exact L_sp3_34 hn e0 hlab hll hset hu K d (j + 1) _ (by omega) (fun i => by
          rw [Nat.or_zero, h2 i]
          constructor
          · rintro (h | ⟨h, v, g1, g2⟩)
            · exact Or.inl h
            · exact Or.inr ⟨h, v, by omega, g2⟩
          · rintro (h | ⟨h, v, g1, g2⟩)
            · exact Or.inl h
            · refine Or.inr ⟨h, v, ?_, g2⟩
              by_cases e : v = j
              · subst e
                first
                | exact absurd g2.1 (by rw [c31]; decide)
                | exact absurd g2.2 c48
              · omega)
      · refine ep_k1 (w := nI 1) t60_51 rfl ?_
        refine ep_il t60_52 rfl ?_
        refine ep_oneN (b := u) t60_54 (by have := hn; omega) ?_
        refine ep_gt t60_55 ?_
        refine ep_orN (a := its) (b := 2 ^ u) t60_59 ?_
        refine ep_isn (L' := [some (.ref 31), some (.ref 34), some (.int (nI set)), some (.int (nI (its ||| (2 ^ u)))), some (.int (nI u)), some (.int (nI j))]) t60_60 rfl (Nat.le_of_ble_eq_true rfl) ?_
        refine ep_inc (b := nI (j + 1)) (L' := [some (.ref 31), some (.ref 34), some (.int (nI set)), some (.int (nI (its ||| (2 ^ u)))), some (.int (nI u)), some (.int (nI (j + 1)))]) t60_61 rfl (nI_add j 1) rfl (Nat.le_of_ble_eq_true rfl) ?_
        refine ep_gt t60_64 ?_
        exact L_sp3_34 hn e0 hlab hll hset hu K d (j + 1) _ (by omega) (fun i => by
          rw [or_bit, h2 i]
          constructor
          · rintro ((h | ⟨h, v, g1, g2⟩) | h)
            · exact Or.inl h
            · exact Or.inr ⟨h, v, by omega, g2⟩
            · exact Or.inr ⟨h, j, by omega, c31, Classical.byContradiction c48⟩
          · rintro (h | ⟨h, _⟩)
            · exact Or.inl (Or.inl h)
            · exact Or.inr h)
theorem L_sp2_34 {X : gX} {q : Bool} {σ : gT1} {n set : Nat} {lab : Nat → Nat} {P : Option Value → gS → Prop} (hn : n ≤ 6) (e0 : σ 34 0 = nI n) (hlab : ∀ u, u < n → σ 43 u = nI (lab u)) (hll : ∀ u, u < n → lab u < 6) (hset : set < 2147483648) (K : ∀ its : Nat, (∀ i, its.testBit i = true ↔ (i < n ∧ ∃ v, v < n ∧ set.testBit v = true ∧ lab i = lab v)) → P (some (.int (nI its))) (47, g_rho q, σ)) : ∀ (d u its : Nat) (o5 : Option Value), u + d = n → (∀ i, its.testBit i = true ↔ (i < u ∧ ∃ v, v < n ∧ set.testBit v = true ∧ lab i = lab v)) → EvP X 60 5 [some (.ref 31), some (.ref 34), some (.int (nI set)), some (.int (nI its)), some (.int (nI u)), o5] [] (47, g_rho q, σ) P
  | 0, u, its, o5, hk, h2 => by
    obtain rfl : n = u := by omega
    refine ep_il t60_5 rfl ?_
    refine ep_aln t60_7 rfl ?_
    refine ep_k1 (w := nI 0) t60_8 rfl ?_
    refine ep_aldN t60_9 rfl (Nat.le_of_ble_eq_true rfl) (Nat.ne_of_beq_eq_false rfl) (Nat.le_of_ble_eq_true rfl) (by have := hn; omega) ?_
    refine ep_val (b := nI n) (e0) ?_
    refine ep_ifP t60_10 (ic_ge (by have := hn; omega) (by have := hn; omega)) (fun (c10 : n ≤ n) => ?_) (fun (c10 : ¬ (n ≤ n)) => (by exact absurd (Nat.le_refl _) c10))
    refine ep_iln t60_73 rfl ?_
    refine ep_ri t60_74 (fun h => absurd h (by decide)) ?_
    exact K its h2
  | d + 1, u, its, o5, hk, h2 => by
    refine ep_il t60_5 rfl ?_
    refine ep_aln t60_7 rfl ?_
    refine ep_k1 (w := nI 0) t60_8 rfl ?_
    refine ep_aldN t60_9 rfl (Nat.le_of_ble_eq_true rfl) (Nat.ne_of_beq_eq_false rfl) (Nat.le_of_ble_eq_true rfl) (by have := hn; omega) ?_
    refine ep_val (b := nI n) (e0) ?_
    refine ep_ifP t60_10 (ic_ge (by have := hn; omega) (by have := hn; omega)) (fun (c10 : n ≤ u) => (by omega)) (fun (c10 : ¬ (n ≤ u)) => ?_)
    refine ep_k1 (w := nI 0) t60_13 rfl ?_
    refine ep_is (L' := [some (.ref 31), some (.ref 34), some (.int (nI set)), some (.int (nI its)), some (.int (nI u)), some (.int (nI 0))]) t60_14 rfl (Nat.le_of_ble_eq_true rfl) ?_
    refine L_sp3_34 hn e0 hlab hll hset (by omega) (fun its2 g => ?_) n 0 its (by omega) (fun i => ?_)
    rotate_left
    · rw [h2 i]
      constructor
      · exact fun h => Or.inl h
      · rintro (h | ⟨_, v, g1, _⟩)
        · exact h
        · exact absurd g1 (Nat.not_lt_zero v)
    refine ep_inc (b := nI (u + 1)) (L' := [some (.ref 31), some (.ref 34), some (.int (nI set)), some (.int (nI its2)), some (.int (nI (u + 1))), some (.int (nI n))]) t60_67 rfl (nI_add u 1) rfl (Nat.le_of_ble_eq_true rfl) ?_
    refine ep_gt t60_70 ?_
    exact L_sp2_34 hn e0 hlab hll hset K d (u + 1) its2 _ (by omega) (fun i => by
      rw [g i]
      constructor
      · rintro (⟨h, k⟩ | ⟨h, k⟩)
        · exact ⟨by omega, k⟩
        · exact ⟨by omega, h ▸ k⟩
      · rintro ⟨h, k⟩
        by_cases e : i = u
        · exact Or.inr ⟨e, e ▸ k⟩
        · exact Or.inl ⟨by omega, k⟩)
theorem cl_M_spread_34 {X : gX} {q : Bool} {σ : gT1} {n set : Nat} {lab : Nat → Nat} (hn : n ≤ 6) (e0 : σ 34 0 = nI n) (hlab : ∀ u, u < n → σ 43 u = nI (lab u)) (hll : ∀ u, u < n → lab u < 6) (hset : set < 2147483648) : Cl X 60 [.ref 31, .ref 34, .int (nI set)] (47, g_rho q, σ) (some (.int (nI (mk n (fun i => ∃ v, v < n ∧ set.testBit v = true ∧ lab i = lab v))))) (47, g_rho q, σ) := by
  refine Cl.of ⟨Nat.le_of_ble_eq_true rfl, rfl⟩ ?_
  show EvP X 60 0 [some (.ref 31), some (.ref 34), some (.int (nI set)), none, none, none] [] (47, g_rho q, σ) _
  refine ep_k1 (w := nI 0) t60_0 rfl ?_
  refine ep_isn (L' := [some (.ref 31), some (.ref 34), some (.int (nI set)), some (.int (nI 0)), none, none]) t60_1 rfl (Nat.le_of_ble_eq_true rfl) ?_
  refine ep_k1 (w := nI 0) t60_2 rfl ?_
  refine ep_is (L' := [some (.ref 31), some (.ref 34), some (.int (nI set)), some (.int (nI 0)), some (.int (nI 0)), none]) t60_3 rfl (Nat.le_of_ble_eq_true rfl) ?_
  exact L_sp2_34 hn e0 hlab hll hset (fun its h => ⟨by rw [mk_eq h], rfl⟩) n 0 0 _ (by omega) (fun i => ⟨fun h => by simp at h, fun h => absurd h.1 (Nat.not_lt_zero i)⟩)

theorem cl_M_liveBy_34 {X : gX} {q : Bool} {σ : gT1} {T : Nat → Nat} {c : Nat} (hT : ToldM (σ 34) T) (hw : WF0 T) (h31 : T 1 < 2147483648) (hc : c < 2147483648) : ClP X 61 [.ref 31, .ref 34, .int (nI c)] (47, g_rho q, σ) (fun v g1 => ∃ σ1 lab, v = some (.int (nI (liveM T c))) ∧ g1 = (47, g_rho q, σ1) ∧ (∀ p, p ≠ 43 → σ1 p = σ p) ∧ (∀ u, u < T 0 → σ1 43 u = nI (lab u)) ∧ POK T c lab) := by
  refine ClP.of ⟨Nat.le_of_ble_eq_true rfl, rfl⟩ ?_
  show EvP X 61 0 [some (.ref 31), some (.ref 34), some (.int (nI c))] [] (47, g_rho q, σ) _
  refine ep_aln t61_0 rfl ?_
  refine ep_aln t61_1 rfl ?_
  refine ep_iln t61_2 rfl ?_
  obtain ⟨v1, g1, hb, rfl, σ1, lab, rfl, b1, b2, b3⟩ := cl_M_partsBy_34 (X := X) (q := q) (σ := σ) (T := T) (c := c) hT hw hc
  have b0 : σ1 34 = σ 34 := b1 34 (by decide)
  have hll : ∀ u, u < T 0 → lab u < 6 := fun u hu => by have := (b3 u hu).1.1; have := hw.1; omega
  refine ep_cv t61_3 rfl rfl (Nat.le_of_ble_eq_true rfl) (Nat.le_of_ble_eq_true rfl) (hb) ?_
  refine ep_aln t61_6 rfl ?_
  refine ep_aln t61_7 rfl ?_
  refine ep_aln t61_8 rfl ?_
  refine ep_k1 (w := nI 1) t61_9 rfl ?_
  refine ep_aldN t61_10 rfl (Nat.le_of_ble_eq_true rfl) (Nat.ne_of_beq_eq_false rfl) (Nat.le_of_ble_eq_true rfl) (by omega) ?_
  refine ep_val (b := nI (T 1)) ((congrFun b0 1).trans (hT.1 1 (by decide))) ?_
  refine ep_cv t61_11 rfl rfl (Nat.le_of_ble_eq_true rfl) (Nat.le_of_ble_eq_true rfl) (cl_M_spread_34 (n := T 0) (lab := lab) hw.1 ((congrFun b0 0).trans (hT.1 0 (by decide))) b2 hll h31) ?_
  refine ep_ri t61_14 (fun h => absurd h (by decide)) ?_
  refine ⟨σ1, lab, ?_, rfl, b1, b2, b3⟩
  have e : mk (T 0) (fun i => ∃ v, v < T 0 ∧ (T 1).testBit v = true ∧ lab i = lab v) = liveM T c := mk_congr (fun i hi => ⟨fun ⟨v, g1, g2, g3⟩ => ⟨v, g1, g2, ((b3.iff hi g1).mp g3).sy⟩, fun ⟨v, g1, g2, g3⟩ => ⟨v, g1, g2, (b3.iff hi g1).mpr g3.sy⟩⟩)
  rw [e]

theorem L_ea_34 {X : gX} {q : Bool} {σ σ1 : gT1} {T : Nat → Nat} {c : Nat} {P : Option Value → gS → Prop} (hT : ToldM (σ 34) T) (hw : WF0 T) (hc : c < 2147483648) (b0 : σ1 34 = σ 34) (K : ∀ set : Nat, (∀ i, set.testBit i = true ↔ ∃ k, k < T 3 ∧ c.testBit k = true ∧ T (4 + k) = 2 ∧ T (20 + k) = i) → EvP X 62 60 [some (.ref 31), some (.ref 34), some (.int (nI c)), some (.int (nI set)), some (.int (nI (T 3)))] [] (47, g_rho q, σ1) P) : ∀ (d k set : Nat), k + d = T 3 → (∀ i, set.testBit i = true ↔ ∃ k2, k2 < k ∧ c.testBit k2 = true ∧ T (4 + k2) = 2 ∧ T (20 + k2) = i) → EvP X 62 11 [some (.ref 31), some (.ref 34), some (.int (nI c)), some (.int (nI set)), some (.int (nI k))] [] (47, g_rho q, σ1) P
  | 0, k, set, hk, h2 => by
    obtain rfl : k = T 3 := by omega
    refine ep_il t62_11 rfl ?_
    refine ep_aln t62_13 rfl ?_
    refine ep_k1 (w := nI 3) t62_14 rfl ?_
    refine ep_aldN t62_15 rfl (Nat.le_of_ble_eq_true rfl) (Nat.ne_of_beq_eq_false rfl) (Nat.le_of_ble_eq_true rfl) (by have := hw.1; have := hw.2.1; omega) ?_
    refine ep_val (b := nI (T 3)) ((congrFun b0 _).trans (hT.1 3 (by decide))) ?_
    refine ep_ifP t62_16 (ic_ge (by have := hw.1; have := hw.2.1; omega) (by have := hw.1; have := hw.2.1; omega)) (fun (c16 : (T 3) ≤ (T 3)) => ?_) (fun (c16 : ¬ ((T 3) ≤ (T 3))) => (by exact absurd (Nat.le_refl _) c16))
    exact K set h2
  | d + 1, k, set, hk, h2 => by
    have hk3 : k < T 3 := by omega
    refine ep_il t62_11 rfl ?_
    refine ep_aln t62_13 rfl ?_
    refine ep_k1 (w := nI 3) t62_14 rfl ?_
    refine ep_aldN t62_15 rfl (Nat.le_of_ble_eq_true rfl) (Nat.ne_of_beq_eq_false rfl) (Nat.le_of_ble_eq_true rfl) (by have := hw.1; have := hw.2.1; have := hw.2.2.2 k hk3; omega) ?_
    refine ep_val (b := nI (T 3)) ((congrFun b0 _).trans (hT.1 3 (by decide))) ?_
    refine ep_ifP t62_16 (ic_ge (by have := hw.1; have := hw.2.1; have := hw.2.2.2 k hk3; omega) (by have := hw.1; have := hw.2.1; have := hw.2.2.2 k hk3; omega)) (fun (c16 : (T 3) ≤ k) => (by omega)) (fun (c16 : ¬ ((T 3) ≤ k)) => ?_)
    refine ep_iln t62_19 rfl ?_
    refine ep_iln t62_20 rfl ?_
    refine ep_il t62_21 rfl ?_
    refine ep_cs t62_23 (Nat.ne_of_beq_eq_false rfl) rfl (Nat.le_of_ble_eq_true rfl) (cl_M_has (by have := hw.1; have := hw.2.1; have := hw.2.2.2 k hk3; omega) (by have := hw.1; have := hw.2.1; have := hw.2.2.2 k hk3; omega)) ?_
    refine ep_bF t62_26 (fun (c26 : (Nat.testBit c k) = false) => ?_) (fun (c26 : (Nat.testBit c k) = true) => ?_)
    · refine ep_k1 (w := nI 0) t62_51 rfl ?_
      refine ep_orN (a := set) (b := 0) t62_52 ?_
      refine ep_isn (L' := [some (.ref 31), some (.ref 34), some (.int (nI c)), some (.int (nI (set ||| 0))), some (.int (nI k))]) t62_53 rfl (Nat.le_of_ble_eq_true rfl) ?_
      refine ep_inc (b := nI (k + 1)) (L' := [some (.ref 31), some (.ref 34), some (.int (nI c)), some (.int (nI (set ||| 0))), some (.int (nI (k + 1)))]) t62_54 rfl (nI_add k 1) rfl (Nat.le_of_ble_eq_true rfl) ?_
      refine ep_gt t62_57 ?_
      exact L_ea_34 hT hw hc b0 K d (k + 1) _ (by omega) (fun i => by
        rw [Nat.or_zero, h2 i]
        constructor
        · rintro ⟨k2, g1, g2⟩
          exact ⟨k2, by omega, g2⟩
        · rintro ⟨k2, g1, g2, g3, g4⟩
          refine ⟨k2, ?_, g2, g3, g4⟩
          by_cases e : k2 = k
          · subst e
            first
            | exact absurd g2 (by rw [c26]; decide)
            | exact absurd g3 c36
          · omega)
    · refine ep_aln t62_29 rfl ?_
      refine ep_k1 (w := nI 4) t62_30 rfl ?_
      refine ep_il t62_31 rfl ?_
      refine ep_addN (a := 4) (b := k) t62_33 ?_
      refine ep_aldN t62_34 rfl (Nat.le_of_ble_eq_true rfl) (Nat.ne_of_beq_eq_false rfl) (Nat.le_of_ble_eq_true rfl) (by have := hw.1; have := hw.2.1; have := hw.2.2.2 k hk3; omega) ?_
      refine ep_val (b := nI (T (4 + k))) ((congrFun b0 _).trans ((hT.2 k hk3).1)) ?_
      refine ep_k1 (w := nI 2) t62_35 rfl ?_
      refine ep_ifP t62_36 (ic_ne (by have := hw.1; have := hw.2.1; have := hw.2.2.2 k hk3; omega) (by have := hw.1; have := hw.2.1; have := hw.2.2.2 k hk3; omega)) (fun (c36 : ¬ (T (4 + k)) = 2) => ?_) (fun (c36 : ¬ (¬ (T (4 + k)) = 2)) => ?_)
      · refine ep_k1 (w := nI 0) t62_51 rfl ?_
        refine ep_orN (a := set) (b := 0) t62_52 ?_
        refine ep_isn (L' := [some (.ref 31), some (.ref 34), some (.int (nI c)), some (.int (nI (set ||| 0))), some (.int (nI k))]) t62_53 rfl (Nat.le_of_ble_eq_true rfl) ?_
        refine ep_inc (b := nI (k + 1)) (L' := [some (.ref 31), some (.ref 34), some (.int (nI c)), some (.int (nI (set ||| 0))), some (.int (nI (k + 1)))]) t62_54 rfl (nI_add k 1) rfl (Nat.le_of_ble_eq_true rfl) ?_
        refine ep_gt t62_57 ?_
        exact L_ea_34 hT hw hc b0 K d (k + 1) _ (by omega) (fun i => by
          rw [Nat.or_zero, h2 i]
          constructor
          · rintro ⟨k2, g1, g2⟩
            exact ⟨k2, by omega, g2⟩
          · rintro ⟨k2, g1, g2, g3, g4⟩
            refine ⟨k2, ?_, g2, g3, g4⟩
            by_cases e : k2 = k
            · subst e
              first
              | exact absurd g2 (by rw [c26]; decide)
              | exact absurd g3 c36
            · omega)
      · have c36' : T (4 + k) = 2 := Classical.byContradiction c36
        have hf := (hw.2.2.1 k hk3).1
        refine ep_k1 (w := nI 1) t62_39 rfl ?_
        refine ep_aln t62_40 rfl ?_
        refine ep_k2 (w := nI 20) t62_41 rfl ?_
        refine ep_il t62_43 rfl ?_
        refine ep_addN (a := 20) (b := k) t62_45 ?_
        refine ep_aldN t62_46 rfl (Nat.le_of_ble_eq_true rfl) (Nat.ne_of_beq_eq_false rfl) (Nat.le_of_ble_eq_true rfl) (by have := hw.1; have := hw.2.1; have := hw.2.2.2 k hk3; omega) ?_
        refine ep_val (b := nI (T (20 + k))) ((congrFun b0 _).trans ((hT.2 k hk3).2.2.1)) ?_
        refine ep_oneN (b := T (20 + k)) t62_47 (by have := hw.1; have := hw.2.1; have := hw.2.2.2 k hk3; omega) ?_
        refine ep_gt t62_48 ?_
        refine ep_orN (a := set) (b := 2 ^ (T (20 + k))) t62_52 ?_
        refine ep_isn (L' := [some (.ref 31), some (.ref 34), some (.int (nI c)), some (.int (nI (set ||| (2 ^ (T (20 + k)))))), some (.int (nI k))]) t62_53 rfl (Nat.le_of_ble_eq_true rfl) ?_
        refine ep_inc (b := nI (k + 1)) (L' := [some (.ref 31), some (.ref 34), some (.int (nI c)), some (.int (nI (set ||| (2 ^ (T (20 + k)))))), some (.int (nI (k + 1)))]) t62_54 rfl (nI_add k 1) rfl (Nat.le_of_ble_eq_true rfl) ?_
        refine ep_gt t62_57 ?_
        exact L_ea_34 hT hw hc b0 K d (k + 1) _ (by omega) (fun i => by
          rw [or_bit, h2 i]
          constructor
          · rintro (⟨k2, g1, g2⟩ | h)
            · exact ⟨k2, by omega, g2⟩
            · exact ⟨k, by omega, c26, c36', h.symm⟩
          · rintro ⟨k2, g1, g2, g3, g4⟩
            by_cases e : k2 = k
            · subst e; exact Or.inr g4.symm
            · exact Or.inl ⟨k2, by omega, g2, g3, g4⟩)
theorem cl_M_earthedBy_34 {X : gX} {q : Bool} {σ : gT1} {T : Nat → Nat} {c : Nat} (hT : ToldM (σ 34) T) (hw : WF0 T) (hc : c < 2147483648) : ClP X 62 [.ref 31, .ref 34, .int (nI c)] (47, g_rho q, σ) (fun v g1 => ∃ σ1 lab, v = some (.int (nI (earthM T c))) ∧ g1 = (47, g_rho q, σ1) ∧ (∀ p, p ≠ 43 → σ1 p = σ p) ∧ (∀ u, u < T 0 → σ1 43 u = nI (lab u)) ∧ POK T c lab) := by
  refine ClP.of ⟨Nat.le_of_ble_eq_true rfl, rfl⟩ ?_
  show EvP X 62 0 [some (.ref 31), some (.ref 34), some (.int (nI c)), none, none] [] (47, g_rho q, σ) _
  refine ep_aln t62_0 rfl ?_
  refine ep_aln t62_1 rfl ?_
  refine ep_iln t62_2 rfl ?_
  obtain ⟨v1, g1, hb, rfl, σ1, lab, rfl, b1, b2, b3⟩ := cl_M_partsBy_34 (X := X) (q := q) (σ := σ) (T := T) (c := c) hT hw hc
  have b0 : σ1 34 = σ 34 := b1 34 (by decide)
  have hll : ∀ u, u < T 0 → lab u < 6 := fun u hu => by have := (b3 u hu).1.1; have := hw.1; omega
  refine ep_cv t62_3 rfl rfl (Nat.le_of_ble_eq_true rfl) (Nat.le_of_ble_eq_true rfl) (hb) ?_
  refine ep_k1 (w := nI 0) t62_6 rfl ?_
  refine ep_isn (L' := [some (.ref 31), some (.ref 34), some (.int (nI c)), some (.int (nI 0)), none]) t62_7 rfl (Nat.le_of_ble_eq_true rfl) ?_
  refine ep_k1 (w := nI 0) t62_8 rfl ?_
  refine ep_is (L' := [some (.ref 31), some (.ref 34), some (.int (nI c)), some (.int (nI 0)), some (.int (nI 0))]) t62_9 rfl (Nat.le_of_ble_eq_true rfl) ?_
  refine L_ea_34 hT hw hc b0 (fun set h2 => ?_) (T 3) 0 0 (by omega) (fun i => ⟨fun h => by simp at h, fun ⟨k, h, _⟩ => absurd h (Nat.not_lt_zero k)⟩)
  refine ep_aln t62_60 rfl ?_
  refine ep_aln t62_61 rfl ?_
  refine ep_iln t62_62 rfl ?_
  have hset : set < 2147483648 := lt31 (n := 6) (lt_of_bits (fun i hi => by
      obtain ⟨k, g1, g2, g3, g4⟩ := (h2 i).mp hi
      have := (hw.2.2.1 k g1).1
      have := hw.1
      omega)) (by decide)
  refine ep_cv t62_63 rfl rfl (Nat.le_of_ble_eq_true rfl) (Nat.le_of_ble_eq_true rfl) (cl_M_spread_34 (n := T 0) (lab := lab) hw.1 ((congrFun b0 0).trans (hT.1 0 (by decide))) b2 hll hset) ?_
  refine ep_ri t62_66 (fun h => absurd h (by decide)) ?_
  refine ⟨σ1, lab, ?_, rfl, b1, b2, b3⟩
  have e : mk (T 0) (fun i => ∃ v, v < T 0 ∧ set.testBit v = true ∧ lab i = lab v) = earthM T c := mk_congr (fun i hi => ⟨fun ⟨v, g1, g2, g3⟩ => by
      obtain ⟨k, z1, z2, z3, z4⟩ := (h2 v).mp g2
      exact ⟨k, z1, z2, z3, z4 ▸ ((b3.iff hi g1).mp g3).sy⟩, fun ⟨k, z1, z2, z3, z4⟩ => ⟨T (20 + k), (hw.2.2.1 k z1).1, (h2 _).mpr ⟨k, z1, z2, z3, rfl⟩, (b3.iff hi (hw.2.2.1 k z1).1).mpr z4.sy⟩⟩)
  rw [e]

