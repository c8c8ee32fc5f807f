/-! Why a switch can not be moved, on both sides. -/
noncomputable def why2 (T : Nat → Nat) (c k : Nat) : Nat := if (heldM T c).testBit k = true then 2 else if liveM T (c ^^^ 2 ^ k) &&& earthM T (c ^^^ 2 ^ k) = 0 then 0 else 3
theorem why_eq {T : Nat → Nat} {l c k : Nat} (hk : k < T 3) : why T l c k = if l.testBit k = true then 1 else why2 T c k := by
  unfold why why2 heldM sound
  by_cases h1 : l.testBit k = true
  · rw [if_pos h1, if_pos h1]
  · rw [if_neg h1, if_neg h1]
    by_cases h2 : T (4 + k) = 1 ∧ under T (clr c k) k
    · rw [if_pos h2, if_pos ((mk_bit _ _ _).mpr ⟨hk, h2⟩)]
    · rw [if_neg h2, if_neg (fun q => h2 ((mk_bit _ _ _).mp q).2)]
      by_cases h3 : liveM T (c ^^^ 2 ^ k) &&& earthM T (c ^^^ 2 ^ k) = 0
      · rw [if_pos h3, if_pos h3]
      · rw [if_neg h3, if_neg h3]
theorem why_no {T : Nat → Nat} {l c k : Nat} (hk : k < T 3) (h : l.testBit k = false) (hn : ¬ (T (4 + k) = 1 ∧ under T (clr c k) k)) : why T l c k = if liveM T (c ^^^ 2 ^ k) &&& earthM T (c ^^^ 2 ^ k) = 0 then 0 else 3 := by
  have h2 : ¬ (heldM T c).testBit k = true := fun q => hn ((mk_bit _ _ _).mp q).2
  have h1 : ¬ l.testBit k = true := by rw [h]; decide
  rw [why_eq hk, if_neg h1]
  unfold why2
  rw [if_neg h2]
theorem why_le (T : Nat → Nat) (l c k : Nat) : why T l c k ≤ 3 := by
  unfold why
  split
  · decide
  · split
    · decide
    · split <;> decide
theorem live_lt {T : Nat → Nat} (h : T 0 ≤ 6) (c : Nat) : liveM T c < 64 := Nat.lt_of_lt_of_le (mk_lt _ _) (Nat.le_trans (Nat.pow_le_pow_right (by decide) h) (by decide))
theorem earth_lt {T : Nat → Nat} (h : T 0 ≤ 6) (c : Nat) : earthM T c < 64 := Nat.lt_of_lt_of_le (mk_lt _ _) (Nat.le_trans (Nat.pow_le_pow_right (by decide) h) (by decide))
theorem held_lt {T : Nat → Nat} (h : T 3 ≤ 8) (c : Nat) : heldM T c < 256 := Nat.lt_of_lt_of_le (mk_lt _ _) (pow_le_256 h)
theorem and_lt {a b n : Nat} (h : a < n) : a &&& b < n := Nat.lt_of_le_of_lt Nat.and_le_left h
theorem cl_Net_sound_7 {X : gX} {q : Bool} {σ : gT1} {T : Nat → Nat} {c : Nat} (hN : NetC σ 7 T) (h0 : T 0 ≤ 6) (h3 : T 3 ≤ 8) (hc : c < 2 ^ T 3) : Cl X 44 [.ref 7, .int (nI c)] (47, g_rho q, σ) (some (.int (bI (decide (liveM T c &&& earthM T c = 0))))) (47, g_rho q, σ) := by
  refine Cl.of ⟨Nat.le_of_ble_eq_true rfl, rfl⟩ ?_
  show EvP X 44 0 [some (.ref 7), some (.int (nI c))] [] (47, g_rho q, σ) _
  refine ep_aln t44_0 rfl ?_
  refine ep_getr (q := 12) t44_1 rfl (Nat.le_of_ble_eq_true rfl) rfl (rfl) ?_
  refine ep_iln t44_4 rfl ?_
  refine ep_aldN t44_5 rfl (Nat.le_of_ble_eq_true rfl) (Nat.ne_of_beq_eq_false rfl) (Nat.le_of_ble_eq_true rfl) (by have := pow_le_256 h3; have := and_lt (b := earthM T c) (live_lt h0 c); omega) ?_
  refine ep_val (b := nI (liveM T c)) ((hN.2.2 _ hc).1) ?_
  refine ep_aln t44_6 rfl ?_
  refine ep_getr (q := 13) t44_7 rfl (Nat.le_of_ble_eq_true rfl) rfl (rfl) ?_
  refine ep_iln t44_10 rfl ?_
  refine ep_aldN t44_11 rfl (Nat.le_of_ble_eq_true rfl) (Nat.ne_of_beq_eq_false rfl) (Nat.le_of_ble_eq_true rfl) (by have := pow_le_256 h3; have := and_lt (b := earthM T c) (live_lt h0 c); omega) ?_
  refine ep_val (b := nI (earthM T c)) ((hN.2.2 _ hc).2.1) ?_
  refine ep_andN (a := liveM T c) (b := earthM T c) t44_12 ?_
  refine ep_if0P t44_13 (ic0_ne (by have := pow_le_256 h3; have := and_lt (b := earthM T c) (live_lt h0 c); omega)) (fun (c13 : ¬ ((liveM T c) &&& (earthM T c)) = 0) => ?_) (fun (c13 : ¬ (¬ ((liveM T c) &&& (earthM T c)) = 0)) => ?_)
  · refine ep_k1 (w := nI 0) t44_20 rfl ?_
    refine ep_ri t44_21 (fun _ => rfl) ?_
    exact ⟨by first | (rw [decide_eq_true (Classical.byContradiction c13)]; rfl) | (rw [decide_eq_false c13]; rfl), rfl⟩
  · refine ep_k1 (w := nI 1) t44_16 rfl ?_
    refine ep_gt t44_17 ?_
    refine ep_ri t44_21 (fun _ => rfl) ?_
    exact ⟨by first | (rw [decide_eq_true (Classical.byContradiction c13)]; rfl) | (rw [decide_eq_false c13]; rfl), rfl⟩

theorem cl_Net_whyNot_7 {X : gX} {q : Bool} {σ : gT1} {T : Nat → Nat} {c k : Nat} (hN : NetC σ 7 T) (h0 : T 0 ≤ 6) (h3 : T 3 ≤ 8) (hc : c < 2 ^ T 3) (hk : k < T 3) : Cl X 65 [.ref 7, .int (nI c), .int (nI k)] (47, g_rho q, σ) (some (.int (nI (why2 T c k)))) (47, g_rho q, σ) := by
  have hx : c ^^^ 2 ^ k < 2 ^ T 3 := xor_lt hc hk
  refine Cl.of ⟨Nat.le_of_ble_eq_true rfl, rfl⟩ ?_
  show EvP X 65 0 [some (.ref 7), some (.int (nI c)), some (.int (nI k))] [] (47, g_rho q, σ) _
  refine ep_aln t65_0 rfl ?_
  refine ep_getr (q := 14) t65_1 rfl (Nat.le_of_ble_eq_true rfl) rfl (rfl) ?_
  refine ep_iln t65_4 rfl ?_
  refine ep_aldN t65_5 rfl (Nat.le_of_ble_eq_true rfl) (Nat.ne_of_beq_eq_false rfl) (Nat.le_of_ble_eq_true rfl) (by have := pow_le_256 h3; have := held_lt h3 c; omega) ?_
  refine ep_val (b := nI (heldM T c)) ((hN.2.2 _ hc).2.2) ?_
  refine ep_iln t65_6 rfl ?_
  refine ep_cs t65_7 (Nat.ne_of_beq_eq_false rfl) rfl (Nat.le_of_ble_eq_true rfl) (cl_B_bit (by have := pow_le_256 h3; have := held_lt h3 c; omega) (by have := pow_le_256 h3; have := held_lt h3 c; omega)) ?_
  refine ep_k1 (w := nI 1) t65_10 rfl ?_
  refine ep_b1n t65_11 (fun (c11 : (Nat.testBit (heldM T c) k) = false) => ?_) (fun (c11 : (Nat.testBit (heldM T c) k) = true) => ?_)
  · refine ep_aln t65_16 rfl ?_
    refine ep_iln t65_17 rfl ?_
    refine ep_k1 (w := nI 1) t65_18 rfl ?_
    refine ep_iln t65_19 rfl ?_
    refine ep_oneN (b := k) t65_20 (by have := pow_le_256 h3; have := held_lt h3 c; omega) ?_
    refine ep_xorN (a := c) (b := 2 ^ k) t65_21 ?_
    refine ep_cv t65_22 rfl rfl (Nat.le_of_ble_eq_true rfl) (Nat.le_of_ble_eq_true rfl) (cl_Net_sound_7 (T := T) hN h0 h3 hx) ?_
    refine ep_bF t65_25 (fun (c25 : (decide (liveM T (c ^^^ 2 ^ k) &&& earthM T (c ^^^ 2 ^ k) = 0)) = false) => ?_) (fun (c25 : (decide (liveM T (c ^^^ 2 ^ k) &&& earthM T (c ^^^ 2 ^ k) = 0)) = true) => ?_)
    · refine ep_k1 (w := nI 3) t65_32 rfl ?_
      refine ep_ri t65_33 (fun h => absurd h (by decide)) ?_
      exact ⟨by unfold why2; first | (rw [if_pos c11]) | (rw [if_neg (by rw [c11]; decide), if_pos (of_decide_eq_true c25)]) | (rw [if_neg (by rw [c11]; decide), if_neg (of_decide_eq_false c25)]), rfl⟩
    · refine ep_k1 (w := nI 0) t65_28 rfl ?_
      refine ep_gt t65_29 ?_
      refine ep_ri t65_33 (fun h => absurd h (by decide)) ?_
      exact ⟨by unfold why2; first | (rw [if_pos c11]) | (rw [if_neg (by rw [c11]; decide), if_pos (of_decide_eq_true c25)]) | (rw [if_neg (by rw [c11]; decide), if_neg (of_decide_eq_false c25)]), rfl⟩
  · refine ep_k1 (w := nI 2) t65_14 rfl ?_
    refine ep_ri t65_15 (fun h => absurd h (by decide)) ?_
    exact ⟨by unfold why2; first | (rw [if_pos c11]) | (rw [if_neg (by rw [c11]; decide), if_pos (of_decide_eq_true c25)]) | (rw [if_neg (by rw [c11]; decide), if_neg (of_decide_eq_false c25)]), rfl⟩

theorem cl_B_whyNot_7 {X : gX} {σ : gT1} {T : Nat → Nat} {c l k : Nat} (hN : NetC σ 7 T) (h0 : T 0 ≤ 6) (h3 : T 3 ≤ 8) (hc : c < 2 ^ T 3) (hl : l < 2 ^ T 3) (e4 : σ 0 4 = nI c) (e5 : σ 0 5 = nI l) (hk : k < T 3) : Cl X 66 [.ref 0, .int (nI k)] (47, g_rho false, σ) (some (.int (nI (why T l c k)))) (47, g_rho false, σ) := by
  refine Cl.of ⟨Nat.le_of_ble_eq_true rfl, rfl⟩ ?_
  show EvP X 66 0 [some (.ref 0), some (.int (nI k))] [] (47, g_rho false, σ) _
  refine ep_aln t66_0 rfl ?_
  refine ep_get t66_1 rfl (Nat.le_of_ble_eq_true rfl) rfl ?_
  refine ep_val (b := nI l) (e5) ?_
  refine ep_iln t66_4 rfl ?_
  refine ep_cs t66_5 (Nat.ne_of_beq_eq_false rfl) rfl (Nat.le_of_ble_eq_true rfl) (cl_B_bit (by have := pow_le_256 h3; omega) (by have := pow_le_256 h3; omega)) ?_
  refine ep_k1 (w := nI 1) t66_8 rfl ?_
  refine ep_b1n t66_9 (fun (c9 : (Nat.testBit l k) = false) => ?_) (fun (c9 : (Nat.testBit l k) = true) => ?_)
  · refine ep_aln t66_16 rfl ?_
    refine ep_getr (q := 7) t66_17 rfl (Nat.le_of_ble_eq_true rfl) rfl (rfl) ?_
    refine ep_aln t66_20 rfl ?_
    refine ep_get t66_21 rfl (Nat.le_of_ble_eq_true rfl) rfl ?_
    refine ep_val (b := nI c) (e4) ?_
    refine ep_iln t66_24 rfl ?_
    refine ep_cv t66_25 rfl rfl (Nat.le_of_ble_eq_true rfl) (Nat.le_of_ble_eq_true rfl) (cl_Net_whyNot_7 (T := T) hN h0 h3 hc hk) ?_
    refine ep_ri t66_28 (fun h => absurd h (by decide)) ?_
    exact ⟨by rw [why_eq hk]; first | (rw [if_pos c9]) | (rw [if_neg (by rw [c9]; decide)]), rfl⟩
  · refine ep_k1 (w := nI 1) t66_12 rfl ?_
    refine ep_gt t66_13 ?_
    refine ep_ri t66_28 (fun h => absurd h (by decide)) ?_
    exact ⟨by rw [why_eq hk]; first | (rw [if_pos c9]) | (rw [if_neg (by rw [c9]; decide)]), rfl⟩

theorem cl_Net_sound_16 {X : gX} {q : Bool} {σ : gT1} {T : Nat → Nat} {c : Nat} (hN : NetC σ 16 T) (h0 : T 0 ≤ 6) (h3 : T 3 ≤ 8) (hc : c < 2 ^ T 3) : Cl X 44 [.ref 16, .int (nI c)] (47, g_rho q, σ) (some (.int (bI (decide (liveM T c &&& earthM T c = 0))))) (47, g_rho q, σ) := by
  refine Cl.of ⟨Nat.le_of_ble_eq_true rfl, rfl⟩ ?_
  show EvP X 44 0 [some (.ref 16), some (.int (nI c))] [] (47, g_rho q, σ) _
  refine ep_aln t44_0 rfl ?_
  refine ep_getr (q := 21) t44_1 rfl (Nat.le_of_ble_eq_true rfl) rfl (rfl) ?_
  refine ep_iln t44_4 rfl ?_
  refine ep_aldN t44_5 rfl (Nat.le_of_ble_eq_true rfl) (Nat.ne_of_beq_eq_false rfl) (Nat.le_of_ble_eq_true rfl) (by have := pow_le_256 h3; have := and_lt (b := earthM T c) (live_lt h0 c); omega) ?_
  refine ep_val (b := nI (liveM T c)) ((hN.2.2 _ hc).1) ?_
  refine ep_aln t44_6 rfl ?_
  refine ep_getr (q := 22) t44_7 rfl (Nat.le_of_ble_eq_true rfl) rfl (rfl) ?_
  refine ep_iln t44_10 rfl ?_
  refine ep_aldN t44_11 rfl (Nat.le_of_ble_eq_true rfl) (Nat.ne_of_beq_eq_false rfl) (Nat.le_of_ble_eq_true rfl) (by have := pow_le_256 h3; have := and_lt (b := earthM T c) (live_lt h0 c); omega) ?_
  refine ep_val (b := nI (earthM T c)) ((hN.2.2 _ hc).2.1) ?_
  refine ep_andN (a := liveM T c) (b := earthM T c) t44_12 ?_
  refine ep_if0P t44_13 (ic0_ne (by have := pow_le_256 h3; have := and_lt (b := earthM T c) (live_lt h0 c); omega)) (fun (c13 : ¬ ((liveM T c) &&& (earthM T c)) = 0) => ?_) (fun (c13 : ¬ (¬ ((liveM T c) &&& (earthM T c)) = 0)) => ?_)
  · refine ep_k1 (w := nI 0) t44_20 rfl ?_
    refine ep_ri t44_21 (fun _ => rfl) ?_
    exact ⟨by first | (rw [decide_eq_true (Classical.byContradiction c13)]; rfl) | (rw [decide_eq_false c13]; rfl), rfl⟩
  · refine ep_k1 (w := nI 1) t44_16 rfl ?_
    refine ep_gt t44_17 ?_
    refine ep_ri t44_21 (fun _ => rfl) ?_
    exact ⟨by first | (rw [decide_eq_true (Classical.byContradiction c13)]; rfl) | (rw [decide_eq_false c13]; rfl), rfl⟩

theorem cl_Net_whyNot_16 {X : gX} {q : Bool} {σ : gT1} {T : Nat → Nat} {c k : Nat} (hN : NetC σ 16 T) (h0 : T 0 ≤ 6) (h3 : T 3 ≤ 8) (hc : c < 2 ^ T 3) (hk : k < T 3) : Cl X 65 [.ref 16, .int (nI c), .int (nI k)] (47, g_rho q, σ) (some (.int (nI (why2 T c k)))) (47, g_rho q, σ) := by
  have hx : c ^^^ 2 ^ k < 2 ^ T 3 := xor_lt hc hk
  refine Cl.of ⟨Nat.le_of_ble_eq_true rfl, rfl⟩ ?_
  show EvP X 65 0 [some (.ref 16), some (.int (nI c)), some (.int (nI k))] [] (47, g_rho q, σ) _
  refine ep_aln t65_0 rfl ?_
  refine ep_getr (q := 23) t65_1 rfl (Nat.le_of_ble_eq_true rfl) rfl (rfl) ?_
  refine ep_iln t65_4 rfl ?_
  refine ep_aldN t65_5 rfl (Nat.le_of_ble_eq_true rfl) (Nat.ne_of_beq_eq_false rfl) (Nat.le_of_ble_eq_true rfl) (by have := pow_le_256 h3; have := held_lt h3 c; omega) ?_
  refine ep_val (b := nI (heldM T c)) ((hN.2.2 _ hc).2.2) ?_
  refine ep_iln t65_6 rfl ?_
  refine ep_cs t65_7 (Nat.ne_of_beq_eq_false rfl) rfl (Nat.le_of_ble_eq_true rfl) (cl_B_bit (by have := pow_le_256 h3; have := held_lt h3 c; omega) (by have := pow_le_256 h3; have := held_lt h3 c; omega)) ?_
  refine ep_k1 (w := nI 1) t65_10 rfl ?_
  refine ep_b1n t65_11 (fun (c11 : (Nat.testBit (heldM T c) k) = false) => ?_) (fun (c11 : (Nat.testBit (heldM T c) k) = true) => ?_)
  · refine ep_aln t65_16 rfl ?_
    refine ep_iln t65_17 rfl ?_
    refine ep_k1 (w := nI 1) t65_18 rfl ?_
    refine ep_iln t65_19 rfl ?_
    refine ep_oneN (b := k) t65_20 (by have := pow_le_256 h3; have := held_lt h3 c; omega) ?_
    refine ep_xorN (a := c) (b := 2 ^ k) t65_21 ?_
    refine ep_cv t65_22 rfl rfl (Nat.le_of_ble_eq_true rfl) (Nat.le_of_ble_eq_true rfl) (cl_Net_sound_16 (T := T) hN h0 h3 hx) ?_
    refine ep_bF t65_25 (fun (c25 : (decide (liveM T (c ^^^ 2 ^ k) &&& earthM T (c ^^^ 2 ^ k) = 0)) = false) => ?_) (fun (c25 : (decide (liveM T (c ^^^ 2 ^ k) &&& earthM T (c ^^^ 2 ^ k) = 0)) = true) => ?_)
    · refine ep_k1 (w := nI 3) t65_32 rfl ?_
      refine ep_ri t65_33 (fun h => absurd h (by decide)) ?_
      exact ⟨by unfold why2; first | (rw [if_pos c11]) | (rw [if_neg (by rw [c11]; decide), if_pos (of_decide_eq_true c25)]) | (rw [if_neg (by rw [c11]; decide), if_neg (of_decide_eq_false c25)]), rfl⟩
    · refine ep_k1 (w := nI 0) t65_28 rfl ?_
      refine ep_gt t65_29 ?_
      refine ep_ri t65_33 (fun h => absurd h (by decide)) ?_
      exact ⟨by unfold why2; first | (rw [if_pos c11]) | (rw [if_neg (by rw [c11]; decide), if_pos (of_decide_eq_true c25)]) | (rw [if_neg (by rw [c11]; decide), if_neg (of_decide_eq_false c25)]), rfl⟩
  · refine ep_k1 (w := nI 2) t65_14 rfl ?_
    refine ep_ri t65_15 (fun h => absurd h (by decide)) ?_
    exact ⟨by unfold why2; first | (rw [if_pos c11]) | (rw [if_neg (by rw [c11]; decide), if_pos (of_decide_eq_true c25)]) | (rw [if_neg (by rw [c11]; decide), if_neg (of_decide_eq_false c25)]), rfl⟩

theorem cl_B_whyNot_16 {X : gX} {σ : gT1} {T : Nat → Nat} {c l k : Nat} (hN : NetC σ 16 T) (h0 : T 0 ≤ 6) (h3 : T 3 ≤ 8) (hc : c < 2 ^ T 3) (hl : l < 2 ^ T 3) (e4 : σ 0 4 = nI c) (e5 : σ 0 5 = nI l) (hk : k < T 3) : Cl X 66 [.ref 0, .int (nI k)] (47, g_rho true, σ) (some (.int (nI (why T l c k)))) (47, g_rho true, σ) := by
  refine Cl.of ⟨Nat.le_of_ble_eq_true rfl, rfl⟩ ?_
  show EvP X 66 0 [some (.ref 0), some (.int (nI k))] [] (47, g_rho true, σ) _
  refine ep_aln t66_0 rfl ?_
  refine ep_get t66_1 rfl (Nat.le_of_ble_eq_true rfl) rfl ?_
  refine ep_val (b := nI l) (e5) ?_
  refine ep_iln t66_4 rfl ?_
  refine ep_cs t66_5 (Nat.ne_of_beq_eq_false rfl) rfl (Nat.le_of_ble_eq_true rfl) (cl_B_bit (by have := pow_le_256 h3; omega) (by have := pow_le_256 h3; omega)) ?_
  refine ep_k1 (w := nI 1) t66_8 rfl ?_
  refine ep_b1n t66_9 (fun (c9 : (Nat.testBit l k) = false) => ?_) (fun (c9 : (Nat.testBit l k) = true) => ?_)
  · refine ep_aln t66_16 rfl ?_
    refine ep_getr (q := 16) t66_17 rfl (Nat.le_of_ble_eq_true rfl) rfl (rfl) ?_
    refine ep_aln t66_20 rfl ?_
    refine ep_get t66_21 rfl (Nat.le_of_ble_eq_true rfl) rfl ?_
    refine ep_val (b := nI c) (e4) ?_
    refine ep_iln t66_24 rfl ?_
    refine ep_cv t66_25 rfl rfl (Nat.le_of_ble_eq_true rfl) (Nat.le_of_ble_eq_true rfl) (cl_Net_whyNot_16 (T := T) hN h0 h3 hc hk) ?_
    refine ep_ri t66_28 (fun h => absurd h (by decide)) ?_
    exact ⟨by rw [why_eq hk]; first | (rw [if_pos c9]) | (rw [if_neg (by rw [c9]; decide)]), rfl⟩
  · refine ep_k1 (w := nI 1) t66_12 rfl ?_
    refine ep_gt t66_13 ?_
    refine ep_ri t66_28 (fun h => absurd h (by decide)) ?_
    exact ⟨by rw [why_eq hk]; first | (rw [if_pos c9]) | (rw [if_neg (by rw [c9]; decide)]), rfl⟩

theorem cl_B_whyNot {X : gX} {q : Bool} {σ : gT1} {T : Nat → Nat} {c l k : Nat} (hN : NetC σ (np q) T) (h0 : T 0 ≤ 6) (h3 : T 3 ≤ 8) (hc : c < 2 ^ T 3) (hl : l < 2 ^ T 3) (e4 : σ 0 4 = nI c) (e5 : σ 0 5 = nI l) (hk : k < T 3) : Cl X 66 [.ref 0, .int (nI k)] (47, g_rho q, σ) (some (.int (nI (why T l c k)))) (47, g_rho q, σ) := by
  cases q
  · exact cl_B_whyNot_7 hN h0 h3 hc hl e4 e5 hk
  · exact cl_B_whyNot_16 hN h0 h3 hc hl e4 e5 hk
theorem L_ld {X : gX} {q : Bool} {σ : gT1} {T : Nat → Nat} {u : Nat} {lab : Nat → Nat} {P : Option Value → gS → Prop} (hT : ToldM (σ 33) T) (hn : T 0 ≤ 6) (hl2 : T 2 < 2147483648) (hlab : ∀ u, u < T 0 → σ 43 u = nI (lab u)) (hll : ∀ u, u < T 0 → lab u < 6) (hu : u < T 0) (K : ∀ b : Bool, (b = true ↔ ∃ w, w < T 0 ∧ lab w = lab u ∧ (T 2).testBit w = true) → P (some (.int (bI b))) (47, g_rho q, σ)) : ∀ (d v : Nat) (b : Bool), v + d = T 0 → (b = true ↔ ∃ w, w < v ∧ lab w = lab u ∧ (T 2).testBit w = true) → EvP X 69 4 [some (.ref 31), some (.int (nI u)), some (.int (bI b)), some (.int (nI v))] [] (47, g_rho q, σ) P
  | 0, v, b, hk, h2 => by
    obtain rfl : v = T 0 := by omega
    refine ep_iln t69_4 rfl ?_
    refine ep_aln t69_5 rfl ?_
    refine ep_getr (q := 33) t69_6 rfl (Nat.le_of_ble_eq_true rfl) rfl (rfl) ?_
    refine ep_k1 (w := nI 0) t69_9 rfl ?_
    refine ep_aldN t69_10 rfl (Nat.le_of_ble_eq_true rfl) (Nat.ne_of_beq_eq_false rfl) (Nat.le_of_ble_eq_true rfl) (by omega) ?_
    refine ep_val (b := nI (T 0)) (hT.1 0 (by decide)) ?_
    refine ep_ifP t69_11 (ic_ge (by omega) (by omega)) (fun (c11 : (T 0) ≤ (T 0)) => ?_) (fun (c11 : ¬ ((T 0) ≤ (T 0))) => (by exact absurd (Nat.le_refl _) c11))
    refine ep_iln t69_58 rfl ?_
    refine ep_ri t69_59 (fun _ => bI_and _) ?_
    exact K b h2
  | d + 1, v, b, hk, h2 => by
    refine ep_iln t69_4 rfl ?_
    refine ep_aln t69_5 rfl ?_
    refine ep_getr (q := 33) t69_6 rfl (Nat.le_of_ble_eq_true rfl) rfl (rfl) ?_
    refine ep_k1 (w := nI 0) t69_9 rfl ?_
    refine ep_aldN t69_10 rfl (Nat.le_of_ble_eq_true rfl) (Nat.ne_of_beq_eq_false rfl) (Nat.le_of_ble_eq_true rfl) (by omega) ?_
    refine ep_val (b := nI (T 0)) (hT.1 0 (by decide)) ?_
    refine ep_ifP t69_11 (ic_ge (by omega) (by omega)) (fun (c11 : (T 0) ≤ v) => (by omega)) (fun (c11 : ¬ ((T 0) ≤ v)) => ?_)
    refine ep_iln t69_14 rfl ?_
    refine ep_bT t69_15 (fun (c15 : b = true) => ?_) (fun (c15 : b = false) => ?_)
    · refine ep_k1 (w := nI 1) t69_46 rfl ?_
      refine ep_gt t69_47 ?_
      refine ep_isn (L' := [some (.ref 31), some (.int (nI u)), some (.int (nI 1)), some (.int (nI v))]) t69_51 rfl (Nat.le_of_ble_eq_true rfl) ?_
      refine ep_inc (b := nI (v + 1)) (L' := [some (.ref 31), some (.int (nI u)), some (.int (nI 1)), some (.int (nI (v + 1)))]) t69_52 rfl (nI_add v 1) rfl (Nat.le_of_ble_eq_true rfl) ?_
      refine ep_gt t69_55 ?_
      refine L_ld hT hn hl2 hlab hll hu K d (v + 1) true (by omega) ⟨fun _ => ?_, fun _ => rfl⟩
      first
      | exact (h2.mp c15).elim (fun w g => ⟨w, Nat.lt_succ_of_lt g.1, g.2⟩)
      | exact ⟨v, by omega, c30', c43⟩
    · refine ep_aln t69_18 rfl ?_
      refine ep_getr (q := 43) t69_19 rfl (Nat.le_of_ble_eq_true rfl) rfl (rfl) ?_
      refine ep_iln t69_22 rfl ?_
      refine ep_aldN t69_23 rfl (Nat.le_of_ble_eq_true rfl) (Nat.ne_of_beq_eq_false rfl) (Nat.le_of_ble_eq_true rfl) (by omega) ?_
      refine ep_val (b := nI (lab v)) (hlab v (by omega)) ?_
      refine ep_aln t69_24 rfl ?_
      refine ep_getr (q := 43) t69_25 rfl (Nat.le_of_ble_eq_true rfl) rfl (rfl) ?_
      refine ep_iln t69_28 rfl ?_
      refine ep_aldN t69_29 rfl (Nat.le_of_ble_eq_true rfl) (Nat.ne_of_beq_eq_false rfl) (Nat.le_of_ble_eq_true rfl) (by omega) ?_
      refine ep_val (b := nI (lab u)) (hlab u (by omega)) ?_
      have hlu := hll u hu
      have hlv := hll v (by omega)
      refine ep_ifP t69_30 (ic_ne (by omega) (by omega)) (fun (c30 : ¬ (lab v) = (lab u)) => ?_) (fun (c30 : ¬ (¬ (lab v) = (lab u))) => ?_)
      · refine ep_k1 (w := nI 0) t69_50 rfl ?_
        refine ep_isn (L' := [some (.ref 31), some (.int (nI u)), some (.int (nI 0)), some (.int (nI v))]) t69_51 rfl (Nat.le_of_ble_eq_true rfl) ?_
        refine ep_inc (b := nI (v + 1)) (L' := [some (.ref 31), some (.int (nI u)), some (.int (nI 0)), some (.int (nI (v + 1)))]) t69_52 rfl (nI_add v 1) rfl (Nat.le_of_ble_eq_true rfl) ?_
        refine ep_gt t69_55 ?_
        refine L_ld hT hn hl2 hlab hll hu K d (v + 1) false (by omega) ⟨fun h => (by cases h), fun h => ?_⟩
        obtain ⟨w, g1, g2, g3⟩ := h
        have e : w = v := Classical.byContradiction (fun e => absurd (h2.mpr ⟨w, by omega, g2, g3⟩) (by rw [c15]; decide))
        subst e
        first
        | exact absurd g2 c30
        | exact absurd g3 (by rw [c43]; decide)
      · have c30' : lab v = lab u := Classical.byContradiction c30
        refine ep_aln t69_33 rfl ?_
        refine ep_getr (q := 33) t69_34 rfl (Nat.le_of_ble_eq_true rfl) rfl (rfl) ?_
        refine ep_k1 (w := nI 2) t69_37 rfl ?_
        refine ep_aldN t69_38 rfl (Nat.le_of_ble_eq_true rfl) (Nat.ne_of_beq_eq_false rfl) (Nat.le_of_ble_eq_true rfl) (by omega) ?_
        refine ep_val (b := nI (T 2)) (hT.1 2 (by decide)) ?_
        refine ep_iln t69_39 rfl ?_
        refine ep_cs t69_40 (Nat.ne_of_beq_eq_false rfl) rfl (Nat.le_of_ble_eq_true rfl) (cl_M_has (by omega) (by omega)) ?_
        refine ep_bF t69_43 (fun (c43 : (Nat.testBit (T 2) v) = false) => ?_) (fun (c43 : (Nat.testBit (T 2) v) = true) => ?_)
        · refine ep_k1 (w := nI 0) t69_50 rfl ?_
          refine ep_isn (L' := [some (.ref 31), some (.int (nI u)), some (.int (nI 0)), some (.int (nI v))]) t69_51 rfl (Nat.le_of_ble_eq_true rfl) ?_
          refine ep_inc (b := nI (v + 1)) (L' := [some (.ref 31), some (.int (nI u)), some (.int (nI 0)), some (.int (nI (v + 1)))]) t69_52 rfl (nI_add v 1) rfl (Nat.le_of_ble_eq_true rfl) ?_
          refine ep_gt t69_55 ?_
          refine L_ld hT hn hl2 hlab hll hu K d (v + 1) false (by omega) ⟨fun h => (by cases h), fun h => ?_⟩
          obtain ⟨w, g1, g2, g3⟩ := h
          have e : w = v := Classical.byContradiction (fun e => absurd (h2.mpr ⟨w, by omega, g2, g3⟩) (by rw [c15]; decide))
          subst e
          first
          | exact absurd g2 c30
          | exact absurd g3 (by rw [c43]; decide)
        · refine ep_k1 (w := nI 1) t69_46 rfl ?_
          refine ep_gt t69_47 ?_
          refine ep_isn (L' := [some (.ref 31), some (.int (nI u)), some (.int (nI 1)), some (.int (nI v))]) t69_51 rfl (Nat.le_of_ble_eq_true rfl) ?_
          refine ep_inc (b := nI (v + 1)) (L' := [some (.ref 31), some (.int (nI u)), some (.int (nI 1)), some (.int (nI (v + 1)))]) t69_52 rfl (nI_add v 1) rfl (Nat.le_of_ble_eq_true rfl) ?_
          refine ep_gt t69_55 ?_
          refine L_ld hT hn hl2 hlab hll hu K d (v + 1) true (by omega) ⟨fun _ => ?_, fun _ => rfl⟩
          first
          | exact (h2.mp c15).elim (fun w g => ⟨w, Nat.lt_succ_of_lt g.1, g.2⟩)
          | exact ⟨v, by omega, c30', c43⟩
theorem cl_M_isLoaded {X : gX} {q : Bool} {σ : gT1} {T : Nat → Nat} {c u : Nat} {lab : Nat → Nat} (hT : ToldM (σ 33) T) (hn : T 0 ≤ 6) (hl2 : T 2 < 2147483648) (hlab : ∀ u, u < T 0 → σ 43 u = nI (lab u)) (hll : ∀ u, u < T 0 → lab u < 6) (hP : POK T c lab) (hu : u < T 0) : Cl X 69 [.ref 31, .int (nI u)] (47, g_rho q, σ) (some (.int (bI ((loadM T c).testBit u)))) (47, g_rho q, σ) := by
  refine Cl.of ⟨Nat.le_of_ble_eq_true rfl, rfl⟩ ?_
  show EvP X 69 0 [some (.ref 31), some (.int (nI u)), none, none] [] (47, g_rho q, σ) _
  refine ep_k1 (w := nI 0) t69_0 rfl ?_
  refine ep_isn (L' := [some (.ref 31), some (.int (nI u)), some (.int (nI 0)), none]) t69_1 rfl (Nat.le_of_ble_eq_true rfl) ?_
  refine ep_k1 (w := nI 0) t69_2 rfl ?_
  refine ep_isn (L' := [some (.ref 31), some (.int (nI u)), some (.int (nI 0)), some (.int (nI 0))]) t69_3 rfl (Nat.le_of_ble_eq_true rfl) ?_
  exact L_ld hT hn hl2 hlab hll hu (fun b h => ⟨by
    have : b = (loadM T c).testBit u := by
      have h5 := mk_bit (fun v => ∃ u, u < T 0 ∧ (T 2).testBit u = true ∧ Cn T c u v) u (T 0)
      have h6 : (loadM T c).testBit u = true ↔ b = true := by
        refine h5.trans (Iff.trans ?_ h.symm)
        exact ⟨fun ⟨_, w, g1, g2, g3⟩ => ⟨w, g1, (hP.iff g1 hu).mpr g3, g2⟩, fun ⟨w, g1, g2, g3⟩ => ⟨hu, w, g1, g3, (hP.iff g1 hu).mp g2⟩⟩
      cases b <;> cases hz : (loadM T c).testBit u <;> simp_all
    rw [this], rfl⟩) (T 0) 0 false (by omega) ⟨fun h => (by cases h), fun ⟨w, g1, _⟩ => absurd g1 (Nat.not_lt_zero w)⟩

theorem L_wn {X : gX} {q : Bool} {σ : gT1} {T : Nat → Nat} {c k : Nat} (hT : ToldM (σ 33) T) (hw : WF0 T) (h31 : T 1 < 2147483648) (hc : c < 2 ^ T 3) (hk : k < T 3) (σ1 : gT1) (f1 : ∀ p, p ≠ 43 → σ1 p = σ p) (o3 o4 o5 o6 o7 : Option Value) : EvP X 70 137 [some (.ref 31), some (.int (nI k)), some (.int (nI c)), o3, o4, o5, o6, o7] [] (47, g_rho q, σ1) (fun v g1 => ∃ σ2, v = some (.int (nI (if liveM T (c ^^^ 2 ^ k) &&& earthM T (c ^^^ 2 ^ k) = 0 then 0 else 3))) ∧ g1 = (47, g_rho q, σ2) ∧ ∀ p, p ≠ 43 → σ2 p = σ p) := by
  have h0 := hw.1
  have h3 := hw.2.1
  have hx : c ^^^ 2 ^ k < 2 ^ T 3 := xor_lt hc hk
  have hx2 := pow_le_256 h3
  refine ep_iln t70_137 rfl ?_
  refine ep_k1 (w := nI 1) t70_138 rfl ?_
  refine ep_iln t70_139 rfl ?_
  refine ep_oneN (b := k) t70_140 (by have := and_lt (b := earthM T (c ^^^ 2 ^ k)) (live_lt h0 (c ^^^ 2 ^ k)); have := pow_le_256 h3; omega) ?_
  refine ep_xorN (a := c) (b := 2 ^ k) t70_141 ?_
  refine ep_isn (L' := [some (.ref 31), some (.int (nI k)), some (.int (nI c)), some (.int (nI (c ^^^ (2 ^ k)))), o4, o5, o6, o7]) t70_142 rfl (Nat.le_of_ble_eq_true rfl) ?_
  refine ep_aln t70_143 rfl ?_
  refine ep_aln t70_144 rfl ?_
  refine ep_getr (q := 33) t70_145 rfl (Nat.le_of_ble_eq_true rfl) rfl (rfl) ?_
  refine ep_iln t70_148 rfl ?_
  obtain ⟨v1, g1, hb, σ2, lab2, rfl, rfl, b1, b2, b3⟩ := cl_M_liveBy_33 (X := X) (q := q) (σ := σ1) (T := T) (c := c ^^^ 2 ^ k) (by rw [f1 33 (by decide)]; exact hT) hw h31 (by omega)
  refine ep_cv t70_149 rfl rfl (Nat.le_of_ble_eq_true rfl) (Nat.le_of_ble_eq_true rfl) (hb) ?_
  refine ep_aln t70_152 rfl ?_
  refine ep_aln t70_153 rfl ?_
  refine ep_getr (q := 33) t70_154 rfl (Nat.le_of_ble_eq_true rfl) rfl (rfl) ?_
  refine ep_iln t70_157 rfl ?_
  obtain ⟨v2, g2, hd, σ3, lab3, rfl, rfl, d1, d2, d3⟩ := cl_M_earthedBy_33 (X := X) (q := q) (σ := σ2) (T := T) (c := c ^^^ 2 ^ k) (by rw [b1 33 (by decide), f1 33 (by decide)]; exact hT) hw (by omega)
  refine ep_cv t70_158 rfl rfl (Nat.le_of_ble_eq_true rfl) (Nat.le_of_ble_eq_true rfl) (hd) ?_
  refine ep_andN (a := liveM T (c ^^^ 2 ^ k)) (b := earthM T (c ^^^ 2 ^ k)) t70_161 ?_
  refine ep_if0P t70_162 (ic0_ne (by have := and_lt (b := earthM T (c ^^^ 2 ^ k)) (live_lt h0 (c ^^^ 2 ^ k)); have := pow_le_256 h3; omega)) (fun (c162 : ¬ ((liveM T (c ^^^ 2 ^ k)) &&& (earthM T (c ^^^ 2 ^ k))) = 0) => ?_) (fun (c162 : ¬ (¬ ((liveM T (c ^^^ 2 ^ k)) &&& (earthM T (c ^^^ 2 ^ k))) = 0)) => ?_)
  · refine ep_k1 (w := nI 3) t70_169 rfl ?_
    refine ep_ri t70_170 (fun h => absurd h (by decide)) ?_
    refine ⟨σ3, ?_, rfl, fun p hp => (d1 p hp).trans ((b1 p hp).trans (f1 p hp))⟩
    first
    | (rw [if_pos (Classical.byContradiction c162)])
    | (rw [if_neg c162])
  · refine ep_k1 (w := nI 0) t70_165 rfl ?_
    refine ep_gt t70_166 ?_
    refine ep_ri t70_170 (fun h => absurd h (by decide)) ?_
    refine ⟨σ3, ?_, rfl, fun p hp => (d1 p hp).trans ((b1 p hp).trans (f1 p hp))⟩
    first
    | (rw [if_pos (Classical.byContradiction c162)])
    | (rw [if_neg c162])
theorem cl_M_whyNot {X : gX} {q : Bool} {σ : gT1} {T : Nat → Nat} {c l k : Nat} (hT : ToldM (σ 33) T) (hw : WF0 T) (h31 : T 1 < 2147483648) (h32 : T 2 < 2147483648) (e1 : σ 36 1 = nI l) (hl : l < 2147483648) (hc : c < 2 ^ T 3) (hk : k < T 3) : ClP X 70 [.ref 31, .int (nI k), .int (nI c)] (47, g_rho q, σ) (fun v g1 => ∃ σ2, v = some (.int (nI (why T l c k))) ∧ g1 = (47, g_rho q, σ2) ∧ ∀ p, p ≠ 43 → σ2 p = σ p) := by
  have h0 := hw.1
  have h3 := hw.2.1
  have hx2 := pow_le_256 h3
  refine ClP.of ⟨Nat.le_of_ble_eq_true rfl, rfl⟩ ?_
  show EvP X 70 0 [some (.ref 31), some (.int (nI k)), some (.int (nI c)), none, none, none, none, none] [] (47, g_rho q, σ) _
  refine ep_aln t70_0 rfl ?_
  refine ep_getr (q := 36) t70_1 rfl (Nat.le_of_ble_eq_true rfl) rfl (rfl) ?_
  refine ep_k1 (w := nI 1) t70_4 rfl ?_
  refine ep_aldN t70_5 rfl (Nat.le_of_ble_eq_true rfl) (Nat.ne_of_beq_eq_false rfl) (Nat.le_of_ble_eq_true rfl) (by have := live_lt h0 (clr c k); have := hw.2.2.2 k hk; omega) ?_
  refine ep_val (b := nI l) (e1) ?_
  refine ep_iln t70_6 rfl ?_
  refine ep_cs t70_7 (Nat.ne_of_beq_eq_false rfl) rfl (Nat.le_of_ble_eq_true rfl) (cl_M_has (by have := live_lt h0 (clr c k); have := hw.2.2.2 k hk; omega) (by have := live_lt h0 (clr c k); have := hw.2.2.2 k hk; omega)) ?_
  refine ep_bF t70_10 (fun (c10 : (Nat.testBit l k) = false) => ?_) (fun (c10 : (Nat.testBit l k) = true) => ?_)
  · refine ep_aln t70_15 rfl ?_
    refine ep_getr (q := 33) t70_16 rfl (Nat.le_of_ble_eq_true rfl) rfl (rfl) ?_
    refine ep_k1 (w := nI 4) t70_19 rfl ?_
    refine ep_iln t70_20 rfl ?_
    refine ep_addN (a := 4) (b := k) t70_21 ?_
    refine ep_aldN t70_22 rfl (Nat.le_of_ble_eq_true rfl) (Nat.ne_of_beq_eq_false rfl) (Nat.le_of_ble_eq_true rfl) (by have := live_lt h0 (clr c k); have := hw.2.2.2 k hk; omega) ?_
    refine ep_val (b := nI (T (4 + k))) ((hT.2 k hk).1) ?_
    refine ep_k1 (w := nI 1) t70_23 rfl ?_
    refine ep_ifP t70_24 (ic_ne (by have := live_lt h0 (clr c k); have := hw.2.2.2 k hk; omega) (by have := live_lt h0 (clr c k); have := hw.2.2.2 k hk; omega)) (fun (c24 : ¬ (T (4 + k)) = 1) => ?_) (fun (c24 : ¬ (¬ (T (4 + k)) = 1)) => ?_)
    · refine (L_wn hT hw h31 hc hk σ (fun _ _ => rfl) _ _ _ _ _).mono (fun v g1 ⟨σ2, hv1, hv2, hv3⟩ => ⟨σ2, ?_, hv2, hv3⟩)
      rw [hv1, why_no hk c10 (fun hq => c24 hq.1)]
    · have hu := (hw.2.2.1 k hk).1
      have c24' : T (4 + k) = 1 := Classical.byContradiction c24
      have hv := (hw.2.2.1 k hk).2 (by omega)
      refine ep_aln t70_27 rfl ?_
      refine ep_getr (q := 33) t70_28 rfl (Nat.le_of_ble_eq_true rfl) rfl (rfl) ?_
      refine ep_k2 (w := nI 20) t70_31 rfl ?_
      refine ep_iln t70_33 rfl ?_
      refine ep_addN (a := 20) (b := k) t70_34 ?_
      refine ep_aldN t70_35 rfl (Nat.le_of_ble_eq_true rfl) (Nat.ne_of_beq_eq_false rfl) (Nat.le_of_ble_eq_true rfl) (by have := live_lt h0 (clr c k); have := hw.2.2.2 k hk; omega) ?_
      refine ep_val (b := nI (T (20 + k))) ((hT.2 k hk).2.2.1) ?_
      refine ep_isn (L' := [some (.ref 31), some (.int (nI k)), some (.int (nI c)), some (.int (nI (T (20 + k)))), none, none, none, none]) t70_36 rfl (Nat.le_of_ble_eq_true rfl) ?_
      refine ep_aln t70_37 rfl ?_
      refine ep_getr (q := 33) t70_38 rfl (Nat.le_of_ble_eq_true rfl) rfl (rfl) ?_
      refine ep_k2 (w := nI 28) t70_41 rfl ?_
      refine ep_iln t70_43 rfl ?_
      refine ep_addN (a := 28) (b := k) t70_44 ?_
      refine ep_aldN t70_45 rfl (Nat.le_of_ble_eq_true rfl) (Nat.ne_of_beq_eq_false rfl) (Nat.le_of_ble_eq_true rfl) (by have := live_lt h0 (clr c k); have := hw.2.2.2 k hk; omega) ?_
      refine ep_val (b := sec T k) ((hT.2 k hk).2.2.2) ?_
      refine ep_val (b := nI (T (28 + k))) (if_neg (by omega)) ?_
      refine ep_is (L' := [some (.ref 31), some (.int (nI k)), some (.int (nI c)), some (.int (nI (T (20 + k)))), some (.int (nI (T (28 + k)))), none, none, none]) t70_46 rfl (Nat.le_of_ble_eq_true rfl) ?_
      refine ep_aln t70_48 rfl ?_
      refine ep_aln t70_49 rfl ?_
      refine ep_getr (q := 33) t70_50 rfl (Nat.le_of_ble_eq_true rfl) rfl (rfl) ?_
      refine ep_iln t70_53 rfl ?_
      refine ep_k1 (w := nI 1) t70_54 rfl ?_
      refine ep_iln t70_55 rfl ?_
      refine ep_oneN (b := k) t70_56 (by have := live_lt h0 (clr c k); have := hw.2.2.2 k hk; omega) ?_
      refine ep_k1 (w := (-1)) t70_57 rfl ?_
      refine ep_xor t70_58 ?_
      refine ep_and t70_59 ?_
      refine ep_val (b := nI (clr c k)) (and_not c k) ?_
      obtain ⟨v1, g1, hb, σ1, lab, rfl, rfl, b1, b2, b3⟩ := cl_M_liveBy_33 (X := X) (q := q) (σ := σ) (T := T) (c := clr c k) hT hw h31 (by have := clr_le c k _ hc; omega)
      have hll : ∀ u, u < T 0 → lab u < 6 := fun u hu => by have := (b3 u hu).1.1; omega
      have hlu := hll _ hu
      have hlv := hll _ hv
      have hcn := b3.iff hu hv
      refine ep_cv t70_60 rfl rfl (Nat.le_of_ble_eq_true rfl) (Nat.le_of_ble_eq_true rfl) (hb) ?_
      refine ep_is (L' := [some (.ref 31), some (.int (nI k)), some (.int (nI c)), some (.int (nI (T (20 + k)))), some (.int (nI (T (28 + k)))), some (.int (nI (liveM T (clr c k)))), none, none]) t70_63 rfl (Nat.le_of_ble_eq_true rfl) ?_
      refine ep_il t70_65 rfl ?_
      refine ep_iln t70_67 rfl ?_
      refine ep_cs t70_68 (Nat.ne_of_beq_eq_false rfl) rfl (Nat.le_of_ble_eq_true rfl) (cl_M_has (by have := live_lt h0 (clr c k); have := hw.2.2.2 k hk; omega) (by have := live_lt h0 (clr c k); have := hw.2.2.2 k hk; omega)) ?_
      refine ep_is (L' := [some (.ref 31), some (.int (nI k)), some (.int (nI c)), some (.int (nI (T (20 + k)))), some (.int (nI (T (28 + k)))), some (.int (nI (liveM T (clr c k)))), some (.int (bI (Nat.testBit (liveM T (clr c k)) (T (20 + k))))), none]) t70_71 rfl (Nat.le_of_ble_eq_true rfl) ?_
      refine ep_il t70_73 rfl ?_
      refine ep_il t70_75 rfl ?_
      refine ep_cs t70_77 (Nat.ne_of_beq_eq_false rfl) rfl (Nat.le_of_ble_eq_true rfl) (cl_M_has (by have := live_lt h0 (clr c k); have := hw.2.2.2 k hk; omega) (by have := live_lt h0 (clr c k); have := hw.2.2.2 k hk; omega)) ?_
      refine ep_is (L' := [some (.ref 31), some (.int (nI k)), some (.int (nI c)), some (.int (nI (T (20 + k)))), some (.int (nI (T (28 + k)))), some (.int (nI (liveM T (clr c k)))), some (.int (bI (Nat.testBit (liveM T (clr c k)) (T (20 + k))))), some (.int (bI (Nat.testBit (liveM T (clr c k)) (T (28 + k)))))]) t70_80 rfl (Nat.le_of_ble_eq_true rfl) ?_
      refine ep_aln t70_82 rfl ?_
      refine ep_getr (q := 43) t70_83 rfl (Nat.le_of_ble_eq_true rfl) rfl (rfl) ?_
      refine ep_iln t70_86 rfl ?_
      refine ep_aldN t70_87 rfl (Nat.le_of_ble_eq_true rfl) (Nat.ne_of_beq_eq_false rfl) (Nat.le_of_ble_eq_true rfl) (by have := live_lt h0 (clr c k); have := hw.2.2.2 k hk; omega) ?_
      refine ep_val (b := nI (lab (T (20 + k)))) (b2 _ hu) ?_
      refine ep_aln t70_88 rfl ?_
      refine ep_getr (q := 43) t70_89 rfl (Nat.le_of_ble_eq_true rfl) rfl (rfl) ?_
      refine ep_il t70_92 rfl ?_
      refine ep_aldN t70_94 rfl (Nat.le_of_ble_eq_true rfl) (Nat.ne_of_beq_eq_false rfl) (Nat.le_of_ble_eq_true rfl) (by have := live_lt h0 (clr c k); have := hw.2.2.2 k hk; omega) ?_
      refine ep_val (b := nI (lab (T (28 + k)))) (b2 _ hv) ?_
      refine ep_ifP t70_95 (ic_eq (by have := live_lt h0 (clr c k); have := hw.2.2.2 k hk; omega) (by have := live_lt h0 (clr c k); have := hw.2.2.2 k hk; omega)) (fun (c95 : (lab (T (20 + k))) = (lab (T (28 + k)))) => ?_) (fun (c95 : ¬ ((lab (T (20 + k))) = (lab (T (28 + k))))) => ?_)
      · refine (L_wn hT hw h31 hc hk σ1 b1 _ _ _ _ _).mono (fun v g1 ⟨σ2, hv1, hv2, hv3⟩ => ⟨σ2, ?_, hv2, hv3⟩)
        have hnh : ¬ (T (4 + k) = 1 ∧ under T (clr c k) k) := by
          rintro ⟨-, hq1, hq2⟩
          first
          | exact hq1 (hcn.mp c95)
          | simp_all
        rw [hv1, why_no hk c10 hnh]
      · refine ep_il t70_98 rfl ?_
        refine ep_bF t70_100 (fun (c100 : (Nat.testBit (liveM T (clr c k)) (T (20 + k))) = false) => ?_) (fun (c100 : (Nat.testBit (liveM T (clr c k)) (T (20 + k))) = true) => ?_)
        · refine ep_il t70_108 rfl ?_
          refine ep_bF t70_110 (fun (c110 : (Nat.testBit (liveM T (clr c k)) (T (20 + k))) = false) => ?_) (fun (c110 : (Nat.testBit (liveM T (clr c k)) (T (20 + k))) = true) => ?_)
          · refine ep_il t70_122 rfl ?_
            refine ep_bF t70_124 (fun (c124 : (Nat.testBit (liveM T (clr c k)) (T (28 + k))) = false) => ?_) (fun (c124 : (Nat.testBit (liveM T (clr c k)) (T (28 + k))) = true) => ?_)
            · refine (L_wn hT hw h31 hc hk σ1 b1 _ _ _ _ _).mono (fun v g1 ⟨σ2, hv1, hv2, hv3⟩ => ⟨σ2, ?_, hv2, hv3⟩)
              have hnh : ¬ (T (4 + k) = 1 ∧ under T (clr c k) k) := by
                rintro ⟨-, hq1, hq2⟩
                first
                | exact hq1 (hcn.mp c95)
                | simp_all
              rw [hv1, why_no hk c10 hnh]
            · refine ep_aln t70_127 rfl ?_
              refine ep_iln t70_128 rfl ?_
              refine ep_cv t70_129 rfl rfl (Nat.le_of_ble_eq_true rfl) (Nat.le_of_ble_eq_true rfl) (cl_M_isLoaded (T := T) (c := clr c k) (lab := lab) (by rw [b1 33 (by decide)]; exact hT) h0 h32 b2 hll b3 hu) ?_
              refine ep_bF t70_132 (fun (c132 : ((loadM T (clr c k)).testBit (T (20 + k))) = false) => ?_) (fun (c132 : ((loadM T (clr c k)).testBit (T (20 + k))) = true) => ?_)
              · refine (L_wn hT hw h31 hc hk σ1 b1 _ _ _ _ _).mono (fun v g1 ⟨σ2, hv1, hv2, hv3⟩ => ⟨σ2, ?_, hv2, hv3⟩)
                have hnh : ¬ (T (4 + k) = 1 ∧ under T (clr c k) k) := by
                  rintro ⟨-, hq1, hq2⟩
                  first
                  | exact hq1 (hcn.mp c95)
                  | simp_all
                rw [hv1, why_no hk c10 hnh]
              · refine ep_k1 (w := nI 2) t70_135 rfl ?_
                refine ep_ri t70_136 (fun h => absurd h (by decide)) ?_
                first
                | (refine ⟨σ, ?_, rfl, fun _ _ => rfl⟩; unfold why; rw [if_pos c10])
                | (refine ⟨σ1, ?_, rfl, b1⟩; unfold why; rw [if_neg (by rw [c10]; decide), if_pos ⟨c24', fun q9 => c95 (hcn.mpr q9), by simp_all⟩])
          · refine ep_aln t70_113 rfl ?_
            refine ep_il t70_114 rfl ?_
            refine ep_cv t70_116 rfl rfl (Nat.le_of_ble_eq_true rfl) (Nat.le_of_ble_eq_true rfl) (cl_M_isLoaded (T := T) (c := clr c k) (lab := lab) (by rw [b1 33 (by decide)]; exact hT) h0 h32 b2 hll b3 hv) ?_
            refine ep_bT t70_119 (fun (c119 : ((loadM T (clr c k)).testBit (T (28 + k))) = true) => ?_) (fun (c119 : ((loadM T (clr c k)).testBit (T (28 + k))) = false) => ?_)
            · refine ep_k1 (w := nI 2) t70_135 rfl ?_
              refine ep_ri t70_136 (fun h => absurd h (by decide)) ?_
              first
              | (refine ⟨σ, ?_, rfl, fun _ _ => rfl⟩; unfold why; rw [if_pos c10])
              | (refine ⟨σ1, ?_, rfl, b1⟩; unfold why; rw [if_neg (by rw [c10]; decide), if_pos ⟨c24', fun q9 => c95 (hcn.mpr q9), by simp_all⟩])
            · refine ep_il t70_122 rfl ?_
              refine ep_bF t70_124 (fun (c124 : (Nat.testBit (liveM T (clr c k)) (T (28 + k))) = false) => ?_) (fun (c124 : (Nat.testBit (liveM T (clr c k)) (T (28 + k))) = true) => ?_)
              · refine (L_wn hT hw h31 hc hk σ1 b1 _ _ _ _ _).mono (fun v g1 ⟨σ2, hv1, hv2, hv3⟩ => ⟨σ2, ?_, hv2, hv3⟩)
                have hnh : ¬ (T (4 + k) = 1 ∧ under T (clr c k) k) := by
                  rintro ⟨-, hq1, hq2⟩
                  first
                  | exact hq1 (hcn.mp c95)
                  | simp_all
                rw [hv1, why_no hk c10 hnh]
              · refine ep_aln t70_127 rfl ?_
                refine ep_iln t70_128 rfl ?_
                refine ep_cv t70_129 rfl rfl (Nat.le_of_ble_eq_true rfl) (Nat.le_of_ble_eq_true rfl) (cl_M_isLoaded (T := T) (c := clr c k) (lab := lab) (by rw [b1 33 (by decide)]; exact hT) h0 h32 b2 hll b3 hu) ?_
                refine ep_bF t70_132 (fun (c132 : ((loadM T (clr c k)).testBit (T (20 + k))) = false) => ?_) (fun (c132 : ((loadM T (clr c k)).testBit (T (20 + k))) = true) => ?_)
                · refine (L_wn hT hw h31 hc hk σ1 b1 _ _ _ _ _).mono (fun v g1 ⟨σ2, hv1, hv2, hv3⟩ => ⟨σ2, ?_, hv2, hv3⟩)
                  have hnh : ¬ (T (4 + k) = 1 ∧ under T (clr c k) k) := by
                    rintro ⟨-, hq1, hq2⟩
                    first
                    | exact hq1 (hcn.mp c95)
                    | simp_all
                  rw [hv1, why_no hk c10 hnh]
                · refine ep_k1 (w := nI 2) t70_135 rfl ?_
                  refine ep_ri t70_136 (fun h => absurd h (by decide)) ?_
                  first
                  | (refine ⟨σ, ?_, rfl, fun _ _ => rfl⟩; unfold why; rw [if_pos c10])
                  | (refine ⟨σ1, ?_, rfl, b1⟩; unfold why; rw [if_neg (by rw [c10]; decide), if_pos ⟨c24', fun q9 => c95 (hcn.mpr q9), by simp_all⟩])
        · refine ep_il t70_103 rfl ?_
          refine ep_bT t70_105 (fun (c105 : (Nat.testBit (liveM T (clr c k)) (T (28 + k))) = true) => ?_) (fun (c105 : (Nat.testBit (liveM T (clr c k)) (T (28 + k))) = false) => ?_)
          · refine ep_k1 (w := nI 2) t70_135 rfl ?_
            refine ep_ri t70_136 (fun h => absurd h (by decide)) ?_
            first
            | (refine ⟨σ, ?_, rfl, fun _ _ => rfl⟩; unfold why; rw [if_pos c10])
            | (refine ⟨σ1, ?_, rfl, b1⟩; unfold why; rw [if_neg (by rw [c10]; decide), if_pos ⟨c24', fun q9 => c95 (hcn.mpr q9), by simp_all⟩])
          · refine ep_il t70_108 rfl ?_
            refine ep_bF t70_110 (fun (c110 : (Nat.testBit (liveM T (clr c k)) (T (20 + k))) = false) => ?_) (fun (c110 : (Nat.testBit (liveM T (clr c k)) (T (20 + k))) = true) => ?_)
            · refine ep_il t70_122 rfl ?_
              refine ep_bF t70_124 (fun (c124 : (Nat.testBit (liveM T (clr c k)) (T (28 + k))) = false) => ?_) (fun (c124 : (Nat.testBit (liveM T (clr c k)) (T (28 + k))) = true) => ?_)
              · refine (L_wn hT hw h31 hc hk σ1 b1 _ _ _ _ _).mono (fun v g1 ⟨σ2, hv1, hv2, hv3⟩ => ⟨σ2, ?_, hv2, hv3⟩)
                have hnh : ¬ (T (4 + k) = 1 ∧ under T (clr c k) k) := by
                  rintro ⟨-, hq1, hq2⟩
                  first
                  | exact hq1 (hcn.mp c95)
                  | simp_all
                rw [hv1, why_no hk c10 hnh]
              · refine ep_aln t70_127 rfl ?_
                refine ep_iln t70_128 rfl ?_
                refine ep_cv t70_129 rfl rfl (Nat.le_of_ble_eq_true rfl) (Nat.le_of_ble_eq_true rfl) (cl_M_isLoaded (T := T) (c := clr c k) (lab := lab) (by rw [b1 33 (by decide)]; exact hT) h0 h32 b2 hll b3 hu) ?_
                refine ep_bF t70_132 (fun (c132 : ((loadM T (clr c k)).testBit (T (20 + k))) = false) => ?_) (fun (c132 : ((loadM T (clr c k)).testBit (T (20 + k))) = true) => ?_)
                · refine (L_wn hT hw h31 hc hk σ1 b1 _ _ _ _ _).mono (fun v g1 ⟨σ2, hv1, hv2, hv3⟩ => ⟨σ2, ?_, hv2, hv3⟩)
                  have hnh : ¬ (T (4 + k) = 1 ∧ under T (clr c k) k) := by
                    rintro ⟨-, hq1, hq2⟩
                    first
                    | exact hq1 (hcn.mp c95)
                    | simp_all
                  rw [hv1, why_no hk c10 hnh]
                · refine ep_k1 (w := nI 2) t70_135 rfl ?_
                  refine ep_ri t70_136 (fun h => absurd h (by decide)) ?_
                  first
                  | (refine ⟨σ, ?_, rfl, fun _ _ => rfl⟩; unfold why; rw [if_pos c10])
                  | (refine ⟨σ1, ?_, rfl, b1⟩; unfold why; rw [if_neg (by rw [c10]; decide), if_pos ⟨c24', fun q9 => c95 (hcn.mpr q9), by simp_all⟩])
            · refine ep_aln t70_113 rfl ?_
              refine ep_il t70_114 rfl ?_
              refine ep_cv t70_116 rfl rfl (Nat.le_of_ble_eq_true rfl) (Nat.le_of_ble_eq_true rfl) (cl_M_isLoaded (T := T) (c := clr c k) (lab := lab) (by rw [b1 33 (by decide)]; exact hT) h0 h32 b2 hll b3 hv) ?_
              refine ep_bT t70_119 (fun (c119 : ((loadM T (clr c k)).testBit (T (28 + k))) = true) => ?_) (fun (c119 : ((loadM T (clr c k)).testBit (T (28 + k))) = false) => ?_)
              · refine ep_k1 (w := nI 2) t70_135 rfl ?_
                refine ep_ri t70_136 (fun h => absurd h (by decide)) ?_
                first
                | (refine ⟨σ, ?_, rfl, fun _ _ => rfl⟩; unfold why; rw [if_pos c10])
                | (refine ⟨σ1, ?_, rfl, b1⟩; unfold why; rw [if_neg (by rw [c10]; decide), if_pos ⟨c24', fun q9 => c95 (hcn.mpr q9), by simp_all⟩])
              · refine ep_il t70_122 rfl ?_
                refine ep_bF t70_124 (fun (c124 : (Nat.testBit (liveM T (clr c k)) (T (28 + k))) = false) => ?_) (fun (c124 : (Nat.testBit (liveM T (clr c k)) (T (28 + k))) = true) => ?_)
                · refine (L_wn hT hw h31 hc hk σ1 b1 _ _ _ _ _).mono (fun v g1 ⟨σ2, hv1, hv2, hv3⟩ => ⟨σ2, ?_, hv2, hv3⟩)
                  have hnh : ¬ (T (4 + k) = 1 ∧ under T (clr c k) k) := by
                    rintro ⟨-, hq1, hq2⟩
                    first
                    | exact hq1 (hcn.mp c95)
                    | simp_all
                  rw [hv1, why_no hk c10 hnh]
                · refine ep_aln t70_127 rfl ?_
                  refine ep_iln t70_128 rfl ?_
                  refine ep_cv t70_129 rfl rfl (Nat.le_of_ble_eq_true rfl) (Nat.le_of_ble_eq_true rfl) (cl_M_isLoaded (T := T) (c := clr c k) (lab := lab) (by rw [b1 33 (by decide)]; exact hT) h0 h32 b2 hll b3 hu) ?_
                  refine ep_bF t70_132 (fun (c132 : ((loadM T (clr c k)).testBit (T (20 + k))) = false) => ?_) (fun (c132 : ((loadM T (clr c k)).testBit (T (20 + k))) = true) => ?_)
                  · refine (L_wn hT hw h31 hc hk σ1 b1 _ _ _ _ _).mono (fun v g1 ⟨σ2, hv1, hv2, hv3⟩ => ⟨σ2, ?_, hv2, hv3⟩)
                    have hnh : ¬ (T (4 + k) = 1 ∧ under T (clr c k) k) := by
                      rintro ⟨-, hq1, hq2⟩
                      first
                      | exact hq1 (hcn.mp c95)
                      | simp_all
                    rw [hv1, why_no hk c10 hnh]
                  · refine ep_k1 (w := nI 2) t70_135 rfl ?_
                    refine ep_ri t70_136 (fun h => absurd h (by decide)) ?_
                    first
                    | (refine ⟨σ, ?_, rfl, fun _ _ => rfl⟩; unfold why; rw [if_pos c10])
                    | (refine ⟨σ1, ?_, rfl, b1⟩; unfold why; rw [if_neg (by rw [c10]; decide), if_pos ⟨c24', fun q9 => c95 (hcn.mpr q9), by simp_all⟩])
  · refine ep_k1 (w := nI 1) t70_13 rfl ?_
    refine ep_ri t70_14 (fun h => absurd h (by decide)) ?_
    first
    | (refine ⟨σ, ?_, rfl, fun _ _ => rfl⟩; unfold why; rw [if_pos c10])
    | (refine ⟨σ1, ?_, rfl, b1⟩; unfold why; rw [if_neg (by rw [c10]; decide), if_pos ⟨c24', fun q9 => c95 (hcn.mpr q9), by simp_all⟩])

