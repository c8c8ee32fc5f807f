/-! Pairs: images, undo, locks, prices. -/
theorem inB_01 (a : Int32) : inB a 0 1 = inR a 2 := by
  unfold inB inR
  apply decide_eq_decide.mpr
  omega
theorem pow_le_256 {m : Nat} (h : m ≤ 8) : (2 : Nat) ^ m ≤ 256 := Nat.le_trans (Nat.pow_le_pow_right (by decide) h) (by decide)
theorem pow_lt_256 {k : Nat} (h : k < 8) : (2 : Nat) ^ k < 256 := Nat.lt_of_lt_of_le (Nat.pow_lt_pow_right (by decide) h) (by decide)
theorem xor_lt {c k m : Nat} (hc : c < 2 ^ m) (hk : k < m) : c ^^^ 2 ^ k < 2 ^ m := Nat.xor_lt_two_pow hc (Nat.pow_lt_pow_right (by decide) hk)
theorem L_keep {X : gX} {q : Bool} {σ : gT1} {b : Nat} {P : Option Value → gS → Prop} (hb : b < 2) (K : ∀ σ' : gT1, (∀ p, p ≠ 38 → σ' p = σ p) → (∀ i, i < 5 → σ' 38 (5 * b + i) = σ 36 i) → (∀ j, (j < 5 * b ∨ 5 * b + 5 ≤ j) → σ' 38 j = σ 38 j) → EvP X 144 45 [some (.ref 31), some (.int (nI b)), some (.int (nI 5))] [] (47, g_rho q, σ') P) : ∀ (d k : Nat) (σ' : gT1), k + d = 5 → (∀ p, p ≠ 38 → σ' p = σ p) → (∀ i, i < k → σ' 38 (5 * b + i) = σ 36 i) → (∀ j, (j < 5 * b ∨ 5 * b + 5 ≤ j) → σ' 38 j = σ 38 j) → EvP X 144 18 [some (.ref 31), some (.int (nI b)), some (.int (nI k))] [] (47, g_rho q, σ') P
  | 0, k, σ', hk, h1, h2, h3 => by
    obtain rfl : k = 5 := by omega
    refine ep_iln t144_18 rfl ?_
    refine ep_k1 (w := nI 5) t144_19 rfl ?_
    refine ep_ifP t144_20 (ic_ge (by omega) (by omega)) (fun (c20 : 5 ≤ 5) => ?_) (fun (c20 : ¬ (5 ≤ 5)) => (by exact absurd (Nat.le_refl 5) c20))
    exact K σ' h1 h2 h3
  | d + 1, k, σ', hk, h1, h2, h3 => by
    refine ep_iln t144_18 rfl ?_
    refine ep_k1 (w := nI 5) t144_19 rfl ?_
    refine ep_ifP t144_20 (ic_ge (by omega) (by omega)) (fun (c20 : 5 ≤ k) => (by omega)) (fun (c20 : ¬ (5 ≤ k)) => ?_)
    refine ep_aln t144_23 rfl ?_
    refine ep_getr (q := 38) t144_24 rfl (Nat.le_of_ble_eq_true rfl) rfl (rfl) ?_
    refine ep_k1 (w := nI 5) t144_27 rfl ?_
    refine ep_iln t144_28 rfl ?_
    refine ep_mulN (a := 5) (b := b) t144_29 ?_
    refine ep_iln t144_30 rfl ?_
    refine ep_addN (a := 5 * b) (b := k) t144_31 ?_
    refine ep_aln t144_32 rfl ?_
    refine ep_getr (q := 36) t144_33 rfl (Nat.le_of_ble_eq_true rfl) rfl (rfl) ?_
    refine ep_iln t144_36 rfl ?_
    refine ep_aldN t144_37 rfl (Nat.le_of_ble_eq_true rfl) (Nat.ne_of_beq_eq_false rfl) (Nat.le_of_ble_eq_true rfl) (by omega) ?_
    refine ep_astN t144_38 rfl (Nat.le_of_ble_eq_true rfl) (Nat.le_of_ble_eq_true rfl) (by omega) ?_
    refine ep_inc (b := nI (k + 1)) (L' := [some (.ref 31), some (.int (nI b)), some (.int (nI (k + 1)))]) t144_39 rfl (nI_add k 1) rfl (Nat.le_of_ble_eq_true rfl) ?_
    refine ep_gt t144_42 ?_
    exact L_keep hb K d (k + 1) _ (by omega) (fun p hp => (g_up_ne hp).trans (h1 p hp)) (fun i hi => by
      by_cases e : i = k
      · subst e
        rw [g_up_eq, h1 36 (by decide)]
      · rw [g_up_j (by omega)]
        exact h2 i (by omega)) (fun j hj => by
      rw [g_up_j (by omega)]
      exact h3 j hj)
theorem L_back {X : gX} {q : Bool} {σ : gT1} {b : Nat} {P : Option Value → gS → Prop} (hb : b < 2) (K : ∀ σ' : gT1, (∀ p, p ≠ 36 → σ' p = σ p) → (∀ i, i < 5 → σ' 36 i = σ 38 (5 * b + i)) → EvP X 146 57 [some (.ref 31), some (.int (nI b)), some (.int (nI 5))] [] (47, g_rho q, σ') P) : ∀ (d k : Nat) (σ' : gT1), k + d = 5 → (∀ p, p ≠ 36 → σ' p = σ p) → (∀ i, i < k → σ' 36 i = σ 38 (5 * b + i)) → EvP X 146 30 [some (.ref 31), some (.int (nI b)), some (.int (nI k))] [] (47, g_rho q, σ') P
  | 0, k, σ', hk, h1, h2 => by
    obtain rfl : k = 5 := by omega
    refine ep_iln t146_30 rfl ?_
    refine ep_k1 (w := nI 5) t146_31 rfl ?_
    refine ep_ifP t146_32 (ic_ge (by omega) (by omega)) (fun (c32 : 5 ≤ 5) => ?_) (fun (c32 : ¬ (5 ≤ 5)) => (by exact absurd (Nat.le_refl 5) c32))
    exact K σ' h1 h2
  | d + 1, k, σ', hk, h1, h2 => by
    refine ep_iln t146_30 rfl ?_
    refine ep_k1 (w := nI 5) t146_31 rfl ?_
    refine ep_ifP t146_32 (ic_ge (by omega) (by omega)) (fun (c32 : 5 ≤ k) => (by omega)) (fun (c32 : ¬ (5 ≤ k)) => ?_)
    refine ep_aln t146_35 rfl ?_
    refine ep_getr (q := 36) t146_36 rfl (Nat.le_of_ble_eq_true rfl) rfl (rfl) ?_
    refine ep_iln t146_39 rfl ?_
    refine ep_aln t146_40 rfl ?_
    refine ep_getr (q := 38) t146_41 rfl (Nat.le_of_ble_eq_true rfl) rfl (rfl) ?_
    refine ep_k1 (w := nI 5) t146_44 rfl ?_
    refine ep_iln t146_45 rfl ?_
    refine ep_mulN (a := 5) (b := b) t146_46 ?_
    refine ep_iln t146_47 rfl ?_
    refine ep_addN (a := 5 * b) (b := k) t146_48 ?_
    refine ep_aldN t146_49 rfl (Nat.le_of_ble_eq_true rfl) (Nat.ne_of_beq_eq_false rfl) (Nat.le_of_ble_eq_true rfl) (by omega) ?_
    refine ep_astN t146_50 rfl (Nat.le_of_ble_eq_true rfl) (Nat.le_of_ble_eq_true rfl) (by omega) ?_
    refine ep_inc (b := nI (k + 1)) (L' := [some (.ref 31), some (.int (nI b)), some (.int (nI (k + 1)))]) t146_51 rfl (nI_add k 1) rfl (Nat.le_of_ble_eq_true rfl) ?_
    refine ep_gt t146_54 ?_
    exact L_back hb K d (k + 1) _ (by omega) (fun p hp => (g_up_ne hp).trans (h1 p hp)) (fun i hi => by
      by_cases e : i = k
      · subst e
        rw [g_up_eq, h1 38 (by decide)]
      · rw [g_up_j (by omega)]
        exact h2 i (by omega))
theorem L_undo {X : gX} {q : Bool} {σ : gT1} {b : Nat} {P : Option Value → gS → Prop} (hb : b < 10) (eb : σ 31 13 = nI b) (K : ∀ σ' : gT1, (∀ p, p ≠ 36 → σ' p = σ p) → (∀ i, i < 5 → σ' 36 i = σ 37 (5 * b + i)) → EvP X 112 57 [some (.ref 31), some (.int (nI 5))] [] (47, g_rho q, σ') P) : ∀ (d k : Nat) (σ' : gT1), k + d = 5 → (∀ p, p ≠ 36 → σ' p = σ p) → (∀ i, i < k → σ' 36 i = σ 37 (5 * b + i)) → EvP X 112 27 [some (.ref 31), some (.int (nI k))] [] (47, g_rho q, σ') P
  | 0, k, σ', hk, h1, h2 => by
    obtain rfl : k = 5 := by omega
    refine ep_iln t112_27 rfl ?_
    refine ep_k1 (w := nI 5) t112_28 rfl ?_
    refine ep_ifP t112_29 (ic_ge (by omega) (by omega)) (fun (c29 : 5 ≤ 5) => ?_) (fun (c29 : ¬ (5 ≤ 5)) => (by exact absurd (Nat.le_refl 5) c29))
    exact K σ' h1 h2
  | d + 1, k, σ', hk, h1, h2 => by
    refine ep_iln t112_27 rfl ?_
    refine ep_k1 (w := nI 5) t112_28 rfl ?_
    refine ep_ifP t112_29 (ic_ge (by omega) (by omega)) (fun (c29 : 5 ≤ k) => (by omega)) (fun (c29 : ¬ (5 ≤ k)) => ?_)
    refine ep_aln t112_32 rfl ?_
    refine ep_getr (q := 36) t112_33 rfl (Nat.le_of_ble_eq_true rfl) rfl (rfl) ?_
    refine ep_iln t112_36 rfl ?_
    refine ep_aln t112_37 rfl ?_
    refine ep_getr (q := 37) t112_38 rfl (Nat.le_of_ble_eq_true rfl) rfl (rfl) ?_
    refine ep_k1 (w := nI 5) t112_41 rfl ?_
    refine ep_aln t112_42 rfl ?_
    refine ep_get t112_43 rfl (Nat.le_of_ble_eq_true rfl) rfl ?_
    refine ep_val (b := nI b) ((congrFun (h1 31 (by decide)) 13).trans eb) ?_
    refine ep_mulN (a := 5) (b := b) t112_46 ?_
    refine ep_iln t112_47 rfl ?_
    refine ep_addN (a := 5 * b) (b := k) t112_48 ?_
    refine ep_aldN t112_49 rfl (Nat.le_of_ble_eq_true rfl) (Nat.ne_of_beq_eq_false rfl) (Nat.le_of_ble_eq_true rfl) (by omega) ?_
    refine ep_astN t112_50 rfl (Nat.le_of_ble_eq_true rfl) (Nat.le_of_ble_eq_true rfl) (by omega) ?_
    refine ep_inc (b := nI (k + 1)) (L' := [some (.ref 31), some (.int (nI (k + 1)))]) t112_51 rfl (nI_add k 1) rfl (Nat.le_of_ble_eq_true rfl) ?_
    refine ep_gt t112_54 ?_
    exact L_undo hb eb K d (k + 1) _ (by omega) (fun p hp => (g_up_ne hp).trans (h1 p hp)) (fun i hi => by
      by_cases e : i = k
      · subst e
        rw [g_up_eq, h1 37 (by decide)]
      · rw [g_up_j (by omega)]
        exact h2 i (by omega))
theorem pr_keep {X : gX} {q : Bool} {σ : gT1} (hR : Rel q σ) (a : Int32) : Pair X 143 144 [.int a] q σ := by
  have hR0 := hR
  obtain ⟨T, c, l, pr, hN, hW, hT, hO, hU, hI, hS⟩ := hR
  obtain ⟨⟨hwf0, hwf1⟩, ⟨hwf2, hwf3⟩, hwf4, hwf5, hwf6⟩ := hN.1
  have hB3 : σ (np q) 3 = nI (T 3) := hN.2.1.1 3 (by decide)
  have hB0 : σ (np q) 0 = nI (T 0) := hN.2.1.1 0 (by decide)
  have hM3 : σ 33 3 = nI (T 3) := hN.2.2.1 3 (by decide)
  have hM0 : σ 33 0 = nI (T 0) := hN.2.2.1 0 (by decide)
  obtain ⟨hsn, e4, e5, e25, e36⟩ := id hW
  obtain ⟨hc, hl, hp0, hp1, hp2⟩ := hsn.lt hwf4
  obtain ⟨kp, hkp, hk2, hk3⟩ := id hI
  cases hin : inR a 2 with
  | false =>
    refine Pair.of (ClP.of ⟨Nat.le_of_ble_eq_true rfl, rfl⟩ ?_)
    show EvP X 143 0 [some (.ref 0), some (.int a)] [] (47, g_rho q, σ) _
    refine ep_iln t143_0 rfl ?_
    refine ep_cs t143_1 (Nat.ne_of_beq_eq_false rfl) rfl (Nat.le_of_ble_eq_true rfl) (cl_B_isImage _) ?_
    refine ep_bT t143_4 (fun (c4 : (inR a 2) = true) => (by exact absurd c4 (by rw [hin]; decide))) (fun (c4 : (inR a 2) = false) => ?_)
    refine ep_k1 (w := (-1)) t143_7 rfl ?_
    refine ep_ri t143_8 (fun h => absurd h (by decide)) ?_
    refine ⟨_, q, _, rfl, rfl, ClP.of ⟨Nat.le_of_ble_eq_true rfl, rfl⟩ ?_⟩
    show EvP X 144 0 [some (.ref 31), some (.int a), none] [] (47, g_rho q, σ) _
    refine ep_aln t144_0 rfl ?_
    refine ep_k1 (w := nI 0) t144_1 rfl ?_
    refine ep_put t144_2 rfl (Nat.le_of_ble_eq_true rfl) rfl ?_
    refine ep_iln t144_5 rfl ?_
    refine ep_k1 (w := nI 0) t144_6 rfl ?_
    refine ep_k1 (w := nI 1) t144_7 rfl ?_
    refine ep_cs t144_8 (Nat.ne_of_beq_eq_false rfl) rfl (Nat.le_of_ble_eq_true rfl) (cl_M_inB _ (by decide) (by decide)) ?_
    refine ep_bT t144_11 (fun (c11 : (inB a 0 1) = true) => (by exact absurd c11 (by rw [inB_01, hin]; decide))) (fun (c11 : (inB a 0 1) = false) => ?_)
    refine ep_k1 (w := (-1)) t144_14 rfl ?_
    refine ep_ri t144_15 (fun h => absurd h (by decide)) ?_
    exact ⟨_, rfl, rfl, hR0.thrown _⟩
  | true =>
    obtain ⟨b, hb, rfl⟩ := inR_of (by decide) hin
    refine Pair.of (ClP.of ⟨Nat.le_of_ble_eq_true rfl, rfl⟩ ?_)
    show EvP X 143 0 [some (.ref 0), some (.int (nI b))] [] (47, g_rho q, σ) _
    refine ep_iln t143_0 rfl ?_
    refine ep_cs t143_1 (Nat.ne_of_beq_eq_false rfl) rfl (Nat.le_of_ble_eq_true rfl) (cl_B_isImage _) ?_
    refine ep_bT t143_4 (fun (c4 : (inR (nI b) 2) = true) => ?_) (fun (c4 : (inR (nI b) 2) = false) => (by exact absurd c4 (by rw [hin]; decide)))
    refine ep_aln t143_9 rfl ?_
    refine ep_getr (q := 28) t143_10 rfl (Nat.le_of_ble_eq_true rfl) rfl (rfl) ?_
    refine ep_iln t143_13 rfl ?_
    refine ep_aln t143_14 rfl ?_
    refine ep_cv t143_15 rfl rfl (Nat.le_of_ble_eq_true rfl) (Nat.le_of_ble_eq_true rfl) (cl_B_standing (σ := σ) (c := c) (l := l) (pr := pr) e4 e5 e25 hc hl hp0 hp1 hp2) ?_
    refine ep_astN t143_18 rfl (Nat.le_of_ble_eq_true rfl) (Nat.le_of_ble_eq_true rfl) (by omega) ?_
    refine ep_aln t143_19 rfl ?_
    refine ep_dup t143_20 rfl ?_
    refine ep_get t143_21 rfl (Nat.le_of_ble_eq_true rfl) rfl ?_
    refine ep_val (b := nI kp) (hk2) ?_
    refine ep_k1 (w := nI 1) t143_24 rfl ?_
    refine ep_iln t143_25 rfl ?_
    refine ep_oneN (b := b) t143_26 (by omega) ?_
    refine ep_orN (a := kp) (b := 2 ^ b) t143_27 ?_
    refine ep_put t143_28 rfl (Nat.le_of_ble_eq_true rfl) rfl ?_
    refine ep_aln t143_31 rfl ?_
    refine ep_get t143_32 rfl (Nat.le_of_ble_eq_true rfl) rfl ?_
    refine ep_val (b := nI c) (e4) ?_
    refine ep_ri t143_35 (fun h => absurd h (by decide)) ?_
    refine ⟨_, q, _, rfl, rfl, ClP.of ⟨Nat.le_of_ble_eq_true rfl, rfl⟩ ?_⟩
    show EvP X 144 0 [some (.ref 31), some (.int (nI b)), none] [] (47, g_rho q, g_up (g_up σ 28 b (nI (pkI c l pr))) 0 12 (nI (kp ||| (2 ^ b)))) _
    refine ep_aln t144_0 rfl ?_
    refine ep_k1 (w := nI 0) t144_1 rfl ?_
    refine ep_put t144_2 rfl (Nat.le_of_ble_eq_true rfl) rfl ?_
    refine ep_iln t144_5 rfl ?_
    refine ep_k1 (w := nI 0) t144_6 rfl ?_
    refine ep_k1 (w := nI 1) t144_7 rfl ?_
    refine ep_cs t144_8 (Nat.ne_of_beq_eq_false rfl) rfl (Nat.le_of_ble_eq_true rfl) (cl_M_inB _ (by decide) (by decide)) ?_
    refine ep_bT t144_11 (fun (c11 : (inB (nI b) 0 1) = true) => ?_) (fun (c11 : (inB (nI b) 0 1) = false) => (by exact absurd c11 (by rw [inB_01, inR_nI hb (by decide)]; decide)))
    refine ep_k1 (w := nI 0) t144_16 rfl ?_
    refine ep_isn (L' := [some (.ref 31), some (.int (nI b)), some (.int (nI 0))]) t144_17 rfl (Nat.le_of_ble_eq_true rfl) ?_
    refine L_keep (σ := g_up (g_up (g_up σ 28 b (nI (pkI c l pr))) 0 12 (nI (kp ||| (2 ^ b)))) 31 0 (nI 0)) hb (fun σ1 a1 a2 a3 => ?_) 5 0 _ (by omega) (fun _ _ => rfl) (fun i hi => absurd hi (Nat.not_lt_zero i)) (fun _ _ => rfl)
    refine ep_aln t144_45 rfl ?_
    refine ep_getr (q := 39) t144_46 rfl (Nat.le_of_ble_eq_true rfl) rfl (rfl) ?_
    refine ep_iln t144_49 rfl ?_
    refine ep_k1 (w := nI 1) t144_50 rfl ?_
    refine ep_bstN t144_51 rfl (Nat.le_of_ble_eq_true rfl) (Nat.le_of_ble_eq_true rfl) (by omega) ?_
    refine ep_aln t144_52 rfl ?_
    refine ep_getr (q := 36) t144_53 rfl (Nat.le_of_ble_eq_true rfl) rfl (rfl) ?_
    refine ep_k1 (w := nI 0) t144_56 rfl ?_
    refine ep_aldN t144_57 rfl (Nat.le_of_ble_eq_true rfl) (Nat.ne_of_beq_eq_false rfl) (Nat.le_of_ble_eq_true rfl) (by omega) ?_
    refine ep_val (b := nI c) ((congrFun (a1 36 (by decide)) 0).trans (e36 0 (by decide))) ?_
    refine ep_ri t144_58 (fun h => absurd h (by decide)) ?_
    exact ⟨_, rfl, rfl, ⟨T, c, l, pr, hN.fr (fun p h1 h2 => by rw [g_up_ne (by omega), a1 p (by omega)]; repeat rw [g_up_ne (by omega)]) (a1 33 (by decide)), hW.fr (congrFun (a1 0 (by decide)) 4) (congrFun (a1 0 (by decide)) 5) (a1 25 (by decide)) (a1 36 (by decide)), hT.fr (congrFun (a1 1 (by decide)) 1) (a1 2 (by decide)) (congrFun (a1 31 (by decide)) 2) (a1 32 (by decide)), hO.fr (congrFun (a1 0 (by decide)) 8) (a1 26 (by decide)) (congrFun (a1 31 (by decide)) 17) (a1 40 (by decide)), hU.fr (congrFun (a1 0 (by decide)) 10) (a1 27 (by decide)) (congrFun (a1 31 (by decide)) 13) (a1 37 (by decide)), ⟨kp ||| 2 ^ b, by
        have : (2 : Nat) ^ b < 2 ^ 2 := Nat.pow_lt_pow_right (by decide) hb
        exact Nat.or_lt_two_pow (n := 2) hkp this, (congrFun (a1 0 (by decide)) 12), fun i hi => by
        have hbit : (kp ||| 2 ^ b).testBit i = (kp.testBit i || decide (b = i)) := by rw [Nat.testBit_or, Nat.testBit_two_pow]
        rw [hbit]
        have g39 : ∀ v : Int32, g_up σ1 39 b v 39 i = if i = b then v else σ 39 i := fun v => by
          by_cases e : i = b
          · subst e; rw [if_pos rfl]; exact g_up_eq
          · rw [if_neg e, g_up_j e]; exact congrFun (a1 39 (by decide)) i
        refine ⟨?_, fun hk => ?_⟩
        · rw [g39]
          by_cases e : i = b
          · subst e; simp [bI]; rfl
          · rw [if_neg e, (hk3 i hi).1]
            simp [Ne.symm e]
        · by_cases e : i = b
          · subst e
            refine ⟨c, l, pr, hsn, (congrFun (a1 28 (by decide)) i).trans (by simp [g_up, upd]), fun j hj => ?_⟩
            exact (a2 j hj).trans (e36 j hj)
          · obtain ⟨c', l', pr', s1, s2, s3⟩ := (hk3 i hi).2 (by simpa [Ne.symm e] using hk)
            refine ⟨c', l', pr', s1, (congrFun (a1 28 (by decide)) i).trans (by simpa [g_up, upd, e] using s2), fun j hj => ?_⟩
            exact (a3 (5 * i + j) (by omega)).trans (s3 j hj)⟩, hS.fr (congrFun (a1 0 (by decide)) 14) (a1 29 (by decide)) (congrFun (a1 31 (by decide)) 20) (a1 41 (by decide)) (a1 42 (by decide))⟩⟩
theorem pr_back {X : gX} {q : Bool} {σ : gT1} (hR : Rel q σ) (a : Int32) : Pair X 145 146 [.int a] q σ := by
  have hR0 := hR
  obtain ⟨T, c, l, pr, hN, hW, hT, hO, hU, hI, hS⟩ := hR
  obtain ⟨⟨hwf0, hwf1⟩, ⟨hwf2, hwf3⟩, hwf4, hwf5, hwf6⟩ := hN.1
  have hB3 : σ (np q) 3 = nI (T 3) := hN.2.1.1 3 (by decide)
  have hB0 : σ (np q) 0 = nI (T 0) := hN.2.1.1 0 (by decide)
  have hM3 : σ 33 3 = nI (T 3) := hN.2.2.1 3 (by decide)
  have hM0 : σ 33 0 = nI (T 0) := hN.2.2.1 0 (by decide)
  obtain ⟨hsn, e4, e5, e25, e36⟩ := id hW
  obtain ⟨hc, hl, hp0, hp1, hp2⟩ := hsn.lt hwf4
  obtain ⟨kp, hkp, hk2, hk3⟩ := id hI
  cases hin : inR a 2 with
  | false =>
    refine Pair.of (ClP.of ⟨Nat.le_of_ble_eq_true rfl, rfl⟩ ?_)
    show EvP X 145 0 [some (.ref 0), some (.int a)] [] (47, g_rho q, σ) _
    refine ep_iln t145_0 rfl ?_
    refine ep_cs t145_1 (Nat.ne_of_beq_eq_false rfl) rfl (Nat.le_of_ble_eq_true rfl) (cl_B_isImage _) ?_
    refine ep_bT t145_4 (fun (c4 : (inR a 2) = true) => (by exact absurd c4 (by rw [hin]; decide))) (fun (c4 : (inR a 2) = false) => ?_)
    refine ep_k1 (w := (-1)) t145_7 rfl ?_
    refine ep_ri t145_8 (fun h => absurd h (by decide)) ?_
    refine ⟨_, q, _, rfl, rfl, ClP.of ⟨Nat.le_of_ble_eq_true rfl, rfl⟩ ?_⟩
    show EvP X 146 0 [some (.ref 31), some (.int a), none] [] (47, g_rho q, σ) _
    refine ep_aln t146_0 rfl ?_
    refine ep_k1 (w := nI 0) t146_1 rfl ?_
    refine ep_put t146_2 rfl (Nat.le_of_ble_eq_true rfl) rfl ?_
    refine ep_iln t146_5 rfl ?_
    refine ep_k1 (w := nI 0) t146_6 rfl ?_
    refine ep_k1 (w := nI 1) t146_7 rfl ?_
    refine ep_cs t146_8 (Nat.ne_of_beq_eq_false rfl) rfl (Nat.le_of_ble_eq_true rfl) (cl_M_inB _ (by decide) (by decide)) ?_
    refine ep_bT t146_11 (fun (c11 : (inB a 0 1) = true) => (by exact absurd c11 (by rw [inB_01, hin]; decide))) (fun (c11 : (inB a 0 1) = false) => ?_)
    refine ep_k1 (w := (-1)) t146_14 rfl ?_
    refine ep_ri t146_15 (fun h => absurd h (by decide)) ?_
    exact ⟨_, rfl, rfl, hR0.thrown _⟩
  | true =>
    obtain ⟨b, hb, rfl⟩ := inR_of (by decide) hin
    have hkb := hk3 b hb
    refine Pair.of (ClP.of ⟨Nat.le_of_ble_eq_true rfl, rfl⟩ ?_)
    show EvP X 145 0 [some (.ref 0), some (.int (nI b))] [] (47, g_rho q, σ) _
    refine ep_iln t145_0 rfl ?_
    refine ep_cs t145_1 (Nat.ne_of_beq_eq_false rfl) rfl (Nat.le_of_ble_eq_true rfl) (cl_B_isImage _) ?_
    refine ep_bT t145_4 (fun (c4 : (inR (nI b) 2) = true) => ?_) (fun (c4 : (inR (nI b) 2) = false) => (by exact absurd c4 (by rw [hin]; decide)))
    refine ep_aln t145_9 rfl ?_
    refine ep_get t145_10 rfl (Nat.le_of_ble_eq_true rfl) rfl ?_
    refine ep_val (b := nI kp) (hk2) ?_
    refine ep_iln t145_13 rfl ?_
    refine ep_cs t145_14 (Nat.ne_of_beq_eq_false rfl) rfl (Nat.le_of_ble_eq_true rfl) (cl_B_bit (by omega) (by omega)) ?_
    refine ep_bT t145_17 (fun (c17 : (Nat.testBit kp b) = true) => ?_) (fun (c17 : (Nat.testBit kp b) = false) => ?_)
    · obtain ⟨c', l', pr', hs', s2', s3'⟩ := hkb.2 c17
      obtain ⟨hc', hl', hp0', hp1', hp2'⟩ := hs'.lt hwf4
      refine ep_aln t145_23 rfl ?_
      refine ep_aln t145_24 rfl ?_
      refine ep_getr (q := 28) t145_25 rfl (Nat.le_of_ble_eq_true rfl) rfl (rfl) ?_
      refine ep_iln t145_28 rfl ?_
      refine ep_aldN t145_29 rfl (Nat.le_of_ble_eq_true rfl) (Nat.ne_of_beq_eq_false rfl) (Nat.le_of_ble_eq_true rfl) (by omega) ?_
      refine ep_val (b := nI (pkI c' l' pr')) (s2') ?_
      refine ep_cv t145_30 rfl rfl (Nat.le_of_ble_eq_true rfl) (Nat.le_of_ble_eq_true rfl) (cl_B_restore (c := c') (l := l') (pr := pr') hc' hl' hp0' hp1' hp2') ?_
      refine ep_aln t145_33 rfl ?_
      refine ep_k1 (w := nI 0) t145_34 rfl ?_
      refine ep_put t145_35 rfl (Nat.le_of_ble_eq_true rfl) rfl ?_
      refine ep_aln t145_38 rfl ?_
      refine ep_get t145_39 rfl (Nat.le_of_ble_eq_true rfl) rfl ?_
      refine ep_val (b := nI c') (rfl) ?_
      refine ep_ri t145_42 (fun h => absurd h (by decide)) ?_
      refine ⟨_, q, _, rfl, rfl, ClP.of ⟨Nat.le_of_ble_eq_true rfl, rfl⟩ ?_⟩
      show EvP X 146 0 [some (.ref 31), some (.int (nI b)), none] [] (47, g_rho q, g_up (g_up (g_up (g_up (g_up (g_up σ 0 4 (nI c')) 0 5 (nI l')) 25 0 (nI (pr' 0))) 25 1 (nI (pr' 1))) 25 2 (nI (pr' 2))) 0 10 (nI 0)) _
      refine ep_aln t146_0 rfl ?_
      refine ep_k1 (w := nI 0) t146_1 rfl ?_
      refine ep_put t146_2 rfl (Nat.le_of_ble_eq_true rfl) rfl ?_
      refine ep_iln t146_5 rfl ?_
      refine ep_k1 (w := nI 0) t146_6 rfl ?_
      refine ep_k1 (w := nI 1) t146_7 rfl ?_
      refine ep_cs t146_8 (Nat.ne_of_beq_eq_false rfl) rfl (Nat.le_of_ble_eq_true rfl) (cl_M_inB _ (by decide) (by decide)) ?_
      refine ep_bT t146_11 (fun (c11 : (inB (nI b) 0 1) = true) => ?_) (fun (c11 : (inB (nI b) 0 1) = false) => (by exact absurd c11 (by rw [inB_01, inR_nI hb (by decide)]; decide)))
      refine ep_aln t146_16 rfl ?_
      refine ep_getr (q := 39) t146_17 rfl (Nat.le_of_ble_eq_true rfl) rfl (rfl) ?_
      refine ep_iln t146_20 rfl ?_
      refine ep_bldN t146_21 rfl (Nat.le_of_ble_eq_true rfl) (Nat.ne_of_beq_eq_false rfl) (Nat.le_of_ble_eq_true rfl) (by omega) ?_
      refine ep_val (b := bI (kp.testBit b)) (hkb.1) ?_
      refine ep_bT t146_22 (fun (c22 : (kp.testBit b) = true) => ?_) (fun (c22 : (kp.testBit b) = false) => (by exact absurd c17 (by rw [c22]; decide)))
      refine ep_k1 (w := nI 0) t146_28 rfl ?_
      refine ep_isn (L' := [some (.ref 31), some (.int (nI b)), some (.int (nI 0))]) t146_29 rfl (Nat.le_of_ble_eq_true rfl) ?_
      refine L_back (σ := g_up (g_up (g_up (g_up (g_up (g_up (g_up σ 0 4 (nI c')) 0 5 (nI l')) 25 0 (nI (pr' 0))) 25 1 (nI (pr' 1))) 25 2 (nI (pr' 2))) 0 10 (nI 0)) 31 0 (nI 0)) hb (fun σ1 a1 a2 => ?_) 5 0 _ (by omega) (fun _ _ => rfl) (fun i hi => absurd hi (Nat.not_lt_zero i))
      refine ep_aln t146_57 rfl ?_
      refine ep_k1 (w := nI 0) t146_58 rfl ?_
      refine ep_put t146_59 rfl (Nat.le_of_ble_eq_true rfl) rfl ?_
      refine ep_aln t146_62 rfl ?_
      refine ep_getr (q := 36) t146_63 rfl (Nat.le_of_ble_eq_true rfl) rfl (rfl) ?_
      refine ep_k1 (w := nI 0) t146_66 rfl ?_
      refine ep_aldN t146_67 rfl (Nat.le_of_ble_eq_true rfl) (Nat.ne_of_beq_eq_false rfl) (Nat.le_of_ble_eq_true rfl) (by omega) ?_
      refine ep_val (b := nI c') ((a2 0 (by decide)).trans (s3' 0 (by decide))) ?_
      refine ep_ri t146_68 (fun h => absurd h (by decide)) ?_
      exact ⟨_, rfl, rfl, ⟨T, c', l', pr', hN.fr (fun p h1 h2 => by rw [g_up_ne (by omega), a1 p (by omega)]; repeat rw [g_up_ne (by omega)]) (a1 33 (by decide)), ⟨hs', (congrFun (a1 0 (by decide)) 4), (congrFun (a1 0 (by decide)) 5), fun i hi => by
          rw [show g_up σ1 31 13 (nI 0) 25 = σ1 25 from rfl, a1 25 (by decide)]
          match i, hi with
          | 0, _ => rfl
          | 1, _ => rfl
          | 2, _ => rfl, fun i hi => (a2 i hi).trans (s3' i hi)⟩, hT.fr (congrFun (a1 1 (by decide)) 1) (a1 2 (by decide)) (congrFun (a1 31 (by decide)) 2) (a1 32 (by decide)), hO.fr (congrFun (a1 0 (by decide)) 8) (a1 26 (by decide)) (congrFun (a1 31 (by decide)) 17) (a1 40 (by decide)), ⟨0, by decide, (congrFun (a1 0 (by decide)) 10), rfl, fun j hj => absurd hj (Nat.not_lt_zero j)⟩, hI.fr (congrFun (a1 0 (by decide)) 12) (a1 28 (by decide)) (a1 39 (by decide)) (a1 38 (by decide)), hS.fr (congrFun (a1 0 (by decide)) 14) (a1 29 (by decide)) (congrFun (a1 31 (by decide)) 20) (a1 41 (by decide)) (a1 42 (by decide))⟩⟩
    · refine ep_k2 (w := (-2)) t145_20 rfl ?_
      refine ep_ri t145_22 (fun h => absurd h (by decide)) ?_
      refine ⟨_, q, _, rfl, rfl, ClP.of ⟨Nat.le_of_ble_eq_true rfl, rfl⟩ ?_⟩
      show EvP X 146 0 [some (.ref 31), some (.int (nI b)), none] [] (47, g_rho q, σ) _
      refine ep_aln t146_0 rfl ?_
      refine ep_k1 (w := nI 0) t146_1 rfl ?_
      refine ep_put t146_2 rfl (Nat.le_of_ble_eq_true rfl) rfl ?_
      refine ep_iln t146_5 rfl ?_
      refine ep_k1 (w := nI 0) t146_6 rfl ?_
      refine ep_k1 (w := nI 1) t146_7 rfl ?_
      refine ep_cs t146_8 (Nat.ne_of_beq_eq_false rfl) rfl (Nat.le_of_ble_eq_true rfl) (cl_M_inB _ (by decide) (by decide)) ?_
      refine ep_bT t146_11 (fun (c11 : (inB (nI b) 0 1) = true) => ?_) (fun (c11 : (inB (nI b) 0 1) = false) => (by exact absurd c11 (by rw [inB_01, inR_nI hb (by decide)]; decide)))
      refine ep_aln t146_16 rfl ?_
      refine ep_getr (q := 39) t146_17 rfl (Nat.le_of_ble_eq_true rfl) rfl (rfl) ?_
      refine ep_iln t146_20 rfl ?_
      refine ep_bldN t146_21 rfl (Nat.le_of_ble_eq_true rfl) (Nat.ne_of_beq_eq_false rfl) (Nat.le_of_ble_eq_true rfl) (by omega) ?_
      refine ep_val (b := bI (kp.testBit b)) (hkb.1) ?_
      refine ep_bT t146_22 (fun (c22 : (kp.testBit b) = true) => (by exact absurd c22 (by rw [c17]; decide))) (fun (c22 : (kp.testBit b) = false) => ?_)
      refine ep_k2 (w := (-2)) t146_25 rfl ?_
      refine ep_ri t146_27 (fun h => absurd h (by decide)) ?_
      exact ⟨_, rfl, rfl, hR0.thrown _⟩
theorem pr_undo {X : gX} {q : Bool} {σ : gT1} (hR : Rel q σ) : Pair X 111 112 [] q σ := by
  have hR0 := hR
  obtain ⟨T, c, l, pr, hN, hW, hT, hO, hU, hI, hS⟩ := hR
  obtain ⟨⟨hwf0, hwf1⟩, ⟨hwf2, hwf3⟩, hwf4, hwf5, hwf6⟩ := hN.1
  have hB3 : σ (np q) 3 = nI (T 3) := hN.2.1.1 3 (by decide)
  have hB0 : σ (np q) 0 = nI (T 0) := hN.2.1.1 0 (by decide)
  have hM3 : σ 33 3 = nI (T 3) := hN.2.2.1 3 (by decide)
  have hM0 : σ 33 0 = nI (T 0) := hN.2.2.1 0 (by decide)
  obtain ⟨hsn, e4, e5, e25, e36⟩ := id hW
  obtain ⟨hc, hl, hp0, hp1, hp2⟩ := hsn.lt hwf4
  obtain ⟨n, hn, hu1, hu2, hu3⟩ := id hU
  cases n with
  | zero =>
    refine Pair.of (ClP.of ⟨Nat.le_of_ble_eq_true rfl, rfl⟩ ?_)
    show EvP X 111 0 [some (.ref 0)] [] (47, g_rho q, σ) _
    refine ep_aln t111_0 rfl ?_
    refine ep_get t111_1 rfl (Nat.le_of_ble_eq_true rfl) rfl ?_
    refine ep_val (b := nI 0) (hu1) ?_
    refine ep_if0P t111_4 (ic0_ne (by omega)) (fun (c4 : ¬ 0 = 0) => (by exact absurd rfl c4)) (fun (c4 : ¬ (¬ 0 = 0)) => ?_)
    refine ep_k2 (w := (-2)) t111_7 rfl ?_
    refine ep_ri t111_9 (fun h => absurd h (by decide)) ?_
    refine ⟨_, q, _, rfl, rfl, ClP.of ⟨Nat.le_of_ble_eq_true rfl, rfl⟩ ?_⟩
    show EvP X 112 0 [some (.ref 31), none] [] (47, g_rho q, σ) _
    refine ep_aln t112_0 rfl ?_
    refine ep_k1 (w := nI 0) t112_1 rfl ?_
    refine ep_put t112_2 rfl (Nat.le_of_ble_eq_true rfl) rfl ?_
    refine ep_aln t112_5 rfl ?_
    refine ep_get t112_6 rfl (Nat.le_of_ble_eq_true rfl) rfl ?_
    refine ep_val (b := nI 0) (hu2) ?_
    refine ep_if0P t112_9 (ic0_ne (by omega)) (fun (c9 : ¬ 0 = 0) => (by exact absurd rfl c9)) (fun (c9 : ¬ (¬ 0 = 0)) => ?_)
    refine ep_k2 (w := (-2)) t112_12 rfl ?_
    refine ep_ri t112_14 (fun h => absurd h (by decide)) ?_
    exact ⟨_, rfl, rfl, hR0.thrown _⟩
  | succ n =>
    obtain ⟨c', l', pr', hs', s2', s3'⟩ := hu3 n (by omega)
    obtain ⟨hc', hl', hp0', hp1', hp2'⟩ := hs'.lt hwf4
    refine Pair.of (ClP.of ⟨Nat.le_of_ble_eq_true rfl, rfl⟩ ?_)
    show EvP X 111 0 [some (.ref 0)] [] (47, g_rho q, σ) _
    refine ep_aln t111_0 rfl ?_
    refine ep_get t111_1 rfl (Nat.le_of_ble_eq_true rfl) rfl ?_
    refine ep_val (b := nI (n + 1)) (hu1) ?_
    refine ep_if0P t111_4 (ic0_ne (by omega)) (fun (c4 : ¬ (n + 1) = 0) => ?_) (fun (c4 : ¬ (¬ (n + 1) = 0)) => (by exact absurd c4 (by omega)))
    refine ep_aln t111_10 rfl ?_
    refine ep_dup t111_11 rfl ?_
    refine ep_get t111_12 rfl (Nat.le_of_ble_eq_true rfl) rfl ?_
    refine ep_val (b := nI (n + 1)) (hu1) ?_
    refine ep_k1 (w := nI 1) t111_15 rfl ?_
    refine ep_subN (a := n + 1) (b := 1) t111_16 (by omega) ?_
    refine ep_val (b := nI n) (by rw [Nat.add_sub_cancel]) ?_
    refine ep_put t111_17 rfl (Nat.le_of_ble_eq_true rfl) rfl ?_
    refine ep_aln t111_20 rfl ?_
    refine ep_aln t111_21 rfl ?_
    refine ep_getr (q := 27) t111_22 rfl (Nat.le_of_ble_eq_true rfl) rfl (rfl) ?_
    refine ep_aln t111_25 rfl ?_
    refine ep_get t111_26 rfl (Nat.le_of_ble_eq_true rfl) rfl ?_
    refine ep_val (b := nI n) (rfl) ?_
    refine ep_aldN t111_29 rfl (Nat.le_of_ble_eq_true rfl) (Nat.ne_of_beq_eq_false rfl) (Nat.le_of_ble_eq_true rfl) (by omega) ?_
    refine ep_val (b := nI (pkI c' l' pr')) (s2') ?_
    refine ep_cv t111_30 rfl rfl (Nat.le_of_ble_eq_true rfl) (Nat.le_of_ble_eq_true rfl) (cl_B_restore (c := c') (l := l') (pr := pr') hc' hl' hp0' hp1' hp2') ?_
    refine ep_aln t111_33 rfl ?_
    refine ep_get t111_34 rfl (Nat.le_of_ble_eq_true rfl) rfl ?_
    refine ep_val (b := nI n) (rfl) ?_
    refine ep_ri t111_37 (fun h => absurd h (by decide)) ?_
    refine ⟨_, q, _, rfl, rfl, ClP.of ⟨Nat.le_of_ble_eq_true rfl, rfl⟩ ?_⟩
    show EvP X 112 0 [some (.ref 31), none] [] (47, g_rho q, g_up (g_up (g_up (g_up (g_up (g_up σ 0 10 (nI n)) 0 4 (nI c')) 0 5 (nI l')) 25 0 (nI (pr' 0))) 25 1 (nI (pr' 1))) 25 2 (nI (pr' 2))) _
    refine ep_aln t112_0 rfl ?_
    refine ep_k1 (w := nI 0) t112_1 rfl ?_
    refine ep_put t112_2 rfl (Nat.le_of_ble_eq_true rfl) rfl ?_
    refine ep_aln t112_5 rfl ?_
    refine ep_get t112_6 rfl (Nat.le_of_ble_eq_true rfl) rfl ?_
    refine ep_val (b := nI (n + 1)) (hu2) ?_
    refine ep_if0P t112_9 (ic0_ne (by omega)) (fun (c9 : ¬ (n + 1) = 0) => ?_) (fun (c9 : ¬ (¬ (n + 1) = 0)) => (by exact absurd c9 (by omega)))
    refine ep_aln t112_15 rfl ?_
    refine ep_dup t112_16 rfl ?_
    refine ep_get t112_17 rfl (Nat.le_of_ble_eq_true rfl) rfl ?_
    refine ep_val (b := nI (n + 1)) (hu2) ?_
    refine ep_k1 (w := nI 1) t112_20 rfl ?_
    refine ep_subN (a := n + 1) (b := 1) t112_21 (by omega) ?_
    refine ep_val (b := nI n) (by rw [Nat.add_sub_cancel]) ?_
    refine ep_put t112_22 rfl (Nat.le_of_ble_eq_true rfl) rfl ?_
    refine ep_k1 (w := nI 0) t112_25 rfl ?_
    refine ep_isn (L' := [some (.ref 31), some (.int (nI 0))]) t112_26 rfl (Nat.le_of_ble_eq_true rfl) ?_
    refine L_undo (σ := g_up (g_up (g_up (g_up (g_up (g_up (g_up (g_up σ 0 10 (nI n)) 0 4 (nI c')) 0 5 (nI l')) 25 0 (nI (pr' 0))) 25 1 (nI (pr' 1))) 25 2 (nI (pr' 2))) 31 0 (nI 0)) 31 13 (nI n)) (b := n) (by omega) rfl (fun σ1 a1 a2 => ?_) 5 0 _ (by omega) (fun _ _ => rfl) (fun i hi => absurd hi (Nat.not_lt_zero i))
    refine ep_aln t112_57 rfl ?_
    refine ep_get t112_58 rfl (Nat.le_of_ble_eq_true rfl) rfl ?_
    refine ep_val (b := nI n) (congrFun (a1 31 (by decide)) 13) ?_
    refine ep_ri t112_61 (fun h => absurd h (by decide)) ?_
    exact ⟨_, rfl, rfl, ⟨T, c', l', pr', hN.fr (fun p h1 h2 => by rw [a1 p (by omega)]; repeat rw [g_up_ne (by omega)]) (a1 33 (by decide)), ⟨hs', (congrFun (a1 0 (by decide)) 4), (congrFun (a1 0 (by decide)) 5), fun i hi => by
        rw [a1 25 (by decide)]
        match i, hi with
        | 0, _ => rfl
        | 1, _ => rfl
        | 2, _ => rfl, fun i hi => (a2 i hi).trans (s3' i hi)⟩, hT.fr (congrFun (a1 1 (by decide)) 1) (a1 2 (by decide)) (congrFun (a1 31 (by decide)) 2) (a1 32 (by decide)), hO.fr (congrFun (a1 0 (by decide)) 8) (a1 26 (by decide)) (congrFun (a1 31 (by decide)) 17) (a1 40 (by decide)), ⟨n, by omega, (congrFun (a1 0 (by decide)) 10), (congrFun (a1 31 (by decide)) 13), fun j hj => by
        obtain ⟨c2, l2, pr2, z1, z2, z3⟩ := hu3 j (by omega)
        exact ⟨c2, l2, pr2, z1, (congrFun (a1 27 (by decide)) j).trans z2, fun i hi => (congrFun (a1 37 (by decide)) (5 * j + i)).trans (z3 i hi)⟩⟩, hI.fr (congrFun (a1 0 (by decide)) 12) (a1 28 (by decide)) (a1 39 (by decide)) (a1 38 (by decide)), hS.fr (congrFun (a1 0 (by decide)) 14) (a1 29 (by decide)) (congrFun (a1 31 (by decide)) 20) (a1 41 (by decide)) (a1 42 (by decide))⟩⟩
