/-! Pairs unseen, look. -/
theorem Rel.b {q : Bool} {σ σ' : gT1} (h : Rel q σ) (m1 : ∀ p, p ≠ np q + 8 → p ≠ 30 → σ' p = σ p) : Rel q σ' := by
  have h2 : Rel q (fun p => if p = 30 then σ 30 else σ' p) := h.part (fun p hp => by
    show (if p = 30 then σ 30 else σ' p) = σ p
    by_cases e : p = 30
    · rw [if_pos e, e]
    · rw [if_neg e]; exact m1 p hp e)
  obtain ⟨T, c, l, pr, hN, hW, hT, hO, hU, hI, hS⟩ := h2
  exact ⟨T, c, l, pr, hN.fr (fun p h1 h2 => (if_neg (by omega : ¬ p = 30)).symm) rfl, hW.fr rfl rfl rfl rfl, hT.fr rfl rfl rfl rfl, hO.fr rfl rfl rfl rfl, hU.fr rfl rfl rfl rfl, hI.fr rfl rfl rfl rfl, hS.fr rfl rfl rfl rfl rfl⟩
theorem bI_toNat (b : Bool) : bI b = nI b.toNat := by cases b <;> rfl
/-- a call on either side that changes nothing but what is looked up -/
theorem Pair.one {X : gX} {y z : Nat} {A : List Value} {q : Bool} {σ : gT1} {v : Int32} (hR : Rel q σ) (hB : ClP X y (.ref 0 :: A) (47, g_rho q, σ) (fun w g1 => ∃ σ1, w = some (.int v) ∧ g1 = (47, g_rho q, σ1) ∧ ∀ p, p ≠ np q + 8 → p ≠ 30 → σ1 p = σ p)) (hM : ∀ σ1 : gT1, (∀ p, p ≠ np q + 8 → p ≠ 30 → σ1 p = σ p) → ClP X z (.ref 31 :: A) (47, g_rho q, σ1) (fun w g1 => ∃ σ2, w = some (.int v) ∧ g1 = (47, g_rho q, σ2) ∧ (∀ p, p ≠ 31 → p ≠ 43 → p ≠ 44 → p ≠ 45 → p ≠ 46 → σ2 p = σ1 p) ∧ ∀ k, k ≠ 0 → σ2 31 k = σ1 31 k)) : Pair X y z A q σ := by
  obtain ⟨w, g1, h1, σ1, rfl, rfl, h2⟩ := hB
  obtain ⟨w, g2, h3, σ2, rfl, rfl, h4, h5⟩ := hM σ1 h2
  refine ⟨v, q, σ1, σ2, h1, h3, ?_⟩
  have h6 : Rel q (g_up σ1 31 0 (σ2 31 0)) := (hR.b h2).thrown _
  refine h6.scr (fun p a b c d => ?_)
  by_cases e : p = 31
  · subst e
    funext k
    by_cases e2 : k = 0
    · subst e2; exact g_up_eq.symm
    · rw [g_up_j e2]; exact h5 k e2
  · rw [g_up_ne e]; exact h4 p e a b c d
def expl (T : Nat → Nat) (c n : Nat) (su sb : Nat → Nat) (k : Nat) : Prop := ∀ j, j < n → ((liveM T (c ^^^ 2 ^ k)).testBit (su j)).toNat = sb j
noncomputable def unsM (T : Nat → Nat) (c n : Nat) (su sb : Nat → Nat) : Nat := mk (T 3) (expl T c n su sb)
theorem R_see.get {T : Nat → Nat} {σ : gT1} (h : R_see T σ) : ∃ (n : Nat) (su sb : Nat → Nat), n ≤ 6 ∧ σ 0 14 = nI n ∧ σ 31 20 = nI n ∧ ∀ j, j < n → (su j < T 0 ∧ sb j < 2) ∧ σ 29 j = nI (2 * su j + sb j) ∧ σ 41 j = nI (su j) ∧ σ 42 j = nI (sb j) := by
  obtain ⟨n, h1, h2, h3, h4⟩ := h
  have h : ∀ j, ∃ u b, j < n → (u < T 0 ∧ b < 2) ∧ σ 29 j = nI (2 * u + b) ∧ σ 41 j = nI u ∧ σ 42 j = nI b := fun j => by
    by_cases hj : j < n
    · obtain ⟨u, b, a1, a2, a3, a4, a5⟩ := h4 j hj
      exact ⟨u, b, fun _ => ⟨⟨a1, a2⟩, a3, a4, a5⟩⟩
    · exact ⟨0, 0, fun g => absurd g hj⟩
  exact ⟨n, fun j => Classical.choose (h j), fun j => Classical.choose (Classical.choose_spec (h j)), h1, h2, h3, fun j hj => Classical.choose_spec (Classical.choose_spec (h j)) hj⟩
theorem mk_step {P : Nat → Prop} {s k : Nat} (h : s = mk k P) (b : Prop) (hb : b ↔ P k) [Decidable b] : (if b then s ||| 2 ^ k else s) = mk (k + 1) P := by
  refine mk_eq (fun i => ?_)
  have key : s.testBit i = true ↔ i < k ∧ P i := by rw [h]; exact mk_bit P i k
  by_cases hb2 : b
  · rw [if_pos hb2, or_bit, key]
    constructor
    · rintro (⟨g1, g2⟩ | g)
      · exact ⟨by omega, g2⟩
      · subst g; exact ⟨by omega, hb.mp hb2⟩
    · rintro ⟨g1, g2⟩
      by_cases e : i = k
      · exact Or.inr e
      · exact Or.inl ⟨by omega, g2⟩
  · rw [if_neg hb2, key]
    constructor
    · rintro ⟨g1, g2⟩
      exact ⟨by omega, g2⟩
    · rintro ⟨g1, g2⟩
      refine ⟨?_, g2⟩
      by_cases e : i = k
      · subst e; exact absurd (hb.mpr g2) hb2
      · omega
theorem mk_yes {P : Nat → Prop} {k : Nat} (h : P k) : mk k P ||| 2 ^ k = mk (k + 1) P := by
  have := mk_step (P := P) (k := k) rfl True ⟨fun _ => h, fun _ => trivial⟩
  rwa [if_pos trivial] at this
theorem mk_no {P : Nat → Prop} {k : Nat} (h : ¬ P k) : mk k P = mk (k + 1) P := by
  have := mk_step (P := P) (k := k) rfl False ⟨fun g => g.elim, fun g => (h g).elim⟩
  rwa [if_neg id] at this
theorem L_ex_7 {X : gX} {k : Nat} {P : Option Value → gS → Prop} {σ : gT1} {T : Nat → Nat} {c n : Nat} {su sb : Nat → Nat} (hN : NetC σ 7 T) (h0 : T 0 ≤ 6) (h3 : T 3 ≤ 8) (hc : c < 2 ^ T 3) (e4 : σ 0 4 = nI c) (hn : n ≤ 6) (e14 : σ 0 14 = nI n) (hs : ∀ j, j < n → (su j < T 0 ∧ sb j < 2) ∧ σ 29 j = nI (2 * su j + sb j)) (K0 : ¬ expl T c n su sb k → P (some (.int (nI 0))) (47, g_rho false, σ)) (K1 : expl T c n su sb k → P (some (.int (nI 1))) (47, g_rho false, σ)) : ∀ (d i : Nat), i + d = n → (∀ j, j < i → ((liveM T (c ^^^ 2 ^ k)).testBit (su j)).toNat = sb j) → EvP X 134 19 [some (.ref 0), some (.int (nI k)), some (.int (nI (liveM T (c ^^^ 2 ^ k)))), some (.int (nI i))] [] (47, g_rho false, σ) P
  | 0, i, hk, h2 => by
    obtain rfl : n = i := by omega
    refine ep_iln t134_19 rfl ?_
    refine ep_aln t134_20 rfl ?_
    refine ep_get t134_21 rfl (Nat.le_of_ble_eq_true rfl) rfl ?_
    refine ep_val (b := nI n) (e14) ?_
    refine ep_ifP t134_24 (ic_ge (by have := live_lt h0 (c ^^^ 2 ^ k); omega) (by have := live_lt h0 (c ^^^ 2 ^ k); omega)) (fun (c24 : n ≤ n) => ?_) (fun (c24 : ¬ (n ≤ n)) => (by exact absurd (Nat.le_refl _) c24))
    refine ep_k1 (w := nI 1) t134_58 rfl ?_
    refine ep_ri t134_59 (fun _ => rfl) ?_
    exact K1 h2
  | d + 1, i, hk, h2 => by
    have hi : i < n := by omega
    refine ep_iln t134_19 rfl ?_
    refine ep_aln t134_20 rfl ?_
    refine ep_get t134_21 rfl (Nat.le_of_ble_eq_true rfl) rfl ?_
    refine ep_val (b := nI n) (e14) ?_
    refine ep_ifP t134_24 (ic_ge (by have := live_lt h0 (c ^^^ 2 ^ k); have := (hs i hi).1; have := Bool.toNat_lt ((liveM T (c ^^^ 2 ^ k)).testBit (su i)); omega) (by have := live_lt h0 (c ^^^ 2 ^ k); have := (hs i hi).1; have := Bool.toNat_lt ((liveM T (c ^^^ 2 ^ k)).testBit (su i)); omega)) (fun (c24 : n ≤ i) => (by omega)) (fun (c24 : ¬ (n ≤ i)) => ?_)
    refine ep_iln t134_27 rfl ?_
    refine ep_aln t134_28 rfl ?_
    refine ep_getr (q := 29) t134_29 rfl (Nat.le_of_ble_eq_true rfl) rfl (rfl) ?_
    refine ep_iln t134_32 rfl ?_
    refine ep_aldN t134_33 rfl (Nat.le_of_ble_eq_true rfl) (Nat.ne_of_beq_eq_false rfl) (Nat.le_of_ble_eq_true rfl) (by have := live_lt h0 (c ^^^ 2 ^ k); have := (hs i hi).1; have := Bool.toNat_lt ((liveM T (c ^^^ 2 ^ k)).testBit (su i)); omega) ?_
    refine ep_val (b := nI (2 * su i + sb i)) ((hs i hi).2) ?_
    refine ep_k1 (w := nI 2) t134_34 rfl ?_
    refine ep_divN (a := 2 * su i + sb i) (b := 2) t134_35 (by have := live_lt h0 (c ^^^ 2 ^ k); have := (hs i hi).1; have := Bool.toNat_lt ((liveM T (c ^^^ 2 ^ k)).testBit (su i)); omega) (by have := live_lt h0 (c ^^^ 2 ^ k); have := (hs i hi).1; have := Bool.toNat_lt ((liveM T (c ^^^ 2 ^ k)).testBit (su i)); omega) (by have := live_lt h0 (c ^^^ 2 ^ k); have := (hs i hi).1; have := Bool.toNat_lt ((liveM T (c ^^^ 2 ^ k)).testBit (su i)); omega) ?_
    refine ep_val (b := nI (su i)) (congrArg nI (by have := (hs i hi).1; omega)) ?_
    refine ep_cs t134_36 (Nat.ne_of_beq_eq_false rfl) rfl (Nat.le_of_ble_eq_true rfl) (cl_B_bit (by have := live_lt h0 (c ^^^ 2 ^ k); have := (hs i hi).1; have := Bool.toNat_lt ((liveM T (c ^^^ 2 ^ k)).testBit (su i)); omega) (by have := live_lt h0 (c ^^^ 2 ^ k); have := (hs i hi).1; have := Bool.toNat_lt ((liveM T (c ^^^ 2 ^ k)).testBit (su i)); omega)) ?_
    refine ep_val (b := nI ((Nat.testBit (liveM T (c ^^^ 2 ^ k)) (su i)).toNat)) (bI_toNat _) ?_
    refine ep_aln t134_39 rfl ?_
    refine ep_getr (q := 29) t134_40 rfl (Nat.le_of_ble_eq_true rfl) rfl (rfl) ?_
    refine ep_iln t134_43 rfl ?_
    refine ep_aldN t134_44 rfl (Nat.le_of_ble_eq_true rfl) (Nat.ne_of_beq_eq_false rfl) (Nat.le_of_ble_eq_true rfl) (by have := live_lt h0 (c ^^^ 2 ^ k); have := (hs i hi).1; have := Bool.toNat_lt ((liveM T (c ^^^ 2 ^ k)).testBit (su i)); omega) ?_
    refine ep_val (b := nI (2 * su i + sb i)) ((hs i hi).2) ?_
    refine ep_k1 (w := nI 2) t134_45 rfl ?_
    refine ep_remN (a := 2 * su i + sb i) (b := 2) t134_46 (by have := live_lt h0 (c ^^^ 2 ^ k); have := (hs i hi).1; have := Bool.toNat_lt ((liveM T (c ^^^ 2 ^ k)).testBit (su i)); omega) (by have := live_lt h0 (c ^^^ 2 ^ k); have := (hs i hi).1; have := Bool.toNat_lt ((liveM T (c ^^^ 2 ^ k)).testBit (su i)); omega) (by have := live_lt h0 (c ^^^ 2 ^ k); have := (hs i hi).1; have := Bool.toNat_lt ((liveM T (c ^^^ 2 ^ k)).testBit (su i)); omega) ?_
    refine ep_val (b := nI (sb i)) (congrArg nI (by have := (hs i hi).1; omega)) ?_
    refine ep_ifP t134_47 (ic_eq (by have := live_lt h0 (c ^^^ 2 ^ k); have := (hs i hi).1; have := Bool.toNat_lt ((liveM T (c ^^^ 2 ^ k)).testBit (su i)); omega) (by have := live_lt h0 (c ^^^ 2 ^ k); have := (hs i hi).1; have := Bool.toNat_lt ((liveM T (c ^^^ 2 ^ k)).testBit (su i)); omega)) (fun (c47 : ((Nat.testBit (liveM T (c ^^^ 2 ^ k)) (su i)).toNat) = (sb i)) => ?_) (fun (c47 : ¬ (((Nat.testBit (liveM T (c ^^^ 2 ^ k)) (su i)).toNat) = (sb i))) => ?_)
    · refine ep_inc (b := nI (i + 1)) (L' := [some (.ref 0), some (.int (nI k)), some (.int (nI (liveM T (c ^^^ 2 ^ k)))), some (.int (nI (i + 1)))]) t134_52 rfl (nI_add i 1) rfl (Nat.le_of_ble_eq_true rfl) ?_
      refine ep_gt t134_55 ?_
      refine L_ex_7 hN h0 h3 hc e4 hn e14 hs K0 K1 d (i + 1) (by omega) (fun j hj => ?_)
      by_cases e : j = i
      · subst e; exact c47
      · exact h2 j (by omega)
    · refine ep_k1 (w := nI 0) t134_50 rfl ?_
      refine ep_ri t134_51 (fun _ => rfl) ?_
      exact K0 (fun h => c47 (h i hi))
theorem cl_B_expl_7 {X : gX} {k : Nat} {σ : gT1} {T : Nat → Nat} {c n : Nat} {su sb : Nat → Nat} (hN : NetC σ 7 T) (h0 : T 0 ≤ 6) (h3 : T 3 ≤ 8) (hc : c < 2 ^ T 3) (e4 : σ 0 4 = nI c) (hn : n ≤ 6) (e14 : σ 0 14 = nI n) (hs : ∀ j, j < n → (su j < T 0 ∧ sb j < 2) ∧ σ 29 j = nI (2 * su j + sb j)) (hk : k < T 3) : ClP X 134 [.ref 0, .int (nI k)] (47, g_rho false, σ) (fun v g1 => ∃ b : Bool, v = some (.int (bI b)) ∧ g1 = (47, g_rho false, σ) ∧ (b = true ↔ expl T c n su sb k)) := by
  refine ClP.of ⟨Nat.le_of_ble_eq_true rfl, rfl⟩ ?_
  show EvP X 134 0 [some (.ref 0), some (.int (nI k)), none, none] [] (47, g_rho false, σ) _
  refine ep_aln t134_0 rfl ?_
  refine ep_getr (q := 7) t134_1 rfl (Nat.le_of_ble_eq_true rfl) rfl (rfl) ?_
  refine ep_getr (q := 12) t134_4 rfl (Nat.le_of_ble_eq_true rfl) rfl (rfl) ?_
  refine ep_aln t134_7 rfl ?_
  refine ep_get t134_8 rfl (Nat.le_of_ble_eq_true rfl) rfl ?_
  refine ep_val (b := nI c) (e4) ?_
  refine ep_k1 (w := nI 1) t134_11 rfl ?_
  refine ep_iln t134_12 rfl ?_
  refine ep_oneN (b := k) t134_13 (by have := xor_lt hc hk; have := pow_le_256 h3; omega) ?_
  refine ep_xorN (a := c) (b := 2 ^ k) t134_14 ?_
  refine ep_aldN t134_15 rfl (Nat.le_of_ble_eq_true rfl) (Nat.ne_of_beq_eq_false rfl) (Nat.le_of_ble_eq_true rfl) (by have := xor_lt hc hk; have := pow_le_256 h3; omega) ?_
  refine ep_val (b := nI (liveM T (c ^^^ 2 ^ k))) ((hN.2.2 _ (xor_lt hc hk)).1) ?_
  refine ep_isn (L' := [some (.ref 0), some (.int (nI k)), some (.int (nI (liveM T (c ^^^ 2 ^ k)))), none]) t134_16 rfl (Nat.le_of_ble_eq_true rfl) ?_
  refine ep_k1 (w := nI 0) t134_17 rfl ?_
  refine ep_isn (L' := [some (.ref 0), some (.int (nI k)), some (.int (nI (liveM T (c ^^^ 2 ^ k)))), some (.int (nI 0))]) t134_18 rfl (Nat.le_of_ble_eq_true rfl) ?_
  exact L_ex_7 hN h0 h3 hc e4 hn e14 hs (fun h => ⟨false, rfl, rfl, by simp [h]⟩) (fun h => ⟨true, rfl, rfl, by simp [h]⟩) n 0 (by omega) (fun j hj => absurd hj (Nat.not_lt_zero j))

theorem L_un_7 {X : gX} {P : Option Value → gS → Prop} {σ : gT1} {T : Nat → Nat} {c n : Nat} {su sb : Nat → Nat} (hN : NetC σ 7 T) (h0 : T 0 ≤ 6) (h3 : T 3 ≤ 8) (hc : c < 2 ^ T 3) (e4 : σ 0 4 = nI c) (hn : n ≤ 6) (e14 : σ 0 14 = nI n) (hs : ∀ j, j < n → (su j < T 0 ∧ sb j < 2) ∧ σ 29 j = nI (2 * su j + sb j)) (K : P (some (.int (nI (unsM T c n su sb)))) (47, g_rho false, σ)) : ∀ (d k : Nat), k + d = T 3 → EvP X 135 4 [some (.ref 0), some (.int (nI (mk k (expl T c n su sb)))), some (.int (nI k))] [] (47, g_rho false, σ) P
  | 0, k, hk => by
    obtain rfl : k = T 3 := by omega
    refine ep_iln t135_4 rfl ?_
    refine ep_aln t135_5 rfl ?_
    refine ep_getr (q := 7) t135_6 rfl (Nat.le_of_ble_eq_true rfl) rfl (rfl) ?_
    refine ep_get t135_9 rfl (Nat.le_of_ble_eq_true rfl) rfl ?_
    refine ep_val (b := nI (T 3)) (hN.1 3 (by decide)) ?_
    refine ep_ifP t135_12 (ic_ge (by omega) (by omega)) (fun (c12 : (T 3) ≤ (T 3)) => ?_) (fun (c12 : ¬ ((T 3) ≤ (T 3))) => (by exact absurd (Nat.le_refl _) c12))
    refine ep_iln t135_35 rfl ?_
    refine ep_ri t135_36 (fun h => absurd h (by decide)) ?_
    exact K
  | d + 1, k, hk => by
    have hk3 : k < T 3 := by omega
    refine ep_iln t135_4 rfl ?_
    refine ep_aln t135_5 rfl ?_
    refine ep_getr (q := 7) t135_6 rfl (Nat.le_of_ble_eq_true rfl) rfl (rfl) ?_
    refine ep_get t135_9 rfl (Nat.le_of_ble_eq_true rfl) rfl ?_
    refine ep_val (b := nI (T 3)) (hN.1 3 (by decide)) ?_
    refine ep_ifP t135_12 (ic_ge (by omega) (by omega)) (fun (c12 : (T 3) ≤ k) => (by omega)) (fun (c12 : ¬ ((T 3) ≤ k)) => ?_)
    refine ep_aln t135_15 rfl ?_
    refine ep_iln t135_16 rfl ?_
    obtain ⟨v9, g9, hb9, b9, rfl, rfl, hb⟩ := cl_B_expl_7 (X := X) (k := k) hN h0 h3 hc e4 hn e14 hs hk3
    refine ep_cv t135_17 rfl rfl (Nat.le_of_ble_eq_true rfl) (Nat.le_of_ble_eq_true rfl) (hb9) ?_
    refine ep_bF t135_20 (fun (c20 : b9 = false) => ?_) (fun (c20 : b9 = true) => ?_)
    · refine ep_inc (b := nI (k + 1)) (L' := [some (.ref 0), some (.int (nI (mk k (expl T c n su sb)))), some (.int (nI (k + 1)))]) t135_29 rfl (nI_add k 1) rfl (Nat.le_of_ble_eq_true rfl) ?_
      refine ep_gt t135_32 ?_
      rw [mk_no (fun g => by rw [hb.mpr g] at c20; exact absurd c20 (by decide))]
      exact L_un_7 hN h0 h3 hc e4 hn e14 hs K d (k + 1) (by omega)
    · refine ep_iln t135_23 rfl ?_
      refine ep_k1 (w := nI 1) t135_24 rfl ?_
      refine ep_iln t135_25 rfl ?_
      refine ep_oneN (b := k) t135_26 (by omega) ?_
      refine ep_orN (a := mk k (expl T c n su sb)) (b := 2 ^ k) t135_27 ?_
      refine ep_isn (L' := [some (.ref 0), some (.int (nI ((mk k (expl T c n su sb)) ||| (2 ^ k)))), some (.int (nI k))]) t135_28 rfl (Nat.le_of_ble_eq_true rfl) ?_
      refine ep_inc (b := nI (k + 1)) (L' := [some (.ref 0), some (.int (nI ((mk k (expl T c n su sb)) ||| (2 ^ k)))), some (.int (nI (k + 1)))]) t135_29 rfl (nI_add k 1) rfl (Nat.le_of_ble_eq_true rfl) ?_
      refine ep_gt t135_32 ?_
      rw [mk_yes (hb.mp c20)]
      exact L_un_7 hN h0 h3 hc e4 hn e14 hs K d (k + 1) (by omega)
theorem cl_B_unseen_7 {X : gX} {σ : gT1} {T : Nat → Nat} {c n : Nat} {su sb : Nat → Nat} (hN : NetC σ 7 T) (h0 : T 0 ≤ 6) (h3 : T 3 ≤ 8) (hc : c < 2 ^ T 3) (e4 : σ 0 4 = nI c) (hn : n ≤ 6) (e14 : σ 0 14 = nI n) (hs : ∀ j, j < n → (su j < T 0 ∧ sb j < 2) ∧ σ 29 j = nI (2 * su j + sb j))  : Cl X 135 [.ref 0] (47, g_rho false, σ) (some (.int (nI (unsM T c n su sb)))) (47, g_rho false, σ) := by
  refine Cl.of ⟨Nat.le_of_ble_eq_true rfl, rfl⟩ ?_
  show EvP X 135 0 [some (.ref 0), none, none] [] (47, g_rho false, σ) _
  refine ep_k1 (w := nI 0) t135_0 rfl ?_
  refine ep_isn (L' := [some (.ref 0), some (.int (nI 0)), none]) t135_1 rfl (Nat.le_of_ble_eq_true rfl) ?_
  refine ep_k1 (w := nI 0) t135_2 rfl ?_
  refine ep_isn (L' := [some (.ref 0), some (.int (nI 0)), some (.int (nI 0))]) t135_3 rfl (Nat.le_of_ble_eq_true rfl) ?_
  exact L_un_7 hN h0 h3 hc e4 hn e14 hs ⟨rfl, rfl⟩ (T 3) 0 (by omega)

theorem L_ex_16 {X : gX} {k : Nat} {P : Option Value → gS → Prop} {σ : gT1} {T : Nat → Nat} {c n : Nat} {su sb : Nat → Nat} (hN : NetC σ 16 T) (h0 : T 0 ≤ 6) (h3 : T 3 ≤ 8) (hc : c < 2 ^ T 3) (e4 : σ 0 4 = nI c) (hn : n ≤ 6) (e14 : σ 0 14 = nI n) (hs : ∀ j, j < n → (su j < T 0 ∧ sb j < 2) ∧ σ 29 j = nI (2 * su j + sb j)) (K0 : ¬ expl T c n su sb k → P (some (.int (nI 0))) (47, g_rho true, σ)) (K1 : expl T c n su sb k → P (some (.int (nI 1))) (47, g_rho true, σ)) : ∀ (d i : Nat), i + d = n → (∀ j, j < i → ((liveM T (c ^^^ 2 ^ k)).testBit (su j)).toNat = sb j) → EvP X 134 19 [some (.ref 0), some (.int (nI k)), some (.int (nI (liveM T (c ^^^ 2 ^ k)))), some (.int (nI i))] [] (47, g_rho true, σ) P
  | 0, i, hk, h2 => by
    obtain rfl : n = i := by omega
    refine ep_iln t134_19 rfl ?_
    refine ep_aln t134_20 rfl ?_
    refine ep_get t134_21 rfl (Nat.le_of_ble_eq_true rfl) rfl ?_
    refine ep_val (b := nI n) (e14) ?_
    refine ep_ifP t134_24 (ic_ge (by have := live_lt h0 (c ^^^ 2 ^ k); omega) (by have := live_lt h0 (c ^^^ 2 ^ k); omega)) (fun (c24 : n ≤ n) => ?_) (fun (c24 : ¬ (n ≤ n)) => (by exact absurd (Nat.le_refl _) c24))
    refine ep_k1 (w := nI 1) t134_58 rfl ?_
    refine ep_ri t134_59 (fun _ => rfl) ?_
    exact K1 h2
  | d + 1, i, hk, h2 => by
    have hi : i < n := by omega
    refine ep_iln t134_19 rfl ?_
    refine ep_aln t134_20 rfl ?_
    refine ep_get t134_21 rfl (Nat.le_of_ble_eq_true rfl) rfl ?_
    refine ep_val (b := nI n) (e14) ?_
    refine ep_ifP t134_24 (ic_ge (by have := live_lt h0 (c ^^^ 2 ^ k); have := (hs i hi).1; have := Bool.toNat_lt ((liveM T (c ^^^ 2 ^ k)).testBit (su i)); omega) (by have := live_lt h0 (c ^^^ 2 ^ k); have := (hs i hi).1; have := Bool.toNat_lt ((liveM T (c ^^^ 2 ^ k)).testBit (su i)); omega)) (fun (c24 : n ≤ i) => (by omega)) (fun (c24 : ¬ (n ≤ i)) => ?_)
    refine ep_iln t134_27 rfl ?_
    refine ep_aln t134_28 rfl ?_
    refine ep_getr (q := 29) t134_29 rfl (Nat.le_of_ble_eq_true rfl) rfl (rfl) ?_
    refine ep_iln t134_32 rfl ?_
    refine ep_aldN t134_33 rfl (Nat.le_of_ble_eq_true rfl) (Nat.ne_of_beq_eq_false rfl) (Nat.le_of_ble_eq_true rfl) (by have := live_lt h0 (c ^^^ 2 ^ k); have := (hs i hi).1; have := Bool.toNat_lt ((liveM T (c ^^^ 2 ^ k)).testBit (su i)); omega) ?_
    refine ep_val (b := nI (2 * su i + sb i)) ((hs i hi).2) ?_
    refine ep_k1 (w := nI 2) t134_34 rfl ?_
    refine ep_divN (a := 2 * su i + sb i) (b := 2) t134_35 (by have := live_lt h0 (c ^^^ 2 ^ k); have := (hs i hi).1; have := Bool.toNat_lt ((liveM T (c ^^^ 2 ^ k)).testBit (su i)); omega) (by have := live_lt h0 (c ^^^ 2 ^ k); have := (hs i hi).1; have := Bool.toNat_lt ((liveM T (c ^^^ 2 ^ k)).testBit (su i)); omega) (by have := live_lt h0 (c ^^^ 2 ^ k); have := (hs i hi).1; have := Bool.toNat_lt ((liveM T (c ^^^ 2 ^ k)).testBit (su i)); omega) ?_
    refine ep_val (b := nI (su i)) (congrArg nI (by have := (hs i hi).1; omega)) ?_
    refine ep_cs t134_36 (Nat.ne_of_beq_eq_false rfl) rfl (Nat.le_of_ble_eq_true rfl) (cl_B_bit (by have := live_lt h0 (c ^^^ 2 ^ k); have := (hs i hi).1; have := Bool.toNat_lt ((liveM T (c ^^^ 2 ^ k)).testBit (su i)); omega) (by have := live_lt h0 (c ^^^ 2 ^ k); have := (hs i hi).1; have := Bool.toNat_lt ((liveM T (c ^^^ 2 ^ k)).testBit (su i)); omega)) ?_
    refine ep_val (b := nI ((Nat.testBit (liveM T (c ^^^ 2 ^ k)) (su i)).toNat)) (bI_toNat _) ?_
    refine ep_aln t134_39 rfl ?_
    refine ep_getr (q := 29) t134_40 rfl (Nat.le_of_ble_eq_true rfl) rfl (rfl) ?_
    refine ep_iln t134_43 rfl ?_
    refine ep_aldN t134_44 rfl (Nat.le_of_ble_eq_true rfl) (Nat.ne_of_beq_eq_false rfl) (Nat.le_of_ble_eq_true rfl) (by have := live_lt h0 (c ^^^ 2 ^ k); have := (hs i hi).1; have := Bool.toNat_lt ((liveM T (c ^^^ 2 ^ k)).testBit (su i)); omega) ?_
    refine ep_val (b := nI (2 * su i + sb i)) ((hs i hi).2) ?_
    refine ep_k1 (w := nI 2) t134_45 rfl ?_
    refine ep_remN (a := 2 * su i + sb i) (b := 2) t134_46 (by have := live_lt h0 (c ^^^ 2 ^ k); have := (hs i hi).1; have := Bool.toNat_lt ((liveM T (c ^^^ 2 ^ k)).testBit (su i)); omega) (by have := live_lt h0 (c ^^^ 2 ^ k); have := (hs i hi).1; have := Bool.toNat_lt ((liveM T (c ^^^ 2 ^ k)).testBit (su i)); omega) (by have := live_lt h0 (c ^^^ 2 ^ k); have := (hs i hi).1; have := Bool.toNat_lt ((liveM T (c ^^^ 2 ^ k)).testBit (su i)); omega) ?_
    refine ep_val (b := nI (sb i)) (congrArg nI (by have := (hs i hi).1; omega)) ?_
    refine ep_ifP t134_47 (ic_eq (by have := live_lt h0 (c ^^^ 2 ^ k); have := (hs i hi).1; have := Bool.toNat_lt ((liveM T (c ^^^ 2 ^ k)).testBit (su i)); omega) (by have := live_lt h0 (c ^^^ 2 ^ k); have := (hs i hi).1; have := Bool.toNat_lt ((liveM T (c ^^^ 2 ^ k)).testBit (su i)); omega)) (fun (c47 : ((Nat.testBit (liveM T (c ^^^ 2 ^ k)) (su i)).toNat) = (sb i)) => ?_) (fun (c47 : ¬ (((Nat.testBit (liveM T (c ^^^ 2 ^ k)) (su i)).toNat) = (sb i))) => ?_)
    · refine ep_inc (b := nI (i + 1)) (L' := [some (.ref 0), some (.int (nI k)), some (.int (nI (liveM T (c ^^^ 2 ^ k)))), some (.int (nI (i + 1)))]) t134_52 rfl (nI_add i 1) rfl (Nat.le_of_ble_eq_true rfl) ?_
      refine ep_gt t134_55 ?_
      refine L_ex_16 hN h0 h3 hc e4 hn e14 hs K0 K1 d (i + 1) (by omega) (fun j hj => ?_)
      by_cases e : j = i
      · subst e; exact c47
      · exact h2 j (by omega)
    · refine ep_k1 (w := nI 0) t134_50 rfl ?_
      refine ep_ri t134_51 (fun _ => rfl) ?_
      exact K0 (fun h => c47 (h i hi))
theorem cl_B_expl_16 {X : gX} {k : Nat} {σ : gT1} {T : Nat → Nat} {c n : Nat} {su sb : Nat → Nat} (hN : NetC σ 16 T) (h0 : T 0 ≤ 6) (h3 : T 3 ≤ 8) (hc : c < 2 ^ T 3) (e4 : σ 0 4 = nI c) (hn : n ≤ 6) (e14 : σ 0 14 = nI n) (hs : ∀ j, j < n → (su j < T 0 ∧ sb j < 2) ∧ σ 29 j = nI (2 * su j + sb j)) (hk : k < T 3) : ClP X 134 [.ref 0, .int (nI k)] (47, g_rho true, σ) (fun v g1 => ∃ b : Bool, v = some (.int (bI b)) ∧ g1 = (47, g_rho true, σ) ∧ (b = true ↔ expl T c n su sb k)) := by
  refine ClP.of ⟨Nat.le_of_ble_eq_true rfl, rfl⟩ ?_
  show EvP X 134 0 [some (.ref 0), some (.int (nI k)), none, none] [] (47, g_rho true, σ) _
  refine ep_aln t134_0 rfl ?_
  refine ep_getr (q := 16) t134_1 rfl (Nat.le_of_ble_eq_true rfl) rfl (rfl) ?_
  refine ep_getr (q := 21) t134_4 rfl (Nat.le_of_ble_eq_true rfl) rfl (rfl) ?_
  refine ep_aln t134_7 rfl ?_
  refine ep_get t134_8 rfl (Nat.le_of_ble_eq_true rfl) rfl ?_
  refine ep_val (b := nI c) (e4) ?_
  refine ep_k1 (w := nI 1) t134_11 rfl ?_
  refine ep_iln t134_12 rfl ?_
  refine ep_oneN (b := k) t134_13 (by have := xor_lt hc hk; have := pow_le_256 h3; omega) ?_
  refine ep_xorN (a := c) (b := 2 ^ k) t134_14 ?_
  refine ep_aldN t134_15 rfl (Nat.le_of_ble_eq_true rfl) (Nat.ne_of_beq_eq_false rfl) (Nat.le_of_ble_eq_true rfl) (by have := xor_lt hc hk; have := pow_le_256 h3; omega) ?_
  refine ep_val (b := nI (liveM T (c ^^^ 2 ^ k))) ((hN.2.2 _ (xor_lt hc hk)).1) ?_
  refine ep_isn (L' := [some (.ref 0), some (.int (nI k)), some (.int (nI (liveM T (c ^^^ 2 ^ k)))), none]) t134_16 rfl (Nat.le_of_ble_eq_true rfl) ?_
  refine ep_k1 (w := nI 0) t134_17 rfl ?_
  refine ep_isn (L' := [some (.ref 0), some (.int (nI k)), some (.int (nI (liveM T (c ^^^ 2 ^ k)))), some (.int (nI 0))]) t134_18 rfl (Nat.le_of_ble_eq_true rfl) ?_
  exact L_ex_16 hN h0 h3 hc e4 hn e14 hs (fun h => ⟨false, rfl, rfl, by simp [h]⟩) (fun h => ⟨true, rfl, rfl, by simp [h]⟩) n 0 (by omega) (fun j hj => absurd hj (Nat.not_lt_zero j))

theorem L_un_16 {X : gX} {P : Option Value → gS → Prop} {σ : gT1} {T : Nat → Nat} {c n : Nat} {su sb : Nat → Nat} (hN : NetC σ 16 T) (h0 : T 0 ≤ 6) (h3 : T 3 ≤ 8) (hc : c < 2 ^ T 3) (e4 : σ 0 4 = nI c) (hn : n ≤ 6) (e14 : σ 0 14 = nI n) (hs : ∀ j, j < n → (su j < T 0 ∧ sb j < 2) ∧ σ 29 j = nI (2 * su j + sb j)) (K : P (some (.int (nI (unsM T c n su sb)))) (47, g_rho true, σ)) : ∀ (d k : Nat), k + d = T 3 → EvP X 135 4 [some (.ref 0), some (.int (nI (mk k (expl T c n su sb)))), some (.int (nI k))] [] (47, g_rho true, σ) P
  | 0, k, hk => by
    obtain rfl : k = T 3 := by omega
    refine ep_iln t135_4 rfl ?_
    refine ep_aln t135_5 rfl ?_
    refine ep_getr (q := 16) t135_6 rfl (Nat.le_of_ble_eq_true rfl) rfl (rfl) ?_
    refine ep_get t135_9 rfl (Nat.le_of_ble_eq_true rfl) rfl ?_
    refine ep_val (b := nI (T 3)) (hN.1 3 (by decide)) ?_
    refine ep_ifP t135_12 (ic_ge (by omega) (by omega)) (fun (c12 : (T 3) ≤ (T 3)) => ?_) (fun (c12 : ¬ ((T 3) ≤ (T 3))) => (by exact absurd (Nat.le_refl _) c12))
    refine ep_iln t135_35 rfl ?_
    refine ep_ri t135_36 (fun h => absurd h (by decide)) ?_
    exact K
  | d + 1, k, hk => by
    have hk3 : k < T 3 := by omega
    refine ep_iln t135_4 rfl ?_
    refine ep_aln t135_5 rfl ?_
    refine ep_getr (q := 16) t135_6 rfl (Nat.le_of_ble_eq_true rfl) rfl (rfl) ?_
    refine ep_get t135_9 rfl (Nat.le_of_ble_eq_true rfl) rfl ?_
    refine ep_val (b := nI (T 3)) (hN.1 3 (by decide)) ?_
    refine ep_ifP t135_12 (ic_ge (by omega) (by omega)) (fun (c12 : (T 3) ≤ k) => (by omega)) (fun (c12 : ¬ ((T 3) ≤ k)) => ?_)
    refine ep_aln t135_15 rfl ?_
    refine ep_iln t135_16 rfl ?_
    obtain ⟨v9, g9, hb9, b9, rfl, rfl, hb⟩ := cl_B_expl_16 (X := X) (k := k) hN h0 h3 hc e4 hn e14 hs hk3
    refine ep_cv t135_17 rfl rfl (Nat.le_of_ble_eq_true rfl) (Nat.le_of_ble_eq_true rfl) (hb9) ?_
    refine ep_bF t135_20 (fun (c20 : b9 = false) => ?_) (fun (c20 : b9 = true) => ?_)
    · refine ep_inc (b := nI (k + 1)) (L' := [some (.ref 0), some (.int (nI (mk k (expl T c n su sb)))), some (.int (nI (k + 1)))]) t135_29 rfl (nI_add k 1) rfl (Nat.le_of_ble_eq_true rfl) ?_
      refine ep_gt t135_32 ?_
      rw [mk_no (fun g => by rw [hb.mpr g] at c20; exact absurd c20 (by decide))]
      exact L_un_16 hN h0 h3 hc e4 hn e14 hs K d (k + 1) (by omega)
    · refine ep_iln t135_23 rfl ?_
      refine ep_k1 (w := nI 1) t135_24 rfl ?_
      refine ep_iln t135_25 rfl ?_
      refine ep_oneN (b := k) t135_26 (by omega) ?_
      refine ep_orN (a := mk k (expl T c n su sb)) (b := 2 ^ k) t135_27 ?_
      refine ep_isn (L' := [some (.ref 0), some (.int (nI ((mk k (expl T c n su sb)) ||| (2 ^ k)))), some (.int (nI k))]) t135_28 rfl (Nat.le_of_ble_eq_true rfl) ?_
      refine ep_inc (b := nI (k + 1)) (L' := [some (.ref 0), some (.int (nI ((mk k (expl T c n su sb)) ||| (2 ^ k)))), some (.int (nI (k + 1)))]) t135_29 rfl (nI_add k 1) rfl (Nat.le_of_ble_eq_true rfl) ?_
      refine ep_gt t135_32 ?_
      rw [mk_yes (hb.mp c20)]
      exact L_un_16 hN h0 h3 hc e4 hn e14 hs K d (k + 1) (by omega)
theorem cl_B_unseen_16 {X : gX} {σ : gT1} {T : Nat → Nat} {c n : Nat} {su sb : Nat → Nat} (hN : NetC σ 16 T) (h0 : T 0 ≤ 6) (h3 : T 3 ≤ 8) (hc : c < 2 ^ T 3) (e4 : σ 0 4 = nI c) (hn : n ≤ 6) (e14 : σ 0 14 = nI n) (hs : ∀ j, j < n → (su j < T 0 ∧ sb j < 2) ∧ σ 29 j = nI (2 * su j + sb j))  : Cl X 135 [.ref 0] (47, g_rho true, σ) (some (.int (nI (unsM T c n su sb)))) (47, g_rho true, σ) := by
  refine Cl.of ⟨Nat.le_of_ble_eq_true rfl, rfl⟩ ?_
  show EvP X 135 0 [some (.ref 0), none, none] [] (47, g_rho true, σ) _
  refine ep_k1 (w := nI 0) t135_0 rfl ?_
  refine ep_isn (L' := [some (.ref 0), some (.int (nI 0)), none]) t135_1 rfl (Nat.le_of_ble_eq_true rfl) ?_
  refine ep_k1 (w := nI 0) t135_2 rfl ?_
  refine ep_isn (L' := [some (.ref 0), some (.int (nI 0)), some (.int (nI 0))]) t135_3 rfl (Nat.le_of_ble_eq_true rfl) ?_
  exact L_un_16 hN h0 h3 hc e4 hn e14 hs ⟨rfl, rfl⟩ (T 3) 0 (by omega)

theorem cl_B_unseen {X : gX} {q : Bool} {σ : gT1} {T : Nat → Nat} {c n : Nat} {su sb : Nat → Nat} (hN : NetC σ (np q) T) (h0 : T 0 ≤ 6) (h3 : T 3 ≤ 8) (hc : c < 2 ^ T 3) (e4 : σ 0 4 = nI c) (hn : n ≤ 6) (e14 : σ 0 14 = nI n) (hs : ∀ j, j < n → (su j < T 0 ∧ sb j < 2) ∧ σ 29 j = nI (2 * su j + sb j)) : Cl X 135 [.ref 0] (47, g_rho q, σ) (some (.int (nI (unsM T c n su sb)))) (47, g_rho q, σ) := by
  cases q
  · exact cl_B_unseen_7 hN h0 h3 hc e4 hn e14 hs
  · exact cl_B_unseen_16 hN h0 h3 hc e4 hn e14 hs
theorem L_us2 {X : gX} {σ' : gT1} {k : Nat} {P : Option Value → gS → Prop} {q : Bool} {σ : gT1} {T : Nat → Nat} {c n : Nat} {su sb : Nat → Nat} (hT : ToldM (σ 33) T) (hw : WF0 T) (h31 : T 1 < 2147483648) (hc : c < 2 ^ T 3) (e36 : σ 36 0 = nI c) (hn : n ≤ 6) (e20 : σ 31 20 = nI n) (hs : ∀ j, j < n → (su j < T 0 ∧ sb j < 2) ∧ σ 41 j = nI (su j) ∧ σ 42 j = nI (sb j)) (h1 : ∀ p, p ≠ 43 → σ' p = σ p) (K : ∀ b : Bool, (b = true ↔ expl T c n su sb k) → EvP X 136 87 [some (.ref 31), some (.int (nI (mk k (expl T c n su sb)))), some (.int (nI k)), some (.int (nI (liveM T (c ^^^ 2 ^ k)))), some (.int (bI b)), some (.int (nI n))] [] (47, g_rho q, σ') P) : ∀ (d i : Nat) (b : Bool), i + d = n → (b = true ↔ ∀ j, j < i → ((liveM T (c ^^^ 2 ^ k)).testBit (su j)).toNat = sb j) → EvP X 136 39 [some (.ref 31), some (.int (nI (mk k (expl T c n su sb)))), some (.int (nI k)), some (.int (nI (liveM T (c ^^^ 2 ^ k)))), some (.int (bI b)), some (.int (nI i))] [] (47, g_rho q, σ') P
  | 0, i, b, hk, h2 => by
    obtain rfl : n = i := by omega
    refine ep_il t136_39 rfl ?_
    refine ep_aln t136_41 rfl ?_
    refine ep_get t136_42 rfl (Nat.le_of_ble_eq_true rfl) rfl ?_
    refine ep_val (b := nI n) ((congrFun (h1 31 (by decide)) 20).trans e20) ?_
    refine ep_ifP t136_45 (ic_ge (by omega) (by omega)) (fun (c45 : n ≤ n) => ?_) (fun (c45 : ¬ (n ≤ n)) => (by exact absurd (Nat.le_refl _) c45))
    exact K b h2
  | d + 1, i, b, hk, h2 => by
    have hi : i < n := by omega
    refine ep_il t136_39 rfl ?_
    refine ep_aln t136_41 rfl ?_
    refine ep_get t136_42 rfl (Nat.le_of_ble_eq_true rfl) rfl ?_
    refine ep_val (b := nI n) ((congrFun (h1 31 (by decide)) 20).trans e20) ?_
    refine ep_ifP t136_45 (ic_ge (by have := live_lt hw.1 (c ^^^ 2 ^ k); have := hw.1; have := (hs i hi).1; have := Bool.toNat_lt ((liveM T (c ^^^ 2 ^ k)).testBit (su i)); omega) (by have := live_lt hw.1 (c ^^^ 2 ^ k); have := hw.1; have := (hs i hi).1; have := Bool.toNat_lt ((liveM T (c ^^^ 2 ^ k)).testBit (su i)); omega)) (fun (c45 : n ≤ i) => (by omega)) (fun (c45 : ¬ (n ≤ i)) => ?_)
    refine ep_il t136_48 rfl ?_
    refine ep_bF t136_50 (fun (c50 : b = false) => ?_) (fun (c50 : b = true) => ?_)
    · refine ep_k1 (w := nI 0) t136_78 rfl ?_
      refine ep_is (L' := [some (.ref 31), some (.int (nI (mk k (expl T c n su sb)))), some (.int (nI k)), some (.int (nI (liveM T (c ^^^ 2 ^ k)))), some (.int (nI 0)), some (.int (nI i))]) t136_79 rfl (Nat.le_of_ble_eq_true rfl) ?_
      refine ep_lv (L' := [some (.ref 31), some (.int (nI (mk k (expl T c n su sb)))), some (.int (nI k)), some (.int (nI (liveM T (c ^^^ 2 ^ k)))), some (.int (bI false)), some (.int (nI i))]) rfl ?_
      refine ep_inc (b := nI (i + 1)) (L' := [some (.ref 31), some (.int (nI (mk k (expl T c n su sb)))), some (.int (nI k)), some (.int (nI (liveM T (c ^^^ 2 ^ k)))), some (.int (bI false)), some (.int (nI (i + 1)))]) t136_81 rfl (nI_add i 1) rfl (Nat.le_of_ble_eq_true rfl) ?_
      refine ep_gt t136_84 ?_
      refine L_us2 hT hw h31 hc e36 hn e20 hs h1 K d (i + 1) false (by omega) ?_
      refine ⟨fun g => absurd g (by decide), fun g => ?_⟩
      first
      | exact absurd (g i (by omega)) c71
      | (have := h2.mpr (fun j hj => g j (by omega)); rw [c50] at this; exact absurd this (by decide))
    · refine ep_iln t136_53 rfl ?_
      refine ep_aln t136_54 rfl ?_
      refine ep_getr (q := 41) t136_55 rfl (Nat.le_of_ble_eq_true rfl) rfl (rfl) ?_
      refine ep_il t136_58 rfl ?_
      refine ep_aldN t136_60 rfl (Nat.le_of_ble_eq_true rfl) (Nat.ne_of_beq_eq_false rfl) (Nat.le_of_ble_eq_true rfl) (by have := live_lt hw.1 (c ^^^ 2 ^ k); have := hw.1; have := (hs i hi).1; have := Bool.toNat_lt ((liveM T (c ^^^ 2 ^ k)).testBit (su i)); omega) ?_
      refine ep_val (b := nI (su i)) ((congrFun (h1 41 (by decide)) i).trans (hs i hi).2.1) ?_
      refine ep_shrN (a := liveM T (c ^^^ 2 ^ k)) (b := su i) t136_61 (by have := live_lt hw.1 (c ^^^ 2 ^ k); have := hw.1; have := (hs i hi).1; have := Bool.toNat_lt ((liveM T (c ^^^ 2 ^ k)).testBit (su i)); omega) (by have := live_lt hw.1 (c ^^^ 2 ^ k); have := hw.1; have := (hs i hi).1; have := Bool.toNat_lt ((liveM T (c ^^^ 2 ^ k)).testBit (su i)); omega) ?_
      refine ep_k1 (w := nI 1) t136_62 rfl ?_
      refine ep_andN (a := (liveM T (c ^^^ 2 ^ k)) / 2 ^ (su i)) (b := 1) t136_63 ?_
      refine ep_val (b := nI ((Nat.testBit (liveM T (c ^^^ 2 ^ k)) (su i)).toNat)) (congrArg nI (by rw [Nat.and_one_is_mod, bitN])) ?_
      refine ep_aln t136_64 rfl ?_
      refine ep_getr (q := 42) t136_65 rfl (Nat.le_of_ble_eq_true rfl) rfl (rfl) ?_
      refine ep_il t136_68 rfl ?_
      refine ep_aldN t136_70 rfl (Nat.le_of_ble_eq_true rfl) (Nat.ne_of_beq_eq_false rfl) (Nat.le_of_ble_eq_true rfl) (by have := live_lt hw.1 (c ^^^ 2 ^ k); have := hw.1; have := (hs i hi).1; have := Bool.toNat_lt ((liveM T (c ^^^ 2 ^ k)).testBit (su i)); omega) ?_
      refine ep_val (b := nI (sb i)) ((congrFun (h1 42 (by decide)) i).trans (hs i hi).2.2) ?_
      refine ep_ifP t136_71 (ic_ne (by have := live_lt hw.1 (c ^^^ 2 ^ k); have := hw.1; have := (hs i hi).1; have := Bool.toNat_lt ((liveM T (c ^^^ 2 ^ k)).testBit (su i)); omega) (by have := live_lt hw.1 (c ^^^ 2 ^ k); have := hw.1; have := (hs i hi).1; have := Bool.toNat_lt ((liveM T (c ^^^ 2 ^ k)).testBit (su i)); omega)) (fun (c71 : ¬ ((Nat.testBit (liveM T (c ^^^ 2 ^ k)) (su i)).toNat) = (sb i)) => ?_) (fun (c71 : ¬ (¬ ((Nat.testBit (liveM T (c ^^^ 2 ^ k)) (su i)).toNat) = (sb i))) => ?_)
      · refine ep_k1 (w := nI 0) t136_78 rfl ?_
        refine ep_is (L' := [some (.ref 31), some (.int (nI (mk k (expl T c n su sb)))), some (.int (nI k)), some (.int (nI (liveM T (c ^^^ 2 ^ k)))), some (.int (nI 0)), some (.int (nI i))]) t136_79 rfl (Nat.le_of_ble_eq_true rfl) ?_
        refine ep_lv (L' := [some (.ref 31), some (.int (nI (mk k (expl T c n su sb)))), some (.int (nI k)), some (.int (nI (liveM T (c ^^^ 2 ^ k)))), some (.int (bI false)), some (.int (nI i))]) rfl ?_
        refine ep_inc (b := nI (i + 1)) (L' := [some (.ref 31), some (.int (nI (mk k (expl T c n su sb)))), some (.int (nI k)), some (.int (nI (liveM T (c ^^^ 2 ^ k)))), some (.int (bI false)), some (.int (nI (i + 1)))]) t136_81 rfl (nI_add i 1) rfl (Nat.le_of_ble_eq_true rfl) ?_
        refine ep_gt t136_84 ?_
        refine L_us2 hT hw h31 hc e36 hn e20 hs h1 K d (i + 1) false (by omega) ?_
        refine ⟨fun g => absurd g (by decide), fun g => ?_⟩
        first
        | exact absurd (g i (by omega)) c71
        | (have := h2.mpr (fun j hj => g j (by omega)); rw [c50] at this; exact absurd this (by decide))
      · refine ep_k1 (w := nI 1) t136_74 rfl ?_
        refine ep_gt t136_75 ?_
        refine ep_is (L' := [some (.ref 31), some (.int (nI (mk k (expl T c n su sb)))), some (.int (nI k)), some (.int (nI (liveM T (c ^^^ 2 ^ k)))), some (.int (nI 1)), some (.int (nI i))]) t136_79 rfl (Nat.le_of_ble_eq_true rfl) ?_
        refine ep_lv (L' := [some (.ref 31), some (.int (nI (mk k (expl T c n su sb)))), some (.int (nI k)), some (.int (nI (liveM T (c ^^^ 2 ^ k)))), some (.int (bI true)), some (.int (nI i))]) rfl ?_
        refine ep_inc (b := nI (i + 1)) (L' := [some (.ref 31), some (.int (nI (mk k (expl T c n su sb)))), some (.int (nI k)), some (.int (nI (liveM T (c ^^^ 2 ^ k)))), some (.int (bI true)), some (.int (nI (i + 1)))]) t136_81 rfl (nI_add i 1) rfl (Nat.le_of_ble_eq_true rfl) ?_
        refine ep_gt t136_84 ?_
        refine L_us2 hT hw h31 hc e36 hn e20 hs h1 K d (i + 1) true (by omega) ?_
        refine ⟨fun _ j hj => ?_, fun _ => rfl⟩
        by_cases e : j = i
        · subst e; exact Classical.byContradiction c71
        · exact h2.mp c50 j (by omega)
theorem L_us1 {X : gX} {P : Option Value → gS → Prop} {q : Bool} {σ : gT1} {T : Nat → Nat} {c n : Nat} {su sb : Nat → Nat} (hT : ToldM (σ 33) T) (hw : WF0 T) (h31 : T 1 < 2147483648) (hc : c < 2 ^ T 3) (e36 : σ 36 0 = nI c) (hn : n ≤ 6) (e20 : σ 31 20 = nI n) (hs : ∀ j, j < n → (su j < T 0 ∧ sb j < 2) ∧ σ 41 j = nI (su j) ∧ σ 42 j = nI (sb j)) (K : ∀ σ' : gT1, (∀ p, p ≠ 43 → σ' p = σ p) → P (some (.int (nI (unsM T c n su sb)))) (47, g_rho q, σ')) : ∀ (d k : Nat) (σ' : gT1) (o3 o4 o5 : Option Value), k + d = T 3 → (∀ p, p ≠ 43 → σ' p = σ p) → EvP X 136 4 [some (.ref 31), some (.int (nI (mk k (expl T c n su sb)))), some (.int (nI k)), o3, o4, o5] [] (47, g_rho q, σ') P
  | 0, k, σ', o3, o4, o5, hk, h1 => by
    obtain rfl : k = T 3 := by omega
    refine ep_iln t136_4 rfl ?_
    refine ep_aln t136_5 rfl ?_
    refine ep_getr (q := 33) t136_6 rfl (Nat.le_of_ble_eq_true rfl) rfl (rfl) ?_
    refine ep_k1 (w := nI 3) t136_9 rfl ?_
    refine ep_aldN t136_10 rfl (Nat.le_of_ble_eq_true rfl) (Nat.ne_of_beq_eq_false rfl) (Nat.le_of_ble_eq_true rfl) (by have := hw.2.1; omega) ?_
    refine ep_val (b := nI (T 3)) ((congrFun (h1 33 (by decide)) 3).trans (hT.1 3 (by decide))) ?_
    refine ep_ifP t136_11 (ic_ge (by have := hw.2.1; omega) (by have := hw.2.1; omega)) (fun (c11 : (T 3) ≤ (T 3)) => ?_) (fun (c11 : ¬ ((T 3) ≤ (T 3))) => (by exact absurd (Nat.le_refl _) c11))
    refine ep_iln t136_108 rfl ?_
    refine ep_ri t136_109 (fun h => absurd h (by decide)) ?_
    exact K σ' h1
  | d + 1, k, σ', o3, o4, o5, hk, h1 => by
    have hk3 : k < T 3 := by omega
    refine ep_iln t136_4 rfl ?_
    refine ep_aln t136_5 rfl ?_
    refine ep_getr (q := 33) t136_6 rfl (Nat.le_of_ble_eq_true rfl) rfl (rfl) ?_
    refine ep_k1 (w := nI 3) t136_9 rfl ?_
    refine ep_aldN t136_10 rfl (Nat.le_of_ble_eq_true rfl) (Nat.ne_of_beq_eq_false rfl) (Nat.le_of_ble_eq_true rfl) (by have := hw.2.1; omega) ?_
    refine ep_val (b := nI (T 3)) ((congrFun (h1 33 (by decide)) 3).trans (hT.1 3 (by decide))) ?_
    refine ep_ifP t136_11 (ic_ge (by have := hw.2.1; omega) (by have := hw.2.1; omega)) (fun (c11 : (T 3) ≤ k) => (by omega)) (fun (c11 : ¬ ((T 3) ≤ k)) => ?_)
    refine ep_aln t136_14 rfl ?_
    refine ep_aln t136_15 rfl ?_
    refine ep_getr (q := 33) t136_16 rfl (Nat.le_of_ble_eq_true rfl) rfl (rfl) ?_
    refine ep_aln t136_19 rfl ?_
    refine ep_getr (q := 36) t136_20 rfl (Nat.le_of_ble_eq_true rfl) rfl (rfl) ?_
    refine ep_k1 (w := nI 0) t136_23 rfl ?_
    refine ep_aldN t136_24 rfl (Nat.le_of_ble_eq_true rfl) (Nat.ne_of_beq_eq_false rfl) (Nat.le_of_ble_eq_true rfl) (by have := hw.2.1; omega) ?_
    refine ep_val (b := nI c) ((congrFun (h1 36 (by decide)) 0).trans e36) ?_
    refine ep_k1 (w := nI 1) t136_25 rfl ?_
    refine ep_iln t136_26 rfl ?_
    refine ep_oneN (b := k) t136_27 (by have := hw.2.1; omega) ?_
    refine ep_xorN (a := c) (b := 2 ^ k) t136_28 ?_
    obtain ⟨v9, g9, hb9, σ2, lab, rfl, rfl, m1, -, -⟩ := cl_M_liveBy_33 (X := X) (q := q) (σ := σ') (T := T) (c := c ^^^ 2 ^ k) (by rw [h1 33 (by decide)]; exact hT) hw h31 (by have := xor_lt hc hk3; have := pow_le_256 hw.2.1; omega)
    refine ep_cv t136_29 rfl rfl (Nat.le_of_ble_eq_true rfl) (Nat.le_of_ble_eq_true rfl) (hb9) ?_
    refine ep_isn (L' := [some (.ref 31), some (.int (nI (mk k (expl T c n su sb)))), some (.int (nI k)), some (.int (nI (liveM T (c ^^^ 2 ^ k)))), o4, o5]) t136_32 rfl (Nat.le_of_ble_eq_true rfl) ?_
    refine ep_k1 (w := nI 1) t136_33 rfl ?_
    refine ep_is (L' := [some (.ref 31), some (.int (nI (mk k (expl T c n su sb)))), some (.int (nI k)), some (.int (nI (liveM T (c ^^^ 2 ^ k)))), some (.int (nI 1)), o5]) t136_34 rfl (Nat.le_of_ble_eq_true rfl) ?_
    refine ep_k1 (w := nI 0) t136_36 rfl ?_
    refine ep_is (L' := [some (.ref 31), some (.int (nI (mk k (expl T c n su sb)))), some (.int (nI k)), some (.int (nI (liveM T (c ^^^ 2 ^ k)))), some (.int (nI 1)), some (.int (nI 0))]) t136_37 rfl (Nat.le_of_ble_eq_true rfl) ?_
    refine L_us2 hT hw h31 hc e36 hn e20 hs (fun p hp => (m1 p hp).trans (h1 p hp)) (fun b hb => ?_) n 0 true (by omega) ⟨fun _ j hj => absurd hj (Nat.not_lt_zero j), fun _ => rfl⟩
    refine ep_iln t136_87 rfl ?_
    refine ep_il t136_88 rfl ?_
    refine ep_bF t136_90 (fun (c90 : b = false) => ?_) (fun (c90 : b = true) => ?_)
    · refine ep_k1 (w := nI 0) t136_99 rfl ?_
      refine ep_orN (a := mk k (expl T c n su sb)) (b := 0) t136_100 ?_
      refine ep_isn (L' := [some (.ref 31), some (.int (nI ((mk k (expl T c n su sb)) ||| 0))), some (.int (nI k)), some (.int (nI (liveM T (c ^^^ 2 ^ k)))), some (.int (bI b)), some (.int (nI n))]) t136_101 rfl (Nat.le_of_ble_eq_true rfl) ?_
      refine ep_inc (b := nI (k + 1)) (L' := [some (.ref 31), some (.int (nI ((mk k (expl T c n su sb)) ||| 0))), some (.int (nI (k + 1))), some (.int (nI (liveM T (c ^^^ 2 ^ k)))), some (.int (bI b)), some (.int (nI n))]) t136_102 rfl (nI_add k 1) rfl (Nat.le_of_ble_eq_true rfl) ?_
      refine ep_gt t136_105 ?_
      rw [Nat.or_zero, mk_no (fun g => by rw [hb.mpr g] at c90; exact absurd c90 (by decide))]
      exact L_us1 hT hw h31 hc e36 hn e20 hs K d (k + 1) σ2 _ _ _ (by omega) (fun p hp => (m1 p hp).trans (h1 p hp))
    · refine ep_k1 (w := nI 1) t136_93 rfl ?_
      refine ep_iln t136_94 rfl ?_
      refine ep_oneN (b := k) t136_95 (by have := hw.2.1; omega) ?_
      refine ep_gt t136_96 ?_
      refine ep_orN (a := mk k (expl T c n su sb)) (b := 2 ^ k) t136_100 ?_
      refine ep_isn (L' := [some (.ref 31), some (.int (nI ((mk k (expl T c n su sb)) ||| (2 ^ k)))), some (.int (nI k)), some (.int (nI (liveM T (c ^^^ 2 ^ k)))), some (.int (bI b)), some (.int (nI n))]) t136_101 rfl (Nat.le_of_ble_eq_true rfl) ?_
      refine ep_inc (b := nI (k + 1)) (L' := [some (.ref 31), some (.int (nI ((mk k (expl T c n su sb)) ||| (2 ^ k)))), some (.int (nI (k + 1))), some (.int (nI (liveM T (c ^^^ 2 ^ k)))), some (.int (bI b)), some (.int (nI n))]) t136_102 rfl (nI_add k 1) rfl (Nat.le_of_ble_eq_true rfl) ?_
      refine ep_gt t136_105 ?_
      rw [mk_yes (hb.mp c90)]
      exact L_us1 hT hw h31 hc e36 hn e20 hs K d (k + 1) σ2 _ _ _ (by omega) (fun p hp => (m1 p hp).trans (h1 p hp))
theorem cl_M_unseenSet {X : gX} {q : Bool} {σ : gT1} {T : Nat → Nat} {c n : Nat} {su sb : Nat → Nat} (hT : ToldM (σ 33) T) (hw : WF0 T) (h31 : T 1 < 2147483648) (hc : c < 2 ^ T 3) (e36 : σ 36 0 = nI c) (hn : n ≤ 6) (e20 : σ 31 20 = nI n) (hs : ∀ j, j < n → (su j < T 0 ∧ sb j < 2) ∧ σ 41 j = nI (su j) ∧ σ 42 j = nI (sb j))  : ClP X 136 [.ref 31] (47, g_rho q, σ) (fun v g1 => ∃ σ1, v = some (.int (nI (unsM T c n su sb))) ∧ g1 = (47, g_rho q, σ1) ∧ ∀ p, p ≠ 43 → σ1 p = σ p) := by
  refine ClP.of ⟨Nat.le_of_ble_eq_true rfl, rfl⟩ ?_
  show EvP X 136 0 [some (.ref 31), none, none, none, none, none] [] (47, g_rho q, σ) _
  refine ep_k1 (w := nI 0) t136_0 rfl ?_
  refine ep_isn (L' := [some (.ref 31), some (.int (nI 0)), none, none, none, none]) t136_1 rfl (Nat.le_of_ble_eq_true rfl) ?_
  refine ep_k1 (w := nI 0) t136_2 rfl ?_
  refine ep_isn (L' := [some (.ref 31), some (.int (nI 0)), some (.int (nI 0)), none, none, none]) t136_3 rfl (Nat.le_of_ble_eq_true rfl) ?_
  exact L_us1 hT hw h31 hc e36 hn e20 hs (fun σ1 h1 => ⟨σ1, rfl, rfl, h1⟩) (T 3) 0 σ _ _ _ (by omega) (fun _ _ => rfl)

theorem pr_unseen {X : gX} {q : Bool} {σ : gT1} (hR : Rel q σ) : Pair X 135 137 [] q σ := by
  have hR0 := hR
  obtain ⟨T, c, l, pr, hN, hW, hT, hO, hU, hI, hS⟩ := hR
  obtain ⟨⟨hwf0, hwf1⟩, ⟨hwf2, hwf3⟩, hwf4, hwf5, hwf6⟩ := hN.1
  have hB3 : σ (np q) 3 = nI (T 3) := hN.2.1.1 3 (by decide)
  have hB0 : σ (np q) 0 = nI (T 0) := hN.2.1.1 0 (by decide)
  have hM3 : σ 33 3 = nI (T 3) := hN.2.2.1 3 (by decide)
  have hM0 : σ 33 0 = nI (T 0) := hN.2.2.1 0 (by decide)
  obtain ⟨hsn, e4, e5, e25, e36⟩ := id hW
  obtain ⟨hc, hl, hp0, hp1, hp2⟩ := hsn.lt hwf4
  have hw0 := hN.1.w0
  have hx2 := pow_le_256 hwf4
  have hx3 : (2 : Nat) ^ T 0 ≤ 256 := pow_le_256 (by omega)
  have h31 : T 1 < 2147483648 := by omega
  obtain ⟨n, su, sb, hn, e14, e20, hsee⟩ := hS.get
  refine Pair.one (v := nI (unsM T c n su sb)) hR0 ⟨_, _, cl_B_unseen hN.2.1 hwf1 hwf4 hsn.1 e4 hn e14 (fun j hj => ⟨(hsee j hj).1, (hsee j hj).2.1⟩), σ, rfl, rfl, fun _ _ _ => rfl⟩ (fun σ1 h1 => ?_)
  have hp : np q = 7 ∨ np q = 16 := by cases q <;> decide
  have r : ∀ p, (p < 7 ∨ 30 < p) → σ1 p = σ p := fun p hp2 => h1 p (by omega) (by omega)
  obtain ⟨v9, g9, hm9, σ2, rfl, rfl, m1⟩ := cl_M_unseenSet (X := X) (q := q) (σ := g_up σ1 31 0 (nI 0)) (T := T) (c := c) (n := n) (su := su) (sb := sb) (by show ToldM (σ1 33) T; rw [r 33 (by decide)]; exact hN.2.2) hw0 h31 hsn.1 ((congrFun (r 36 (by decide)) 0).trans (e36 0 (by decide))) hn ((congrFun (r 31 (by decide)) 20).trans e20) (fun j hj => ⟨(hsee j hj).1, (congrFun (r 41 (by decide)) j).trans (hsee j hj).2.2.1, (congrFun (r 42 (by decide)) j).trans (hsee j hj).2.2.2⟩)
  refine ClP.of ⟨Nat.le_of_ble_eq_true rfl, rfl⟩ ?_
  show EvP X 137 0 [some (.ref 31)] [] (47, g_rho q, σ1) _
  refine ep_aln t137_0 rfl ?_
  refine ep_k1 (w := nI 0) t137_1 rfl ?_
  refine ep_put t137_2 rfl (Nat.le_of_ble_eq_true rfl) rfl ?_
  refine ep_aln t137_5 rfl ?_
  refine ep_cv t137_6 rfl rfl (Nat.le_of_ble_eq_true rfl) (Nat.le_of_ble_eq_true rfl) (hm9) ?_
  refine ep_ri t137_9 (fun h => absurd h (by decide)) ?_
  exact ⟨σ2, rfl, rfl, fun p a b _ _ _ => (m1 p b).trans (g_up_ne a), fun k hk => (congrFun (m1 31 (by decide)) k).trans (g_up_j hk)⟩
