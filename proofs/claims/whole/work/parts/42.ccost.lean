/-! The class's costs. -/
def lw (T : Nat → Nat) (l s k : Nat) : Prop := k < T 3 ∧ why T l s k = 0
def pcs (T pr : Nat → Nat) (k : Nat) : Nat := pr (T (4 + k))
theorem lw_p {T pr : Nat → Nat} {l : Nat} (hw : WF0 T) (hpr : ∀ i, i < 3 → 1 ≤ pr i ∧ pr i ≤ 9) : ∀ s k, lw T l s k → 1 ≤ pcs T pr k ∧ pcs T pr k ≤ 9 := fun _ k h => hpr _ (hw.2.2.2 k h.1)
theorem lw_N {T : Nat → Nat} {l : Nat} : ∀ s k, lw T l s k → s < 2 ^ T 3 → s ^^^ 2 ^ k < 2 ^ T 3 := fun _ _ h hs => xor_lt hs h.1
theorem lw_sd {T : Nat → Nat} {l : Nat} : ∀ s k, lw T l s k → sound T (s ^^^ 2 ^ k) := fun _ _ h => why_zero h.2
theorem clr_xor (s k : Nat) : clr (s ^^^ 2 ^ k) k = clr s k := by
  apply Nat.eq_of_testBit_eq
  intro i
  rw [clr_bit, clr_bit, Nat.testBit_xor, Nat.testBit_two_pow]
  by_cases e : k = i
  · simp [e]
  · simp [e]
theorem lw_sy {T : Nat → Nat} {l : Nat} : ∀ s k, sound T s → lw T l s k → lw T l (s ^^^ 2 ^ k) k := fun s k hs h => by
  refine ⟨h.1, ?_⟩
  have h2 := h.2
  unfold why at h2 ⊢
  rw [clr_xor, xx]
  split at h2
  · exact absurd h2 (by decide)
  · next g1 =>
    rw [if_neg g1]
    split at h2
    · exact absurd h2 (by decide)
    · next g2 => rw [if_neg g2, if_pos hs]
def andN (a b : Nat) : Nat := a ^^^ (a &&& b)
theorem and_notG (a b : Nat) : nI a &&& (nI b ^^^ (-1)) = nI (andN a b) := by
  apply Int32.toBitVec_inj.mp
  rw [Int32.toBitVec_and, Int32.toBitVec_xor]
  apply BitVec.eq_of_getLsbD_eq
  intro i hi
  show (BitVec.ofNat 32 a &&& (BitVec.ofNat 32 b ^^^ BitVec.allOnes 32)).getLsbD i = (BitVec.ofNat 32 (a ^^^ (a &&& b))).getLsbD i
  simp only [BitVec.getLsbD_and, BitVec.getLsbD_xor, BitVec.getLsbD_ofNat, BitVec.getLsbD_allOnes, hi, decide_true, Bool.true_and, Nat.testBit_xor, Nat.testBit_and]
  cases a.testBit i <;> cases b.testBit i <;> rfl
theorem andN_bit (a b i : Nat) : (andN a b).testBit i = (a.testBit i && !b.testBit i) := by
  unfold andN
  rw [Nat.testBit_xor, Nat.testBit_and]
  cases a.testBit i <;> cases b.testBit i <;> rfl
theorem andN_le (a b : Nat) {n : Nat} (h : a < 2 ^ n) : andN a b < 2 ^ n := lt_of_bits (fun i hi => by
  rw [andN_bit] at hi
  simp only [Bool.and_eq_true] at hi
  exact lt_bit h hi.1)
theorem why2_le (T : Nat → Nat) (c k : Nat) : why2 T c k ≤ 3 := by
  unfold why2
  split
  · decide
  · split <;> decide
noncomputable def aimD (T : Nat → Nat) (W : Nat → Prop) (t : Nat) : Option Nat := @ite (Option Nat) (W t ∧ sound T t) (Classical.propDecidable _) (some 0) none
theorem aimD_yes {T : Nat → Nat} {W : Nat → Prop} {t : Nat} (h : W t ∧ sound T t) : aimD T W t = some 0 := if_pos h
theorem aimD_no {T : Nat → Nat} {W : Nat → Prop} {t : Nat} (h : ¬ (W t ∧ sound T t)) : aimD T W t = none := if_neg h
theorem nI_m1 {n : Nat} (h : n < 2147483648) : ¬ nI n = -1 := fun e => by
  have := congrArg Int32.toInt e
  rw [nI_toInt h] at this
  have h2 : (-1 : Int32).toInt = -1 := by decide
  omega
theorem isC_of {T pr : Nat → Nat} {l x j : Nat} {W : Nat → Prop} {D : Nat → Option Nat} (hw : WF0 T) (hpr : ∀ i, i < 3 → 1 ≤ pr i ∧ pr i ≤ 9) (ci : CI (lw T l) (pcs T pr) W (sound T) (2 ^ T 3) D) (cr : CR (lw T l) (pcs T pr) W (sound T) (2 ^ T 3) D x) (hj : j < 2 ^ T 3) (hD : D j = some x) : sound T j ∧ IsC (lw T l) (pcs T pr) W j x := by
  obtain ⟨h1, h2, h3⟩ := ci.1 j hj x hD
  obtain ⟨m, hm⟩ := IsC.ex x x (Nat.le_refl _) h2
  have h4 := settle (lw_p hw hpr) lw_N lw_sd lw_sy ci cr hj h1 hm (hm.2 x h2)
  rw [hD] at h4
  have := Option.some.inj h4
  subst this
  exact ⟨h1, hm⟩
theorem cl_Net_all_7 {X : gX} {q : Bool} {σ : gT1} {T : Nat → Nat} (hN : NetC σ 7 T) (h3 : T 3 ≤ 8) : Cl X 35 [.ref 7] (47, g_rho q, σ) (some (.int (nI (2 ^ T 3 - 1)))) (47, g_rho q, σ) := by
  refine Cl.of ⟨Nat.le_of_ble_eq_true rfl, rfl⟩ ?_
  show EvP X 35 0 [some (.ref 7)] [] (47, g_rho q, σ) _
  refine ep_k1 (w := nI 1) t35_0 rfl ?_
  refine ep_aln t35_1 rfl ?_
  refine ep_get t35_2 rfl (Nat.le_of_ble_eq_true rfl) rfl ?_
  refine ep_val (b := nI (T 3)) (hN.1 3 (by decide)) ?_
  refine ep_oneN (b := T 3) t35_5 (by have := Nat.two_pow_pos (T 3); omega) ?_
  refine ep_k1 (w := nI 1) t35_6 rfl ?_
  refine ep_subN (a := 2 ^ (T 3)) (b := 1) t35_7 (by have := Nat.two_pow_pos (T 3); omega) ?_
  refine ep_ri t35_8 (fun h => absurd h (by decide)) ?_
  exact ⟨rfl, rfl⟩

theorem L_sf_7 {X : gX} {σ : gT1} {T pr : Nat → Nat} {l : Nat} {W : Nat → Prop} {j x de : Nat} {P : Option Value → gS → Prop} (hN : NetC σ 7 T) (hw : WF0 T) (hl : l < 2 ^ T 3) (e5 : σ 0 5 = nI l) (e25 : ∀ i, i < 3 → σ 25 i = nI (pr i)) (hpr : ∀ i, i < 3 → 1 ≤ pr i ∧ pr i ≤ 9) (hj : j < 2 ^ T 3) (hsd : sound T j) (hic : IsC (lw T l) (pcs T pr) W j x) (hx : x ≤ 2295) (K : ∀ (σ' : gT1) (D : Nat → Option Nat) (dd : Nat), (∀ r, r ≠ 30 → σ' r = σ r) → (∀ s, s < 2 ^ T 3 → σ' 30 s = oI (D s)) → CI (lw T l) (pcs T pr) W (sound T) (2 ^ T 3) D → CR (lw T l) (pcs T pr) W (sound T) (2 ^ T 3) D x → CP (lw T l) (pcs T pr) W (sound T) D x j → CQ (lw T l) (pcs T pr) D x j (T 3) → (∀ s n, s < 2 ^ T 3 → D s = some n → n ≤ dd ∨ n ≤ de) → dd ≤ 2304 → P (some (.int (nI dd))) (47, g_rho false, σ')) : ∀ (d k : Nat) (σ' : gT1) (D : Nat → Option Nat) (dd : Nat) (o4 o5 : Option Value), k + d = T 3 → (∀ r, r ≠ 30 → σ' r = σ r) → (∀ s, s < 2 ^ T 3 → σ' 30 s = oI (D s)) → CI (lw T l) (pcs T pr) W (sound T) (2 ^ T 3) D → CR (lw T l) (pcs T pr) W (sound T) (2 ^ T 3) D x → CP (lw T l) (pcs T pr) W (sound T) D x j → CQ (lw T l) (pcs T pr) D x j k → (∀ s n, s < 2 ^ T 3 → D s = some n → n ≤ dd ∨ n ≤ de) → dd ≤ 2304 → EvP X 81 4 [some (.ref 0), some (.int (nI j)), some (.int (nI dd)), some (.int (nI k)), o4, o5] [] (47, g_rho false, σ') P
  | 0, k, σ', D, dd, o4, o5, hk, h1, h30, ci, cr, cp, cq, hb, hdd => by
    obtain rfl : k = T 3 := by omega
    have h38 := hw.2.1
    refine ep_iln t81_4 rfl ?_
    refine ep_aln t81_5 rfl ?_
    refine ep_getr (q := 7) t81_6 rfl (Nat.le_of_ble_eq_true rfl) rfl (rfl) ?_
    refine ep_get t81_9 rfl (Nat.le_of_ble_eq_true rfl) rfl ?_
    refine ep_val (b := nI (T 3)) ((congrFun (h1 7 (by decide)) 3).trans (hN.1 3 (by decide))) ?_
    refine ep_ifP t81_12 (ic_ge (by omega) (by omega)) (fun (c12 : (T 3) ≤ (T 3)) => ?_) (fun (c12 : ¬ ((T 3) ≤ (T 3))) => (by exact absurd (Nat.le_refl _) c12))
    refine ep_iln t81_117 rfl ?_
    refine ep_ri t81_118 (fun h => absurd h (by decide)) ?_
    exact K σ' D dd h1 h30 ci cr cp cq hb hdd
  | d + 1, k, σ', D, dd, o4, o5, hk, h1, h30, ci, cr, cp, cq, hb, hdd => by
    have hk3 : k < T 3 := by omega
    have h38 := hw.2.1
    have hx8 := pow_le_256 h38
    have hN1 : NetC σ' 7 T := by
      unfold NetC at *
      rw [h1 7 (by decide), h1 8 (by decide), h1 9 (by decide), h1 10 (by decide), h1 11 (by decide), h1 12 (by decide), h1 13 (by decide), h1 14 (by decide)]
      exact hN
    have hDj : D j = some x := settle (lw_p hw hpr) lw_N lw_sd lw_sy ci cr hj hsd hic (Nat.le_refl _)
    refine ep_iln t81_4 rfl ?_
    refine ep_aln t81_5 rfl ?_
    refine ep_getr (q := 7) t81_6 rfl (Nat.le_of_ble_eq_true rfl) rfl (rfl) ?_
    refine ep_get t81_9 rfl (Nat.le_of_ble_eq_true rfl) rfl ?_
    refine ep_val (b := nI (T 3)) ((congrFun (h1 7 (by decide)) 3).trans (hN.1 3 (by decide))) ?_
    refine ep_ifP t81_12 (ic_ge (by have hx8 := pow_le_256 hw.2.1; have hy8 := why2_le T j k; omega) (by have hx8 := pow_le_256 hw.2.1; have hy8 := why2_le T j k; omega)) (fun (c12 : (T 3) ≤ k) => (by omega)) (fun (c12 : ¬ ((T 3) ≤ k)) => ?_)
    refine ep_aln t81_15 rfl ?_
    refine ep_get t81_16 rfl (Nat.le_of_ble_eq_true rfl) rfl ?_
    refine ep_val (b := nI l) ((congrFun (h1 0 (by decide)) 5).trans e5) ?_
    refine ep_iln t81_19 rfl ?_
    refine ep_cs t81_20 (Nat.ne_of_beq_eq_false rfl) rfl (Nat.le_of_ble_eq_true rfl) (cl_B_bit (by omega) (by omega)) ?_
    refine ep_k1 (w := nI 1) t81_23 rfl ?_
    refine ep_b1e t81_24 (fun (c24 : (Nat.testBit l k) = true) => ?_) (fun (c24 : (Nat.testBit l k) = false) => ?_)
    · have hnok : ¬ lw T l j k := fun hq => by
        have hz := hq.2
        rw [why_eq hk3] at hz
        first
        | (rw [if_pos c24] at hz; exact absurd hz (by decide))
        | (rw [if_neg (by rw [c24]; decide)] at hz; exact c36 hz)
      refine ep_inc (b := nI (k + 1)) (L' := [some (.ref 0), some (.int (nI j)), some (.int (nI dd)), some (.int (nI (k + 1))), o4, o5]) t81_111 rfl (nI_add k 1) rfl (Nat.le_of_ble_eq_true rfl) ?_
      refine ep_gt t81_114 ?_
      refine L_sf_7 hN hw hl e5 e25 hpr hj hsd hic hx K d (k + 1) σ' D dd _ _ (by omega) h1 h30 ci cr cp (fun k' hk' ho => ?_) hb hdd
      by_cases e : k' = k
      · subst e
        first
        | exact absurd ho hnok
        | exact ⟨_, hDn, by omega⟩
      · exact cq k' (by omega) ho
    · refine ep_aln t81_27 rfl ?_
      refine ep_getr (q := 7) t81_28 rfl (Nat.le_of_ble_eq_true rfl) rfl (rfl) ?_
      refine ep_iln t81_31 rfl ?_
      refine ep_iln t81_32 rfl ?_
      refine ep_cv t81_33 rfl rfl (Nat.le_of_ble_eq_true rfl) (Nat.le_of_ble_eq_true rfl) (cl_Net_whyNot_7 (T := T) hN1 hw.1 hw.2.1 hj hk3) ?_
      refine ep_if0P t81_36 (ic0_eq (by have hx8 := pow_le_256 hw.2.1; have hy8 := why2_le T j k; omega)) (fun (c36 : (why2 T j k) = 0) => ?_) (fun (c36 : ¬ ((why2 T j k) = 0)) => ?_)
      · have hok : lw T l j k := ⟨hk3, by rw [why_eq hk3, if_neg (by rw [c24]; decide)]; exact c36⟩
        have hjk := xor_lt hj hk3
        have hpk := lw_p hw hpr j k hok
        have hkd := hw.2.2.2 k hk3
        refine ep_iln t81_42 rfl ?_
        refine ep_k1 (w := nI 1) t81_43 rfl ?_
        refine ep_iln t81_44 rfl ?_
        refine ep_oneN (b := k) t81_45 (by have hx8 := pow_le_256 hw.2.1; have hy8 := why2_le T j k; omega) ?_
        refine ep_xorN (a := j) (b := 2 ^ k) t81_46 ?_
        refine ep_is (L' := [some (.ref 0), some (.int (nI j)), some (.int (nI dd)), some (.int (nI k)), some (.int (nI (j ^^^ (2 ^ k)))), o5]) t81_47 rfl (Nat.le_of_ble_eq_true rfl) ?_
        refine ep_aln t81_49 rfl ?_
        refine ep_getr (q := 30) t81_50 rfl (Nat.le_of_ble_eq_true rfl) rfl (rfl) ?_
        refine ep_iln t81_53 rfl ?_
        refine ep_aldN t81_54 rfl (Nat.le_of_ble_eq_true rfl) (Nat.ne_of_beq_eq_false rfl) (Nat.le_of_ble_eq_true rfl) (by have hx8 := pow_le_256 hw.2.1; have hy8 := why2_le T j k; omega) ?_
        refine ep_val (b := nI x) ((h30 j hj).trans (by rw [hDj]; rfl)) ?_
        refine ep_aln t81_55 rfl ?_
        refine ep_getr (q := 25) t81_56 rfl (Nat.le_of_ble_eq_true rfl) rfl (rfl) ?_
        refine ep_aln t81_59 rfl ?_
        refine ep_getr (q := 7) t81_60 rfl (Nat.le_of_ble_eq_true rfl) rfl (rfl) ?_
        refine ep_getr (q := 8) t81_63 rfl (Nat.le_of_ble_eq_true rfl) rfl (rfl) ?_
        refine ep_iln t81_66 rfl ?_
        refine ep_aldN t81_67 rfl (Nat.le_of_ble_eq_true rfl) (Nat.ne_of_beq_eq_false rfl) (Nat.le_of_ble_eq_true rfl) (by have hx8 := pow_le_256 hw.2.1; have hy8 := why2_le T j k; omega) ?_
        refine ep_val (b := nI (T (4 + k))) ((congrFun (h1 8 (by decide)) k).trans (hN.2.1 k hk3).1) ?_
        refine ep_aldN t81_68 rfl (Nat.le_of_ble_eq_true rfl) (Nat.ne_of_beq_eq_false rfl) (Nat.le_of_ble_eq_true rfl) (by have hx8 := pow_le_256 hw.2.1; have hy8 := why2_le T j k; omega) ?_
        refine ep_val (b := nI (pcs T pr k)) ((congrFun (h1 25 (by decide)) _).trans (e25 _ (hw.2.2.2 k hk3))) ?_
        refine ep_addN (a := x) (b := pcs T pr k) t81_69 ?_
        refine ep_is (L' := [some (.ref 0), some (.int (nI j)), some (.int (nI dd)), some (.int (nI k)), some (.int (nI (j ^^^ (2 ^ k)))), some (.int (nI (x + (pcs T pr k))))]) t81_70 rfl (Nat.le_of_ble_eq_true rfl) ?_
        cases hDn : D (j ^^^ 2 ^ k) with
        | none =>
          refine ep_aln t81_72 rfl ?_
          refine ep_getr (q := 30) t81_73 rfl (Nat.le_of_ble_eq_true rfl) rfl (rfl) ?_
          refine ep_il t81_76 rfl ?_
          refine ep_aldN t81_78 rfl (Nat.le_of_ble_eq_true rfl) (Nat.ne_of_beq_eq_false rfl) (Nat.le_of_ble_eq_true rfl) (by have hx8 := pow_le_256 hw.2.1; omega) ?_
          refine ep_val (b := (-1 : Int32)) ((h30 _ hjk).trans (by rw [hDn]; rfl)) ?_
          refine ep_k1 (w := (-1)) t81_79 rfl ?_
          refine ep_if t81_80 (fun (c80 : ((-1 : Int32)) = ((-1))) => ?_) (fun (c80 : ¬ (((-1 : Int32)) = ((-1)))) => (by exact absurd rfl c80))
          refine ep_aln t81_95 rfl ?_
          refine ep_getr (q := 30) t81_96 rfl (Nat.le_of_ble_eq_true rfl) rfl (rfl) ?_
          refine ep_il t81_99 rfl ?_
          refine ep_il t81_101 rfl ?_
          refine ep_astN t81_103 rfl (Nat.le_of_ble_eq_true rfl) (Nat.le_of_ble_eq_true rfl) (by have hx8 := pow_le_256 hw.2.1; omega) ?_
          refine ep_iln t81_104 rfl ?_
          refine ep_il t81_105 rfl ?_
          refine ep_max (a := dd) (b := x + (pcs T pr k)) t81_107 (by have hx8 := pow_le_256 hw.2.1; omega) (by have hx8 := pow_le_256 hw.2.1; omega) (Nat.le_of_ble_eq_true rfl) ?_
          refine ep_isn (L' := [some (.ref 0), some (.int (nI j)), some (.int (nI (max dd (x + (pcs T pr k))))), some (.int (nI k)), some (.int (nI (j ^^^ (2 ^ k)))), some (.int (nI (x + (pcs T pr k))))]) t81_110 rfl (Nat.le_of_ble_eq_true rfl) ?_
          refine ep_inc (b := nI (k + 1)) (L' := [some (.ref 0), some (.int (nI j)), some (.int (nI (max dd (x + (pcs T pr k))))), some (.int (nI (k + 1))), some (.int (nI (j ^^^ (2 ^ k)))), some (.int (nI (x + (pcs T pr k))))]) t81_111 rfl (nI_add k 1) rfl (Nat.le_of_ble_eq_true rfl) ?_
          refine ep_gt t81_114 ?_
          have hcond : D (j ^^^ 2 ^ k) = none ∨ ∃ n, D (j ^^^ 2 ^ k) = some n ∧ x + pcs T pr k < n := by first | exact Or.inl hDn | exact Or.inr ⟨_, hDn, by omega⟩
          have hrl := updO_rlx hcond
          refine L_sf_7 hN hw hl e5 e25 hpr hj hsd hic hx K d (k + 1) _ (updO D (j ^^^ 2 ^ k) (x + pcs T pr k)) _ _ _ (by omega) (fun r hr => (g_up_ne hr).trans (h1 r hr)) (fun s hs => ?_) (CI.upd lw_sy lw_sd ci hsd hic.1 hok (by omega) hcond) (cr.rlx hrl) (cp.rlx hrl) (fun k' hk' ho => ?_) (fun s n hs hD => ?_) (by omega)
          · by_cases e : s = j ^^^ 2 ^ k
            · subst e; rw [g_up_eq]; unfold updO; rw [if_pos rfl]; rfl
            · rw [g_up_j e, h30 s hs]; unfold updO; rw [if_neg e]
          · by_cases e : k' = k
            · subst e; exact ⟨_, if_pos rfl, Nat.le_refl _⟩
            · exact cq.rlx hrl k' (by omega) ho
          · unfold updO at hD
            by_cases e : s = j ^^^ 2 ^ k
            · rw [if_pos e] at hD
              have := Option.some.inj hD
              omega
            · rw [if_neg e] at hD
              have := hb s n hs hD
              omega
        | some n =>
          have hn4 := (ci.1 _ hjk n hDn).2.2
          refine ep_aln t81_72 rfl ?_
          refine ep_getr (q := 30) t81_73 rfl (Nat.le_of_ble_eq_true rfl) rfl (rfl) ?_
          refine ep_il t81_76 rfl ?_
          refine ep_aldN t81_78 rfl (Nat.le_of_ble_eq_true rfl) (Nat.ne_of_beq_eq_false rfl) (Nat.le_of_ble_eq_true rfl) (by have hx8 := pow_le_256 hw.2.1; omega) ?_
          refine ep_val (b := nI n) ((h30 _ hjk).trans (by rw [hDn]; rfl)) ?_
          refine ep_k1 (w := (-1)) t81_79 rfl ?_
          refine ep_if t81_80 (fun (c80 : (nI n) = ((-1))) => (by exact absurd c80 (nI_m1 (by omega)))) (fun (c80 : ¬ ((nI n) = ((-1)))) => ?_)
          refine ep_aln t81_83 rfl ?_
          refine ep_getr (q := 30) t81_84 rfl (Nat.le_of_ble_eq_true rfl) rfl (rfl) ?_
          refine ep_il t81_87 rfl ?_
          refine ep_aldN t81_89 rfl (Nat.le_of_ble_eq_true rfl) (Nat.ne_of_beq_eq_false rfl) (Nat.le_of_ble_eq_true rfl) (by have hx8 := pow_le_256 hw.2.1; omega) ?_
          refine ep_val (b := nI n) ((h30 _ hjk).trans (by rw [hDn]; rfl)) ?_
          refine ep_il t81_90 rfl ?_
          refine ep_ifP t81_92 (ic_le (by have hx8 := pow_le_256 hw.2.1; omega) (by have hx8 := pow_le_256 hw.2.1; omega)) (fun (c92 : n ≤ (x + (pcs T pr k))) => ?_) (fun (c92 : ¬ (n ≤ (x + (pcs T pr k)))) => ?_)
          · refine ep_inc (b := nI (k + 1)) (L' := [some (.ref 0), some (.int (nI j)), some (.int (nI dd)), some (.int (nI (k + 1))), some (.int (nI (j ^^^ (2 ^ k)))), some (.int (nI (x + (pcs T pr k))))]) t81_111 rfl (nI_add k 1) rfl (Nat.le_of_ble_eq_true rfl) ?_
            refine ep_gt t81_114 ?_
            refine L_sf_7 hN hw hl e5 e25 hpr hj hsd hic hx K d (k + 1) σ' D dd _ _ (by omega) h1 h30 ci cr cp (fun k' hk' ho => ?_) hb hdd
            by_cases e : k' = k
            · subst e
              first
              | exact absurd ho hnok
              | exact ⟨_, hDn, by omega⟩
            · exact cq k' (by omega) ho
          · refine ep_aln t81_95 rfl ?_
            refine ep_getr (q := 30) t81_96 rfl (Nat.le_of_ble_eq_true rfl) rfl (rfl) ?_
            refine ep_il t81_99 rfl ?_
            refine ep_il t81_101 rfl ?_
            refine ep_astN t81_103 rfl (Nat.le_of_ble_eq_true rfl) (Nat.le_of_ble_eq_true rfl) (by have hx8 := pow_le_256 hw.2.1; omega) ?_
            refine ep_iln t81_104 rfl ?_
            refine ep_il t81_105 rfl ?_
            refine ep_max (a := dd) (b := x + (pcs T pr k)) t81_107 (by have hx8 := pow_le_256 hw.2.1; omega) (by have hx8 := pow_le_256 hw.2.1; omega) (Nat.le_of_ble_eq_true rfl) ?_
            refine ep_isn (L' := [some (.ref 0), some (.int (nI j)), some (.int (nI (max dd (x + (pcs T pr k))))), some (.int (nI k)), some (.int (nI (j ^^^ (2 ^ k)))), some (.int (nI (x + (pcs T pr k))))]) t81_110 rfl (Nat.le_of_ble_eq_true rfl) ?_
            refine ep_inc (b := nI (k + 1)) (L' := [some (.ref 0), some (.int (nI j)), some (.int (nI (max dd (x + (pcs T pr k))))), some (.int (nI (k + 1))), some (.int (nI (j ^^^ (2 ^ k)))), some (.int (nI (x + (pcs T pr k))))]) t81_111 rfl (nI_add k 1) rfl (Nat.le_of_ble_eq_true rfl) ?_
            refine ep_gt t81_114 ?_
            have hcond : D (j ^^^ 2 ^ k) = none ∨ ∃ n, D (j ^^^ 2 ^ k) = some n ∧ x + pcs T pr k < n := by first | exact Or.inl hDn | exact Or.inr ⟨_, hDn, by omega⟩
            have hrl := updO_rlx hcond
            refine L_sf_7 hN hw hl e5 e25 hpr hj hsd hic hx K d (k + 1) _ (updO D (j ^^^ 2 ^ k) (x + pcs T pr k)) _ _ _ (by omega) (fun r hr => (g_up_ne hr).trans (h1 r hr)) (fun s hs => ?_) (CI.upd lw_sy lw_sd ci hsd hic.1 hok (by omega) hcond) (cr.rlx hrl) (cp.rlx hrl) (fun k' hk' ho => ?_) (fun s n hs hD => ?_) (by omega)
            · by_cases e : s = j ^^^ 2 ^ k
              · subst e; rw [g_up_eq]; unfold updO; rw [if_pos rfl]; rfl
              · rw [g_up_j e, h30 s hs]; unfold updO; rw [if_neg e]
            · by_cases e : k' = k
              · subst e; exact ⟨_, if_pos rfl, Nat.le_refl _⟩
              · exact cq.rlx hrl k' (by omega) ho
            · unfold updO at hD
              by_cases e : s = j ^^^ 2 ^ k
              · rw [if_pos e] at hD
                have := Option.some.inj hD
                omega
              · rw [if_neg e] at hD
                have := hb s n hs hD
                omega
      · refine ep_gt t81_39 ?_
        have hnok : ¬ lw T l j k := fun hq => by
          have hz := hq.2
          rw [why_eq hk3] at hz
          first
          | (rw [if_pos c24] at hz; exact absurd hz (by decide))
          | (rw [if_neg (by rw [c24]; decide)] at hz; exact c36 hz)
        refine ep_inc (b := nI (k + 1)) (L' := [some (.ref 0), some (.int (nI j)), some (.int (nI dd)), some (.int (nI (k + 1))), o4, o5]) t81_111 rfl (nI_add k 1) rfl (Nat.le_of_ble_eq_true rfl) ?_
        refine ep_gt t81_114 ?_
        refine L_sf_7 hN hw hl e5 e25 hpr hj hsd hic hx K d (k + 1) σ' D dd _ _ (by omega) h1 h30 ci cr cp (fun k' hk' ho => ?_) hb hdd
        by_cases e : k' = k
        · subst e
          first
          | exact absurd ho hnok
          | exact ⟨_, hDn, by omega⟩
        · exact cq k' (by omega) ho
theorem cl_B_spreadFrom_7 {X : gX} {σ : gT1} {T pr : Nat → Nat} {l : Nat} {W : Nat → Prop} {j x de : Nat} {D : Nat → Option Nat} (hN : NetC σ 7 T) (hw : WF0 T) (hl : l < 2 ^ T 3) (e5 : σ 0 5 = nI l) (e25 : ∀ i, i < 3 → σ 25 i = nI (pr i)) (hpr : ∀ i, i < 3 → 1 ≤ pr i ∧ pr i ≤ 9) (hj : j < 2 ^ T 3) (hsd : sound T j) (hic : IsC (lw T l) (pcs T pr) W j x) (hx : x ≤ 2295) (h30 : ∀ s, s < 2 ^ T 3 → σ 30 s = oI (D s)) (ci : CI (lw T l) (pcs T pr) W (sound T) (2 ^ T 3) D) (cr : CR (lw T l) (pcs T pr) W (sound T) (2 ^ T 3) D x) (cp : CP (lw T l) (pcs T pr) W (sound T) D x j) (hb : ∀ s n, s < 2 ^ T 3 → D s = some n → n ≤ de)  : ClP X 81 [.ref 0, .int (nI j)] (47, g_rho false, σ) (fun v g1 => ∃ σ' D dd, v = some (.int (nI dd)) ∧ g1 = (47, g_rho false, σ') ∧ (∀ r, r ≠ 30 → σ' r = σ r) ∧ (∀ s, s < 2 ^ T 3 → σ' 30 s = oI (D s)) ∧ CI (lw T l) (pcs T pr) W (sound T) (2 ^ T 3) D ∧ CR (lw T l) (pcs T pr) W (sound T) (2 ^ T 3) D x ∧ CP (lw T l) (pcs T pr) W (sound T) D x j ∧ CQ (lw T l) (pcs T pr) D x j (T 3) ∧ (∀ s n, s < 2 ^ T 3 → D s = some n → n ≤ dd ∨ n ≤ de) ∧ dd ≤ 2304) := by
  refine ClP.of ⟨Nat.le_of_ble_eq_true rfl, rfl⟩ ?_
  show EvP X 81 0 [some (.ref 0), some (.int (nI j)), none, none, none, none] [] (47, g_rho false, σ) _
  refine ep_k1 (w := nI 0) t81_0 rfl ?_
  refine ep_isn (L' := [some (.ref 0), some (.int (nI j)), some (.int (nI 0)), none, none, none]) t81_1 rfl (Nat.le_of_ble_eq_true rfl) ?_
  refine ep_k1 (w := nI 0) t81_2 rfl ?_
  refine ep_isn (L' := [some (.ref 0), some (.int (nI j)), some (.int (nI 0)), some (.int (nI 0)), none, none]) t81_3 rfl (Nat.le_of_ble_eq_true rfl) ?_
  exact L_sf_7 (de := de) hN hw hl e5 e25 hpr hj hsd hic hx (fun σ1 D1 dd a1 a2 a3 a4 a5 a6 a7 a8 => ⟨σ1, D1, dd, rfl, rfl, a1, a2, a3, a4, a5, a6, a7, a8⟩) (T 3) 0 σ D 0 _ _ (by omega) (fun _ _ => rfl) h30 ci cr cp (fun k' hk' => absurd hk' (Nat.not_lt_zero k')) (fun s n hs hD => Or.inr (hb s n hs hD)) (by omega)

theorem L_s2_7 {X : gX} {x : Nat} {σ : gT1} {T pr : Nat → Nat} {l : Nat} {W : Nat → Prop} {P : Option Value → gS → Prop} (hN : NetC σ 7 T) (hw : WF0 T) (hl : l < 2 ^ T 3) (e5 : σ 0 5 = nI l) (e25 : ∀ i, i < 3 → σ 25 i = nI (pr i)) (hpr : ∀ i, i < 3 → 1 ≤ pr i ∧ pr i ≤ 9) (hx : x ≤ 2295) (K : ∀ (σ' : gT1) (D : Nat → Option Nat) (de : Nat), (∀ r, r ≠ 30 → σ' r = σ r) → (∀ s, s < 2 ^ T 3 → σ' 30 s = oI (D s)) → CI (lw T l) (pcs T pr) W (sound T) (2 ^ T 3) D → CR (lw T l) (pcs T pr) W (sound T) (2 ^ T 3) D (x + 1) → (∀ s n, s < 2 ^ T 3 → D s = some n → n ≤ de) → de ≤ 2304 → EvP X 82 61 [some (.ref 0), some (.int (nI (2 ^ T 3 - 1))), some (.int (nI de)), some (.int (nI x)), some (.int (nI (2 ^ T 3)))] [] (47, g_rho false, σ') P) : ∀ (d j : Nat) (σ' : gT1) (D : Nat → Option Nat) (de : Nat), j + d = 2 ^ T 3 → (∀ r, r ≠ 30 → σ' r = σ r) → (∀ s, s < 2 ^ T 3 → σ' 30 s = oI (D s)) → CI (lw T l) (pcs T pr) W (sound T) (2 ^ T 3) D → CR (lw T l) (pcs T pr) W (sound T) (2 ^ T 3) D x → CP (lw T l) (pcs T pr) W (sound T) D x j → (∀ s n, s < 2 ^ T 3 → D s = some n → n ≤ de) → de ≤ 2304 → EvP X 82 27 [some (.ref 0), some (.int (nI (2 ^ T 3 - 1))), some (.int (nI de)), some (.int (nI x)), some (.int (nI j))] [] (47, g_rho false, σ') P
  | 0, j, σ', D, de, hk, h1, h30, ci, cr, cp, hb, hde => by
    obtain rfl : j = 2 ^ T 3 := by omega
    refine ep_il t82_27 rfl ?_
    refine ep_iln t82_29 rfl ?_
    refine ep_ifP t82_30 (ic_gt (by have hx8 := pow_le_256 hw.2.1; omega) (by have hx8 := pow_le_256 hw.2.1; omega)) (fun (c30 : (2 ^ T 3 - 1) < (2 ^ T 3)) => ?_) (fun (c30 : ¬ ((2 ^ T 3 - 1) < (2 ^ T 3))) => (by have := Nat.two_pow_pos (T 3); omega))
    exact K σ' D de h1 h30 ci (fun t m k a b c e f => by
      by_cases g : m = x
      · subst g; exact cp t k a b c f
      · exact cr t m k a b c (by omega) f) hb hde
  | d + 1, j, σ', D, de, hk, h1, h30, ci, cr, cp, hb, hde => by
    have hj : j < 2 ^ T 3 := by omega
    have hN1 : NetC σ' 7 T := by
      unfold NetC at *
      rw [h1 7 (by decide), h1 8 (by decide), h1 9 (by decide), h1 10 (by decide), h1 11 (by decide), h1 12 (by decide), h1 13 (by decide), h1 14 (by decide)]
      exact hN
    refine ep_il t82_27 rfl ?_
    refine ep_iln t82_29 rfl ?_
    refine ep_ifP t82_30 (ic_gt (by have hx8 := pow_le_256 hw.2.1; omega) (by have hx8 := pow_le_256 hw.2.1; omega)) (fun (c30 : (2 ^ T 3 - 1) < j) => (by omega)) (fun (c30 : ¬ ((2 ^ T 3 - 1) < j)) => ?_)
    cases hDj : D j with
    | none =>
      refine ep_aln t82_33 rfl ?_
      refine ep_getr (q := 30) t82_34 rfl (Nat.le_of_ble_eq_true rfl) rfl (rfl) ?_
      refine ep_il t82_37 rfl ?_
      refine ep_aldN t82_39 rfl (Nat.le_of_ble_eq_true rfl) (Nat.ne_of_beq_eq_false rfl) (Nat.le_of_ble_eq_true rfl) (by have hx8 := pow_le_256 hw.2.1; omega) ?_
      refine ep_val (b := (-1 : Int32)) ((h30 _ hj).trans (by rw [hDj]; rfl)) ?_
      refine ep_iln t82_40 rfl ?_
      refine ep_if t82_41 (fun (c41 : ¬ ((-1 : Int32)) = (nI x)) => ?_) (fun (c41 : ¬ (¬ ((-1 : Int32)) = (nI x))) => (by exact absurd (Classical.byContradiction c41).symm (nI_m1 (n := x) (by omega))))
      refine ep_inc (b := nI (j + 1)) (L' := [some (.ref 0), some (.int (nI (2 ^ T 3 - 1))), some (.int (nI de)), some (.int (nI x)), some (.int (nI (j + 1)))]) t82_55 rfl (nI_add j 1) rfl (Nat.le_of_ble_eq_true rfl) ?_
      refine ep_gt t82_58 ?_
      refine L_s2_7 hN hw hl e5 e25 hpr hx K d (j + 1) σ' D de (by omega) h1 h30 ci cr (fun t k a b c e => ?_) hb hde
      by_cases g : t = j
      · subst g
        have := settle (lw_p hw hpr) lw_N lw_sd lw_sy ci cr hj b c (Nat.le_refl _)
        rw [hDj] at this
        first
        | exact absurd (Option.some.inj this) c41
        | cases this
      · exact cp t k (by omega) b c e
    | some n =>
      have hn4 := (ci.1 _ hj n hDj).2.2
      refine ep_aln t82_33 rfl ?_
      refine ep_getr (q := 30) t82_34 rfl (Nat.le_of_ble_eq_true rfl) rfl (rfl) ?_
      refine ep_il t82_37 rfl ?_
      refine ep_aldN t82_39 rfl (Nat.le_of_ble_eq_true rfl) (Nat.ne_of_beq_eq_false rfl) (Nat.le_of_ble_eq_true rfl) (by have hx8 := pow_le_256 hw.2.1; omega) ?_
      refine ep_val (b := nI n) ((h30 _ hj).trans (by rw [hDj]; rfl)) ?_
      refine ep_iln t82_40 rfl ?_
      refine ep_ifP t82_41 (ic_ne (by have hx8 := pow_le_256 hw.2.1; omega) (by have hx8 := pow_le_256 hw.2.1; omega)) (fun (c41 : ¬ n = x) => ?_) (fun (c41 : ¬ (¬ n = x)) => ?_)
      · refine ep_inc (b := nI (j + 1)) (L' := [some (.ref 0), some (.int (nI (2 ^ T 3 - 1))), some (.int (nI de)), some (.int (nI x)), some (.int (nI (j + 1)))]) t82_55 rfl (nI_add j 1) rfl (Nat.le_of_ble_eq_true rfl) ?_
        refine ep_gt t82_58 ?_
        refine L_s2_7 hN hw hl e5 e25 hpr hx K d (j + 1) σ' D de (by omega) h1 h30 ci cr (fun t k a b c e => ?_) hb hde
        by_cases g : t = j
        · subst g
          have := settle (lw_p hw hpr) lw_N lw_sd lw_sy ci cr hj b c (Nat.le_refl _)
          rw [hDj] at this
          first
          | exact absurd (Option.some.inj this) c41
          | cases this
        · exact cp t k (by omega) b c e
      · refine ep_iln t82_44 rfl ?_
        refine ep_aln t82_45 rfl ?_
        refine ep_il t82_46 rfl ?_
        obtain rfl : x = n := (Classical.byContradiction c41).symm
        obtain ⟨hsd, hic⟩ := isC_of hw hpr ci cr hj hDj
        obtain ⟨v9, g9, hm9, σ2, D2, dd, rfl, rfl, b1, b2, b3, b4, b5, b6, b7, b8⟩ := cl_B_spreadFrom_7 (X := X) (σ := σ') (de := de) hN1 hw hl ((congrFun (h1 0 (by decide)) 5).trans e5) (fun i hi => (congrFun (h1 25 (by decide)) i).trans (e25 i hi)) hpr hj hsd hic hx h30 ci cr cp hb
        refine ep_cv t82_48 rfl rfl (Nat.le_of_ble_eq_true rfl) (Nat.le_of_ble_eq_true rfl) (hm9) ?_
        refine ep_max (a := de) (b := dd) t82_51 (by have hx8 := pow_le_256 hw.2.1; omega) (by have hx8 := pow_le_256 hw.2.1; omega) (Nat.le_of_ble_eq_true rfl) ?_
        refine ep_isn (L' := [some (.ref 0), some (.int (nI (2 ^ T 3 - 1))), some (.int (nI (max de dd))), some (.int (nI x)), some (.int (nI j))]) t82_54 rfl (Nat.le_of_ble_eq_true rfl) ?_
        refine ep_inc (b := nI (j + 1)) (L' := [some (.ref 0), some (.int (nI (2 ^ T 3 - 1))), some (.int (nI (max de dd))), some (.int (nI x)), some (.int (nI (j + 1)))]) t82_55 rfl (nI_add j 1) rfl (Nat.le_of_ble_eq_true rfl) ?_
        refine ep_gt t82_58 ?_
        refine L_s2_7 hN hw hl e5 e25 hpr hx K d (j + 1) σ2 D2 _ (by omega) (fun r hr => (b1 r hr).trans (h1 r hr)) b2 b3 b4 (fun t k a b c e => ?_) (fun s n hs hD => ?_) (by omega)
        · by_cases g : t = j
          · subst g; exact b6 k e.1 e
          · exact b5 t k (by omega) b c e
        · have := b7 s n hs hD
          omega
theorem L_s1_7 {X : gX} {σ : gT1} {T pr : Nat → Nat} {l : Nat} {W : Nat → Prop} {P : Option Value → gS → Prop} (hN : NetC σ 7 T) (hw : WF0 T) (hl : l < 2 ^ T 3) (e5 : σ 0 5 = nI l) (e25 : ∀ i, i < 3 → σ 25 i = nI (pr i)) (hpr : ∀ i, i < 3 → 1 ≤ pr i ∧ pr i ≤ 9) (K : ∀ (σ' : gT1), (∀ r, r ≠ 30 → σ' r = σ r) → (∀ s, s < 2 ^ T 3 → σ' 30 s = oI (dS (lw T l) (pcs T pr) W (sound T) s)) → P none (47, g_rho false, σ')) : ∀ (d x : Nat) (σ' : gT1) (D : Nat → Option Nat) (de : Nat) (o4 : Option Value), x + d = 2296 → (∀ r, r ≠ 30 → σ' r = σ r) → (∀ s, s < 2 ^ T 3 → σ' 30 s = oI (D s)) → CI (lw T l) (pcs T pr) W (sound T) (2 ^ T 3) D → CR (lw T l) (pcs T pr) W (sound T) (2 ^ T 3) D x → (∀ s n, s < 2 ^ T 3 → D s = some n → n ≤ de) → de ≤ 2304 → EvP X 82 12 [some (.ref 0), some (.int (nI (2 ^ T 3 - 1))), some (.int (nI de)), some (.int (nI x)), o4] [] (47, g_rho false, σ') P
  | 0, x, σ', D, de, o4, hk, h1, h30, ci, cr, hb, hde => by
    refine ep_iln t82_12 rfl ?_
    refine ep_iln t82_13 rfl ?_
    refine ep_ifP t82_14 (ic_gt (by omega) (by omega)) (fun (c14 : de < x) => ?_) (fun (c14 : ¬ (de < x)) => ?_)
    · refine ep_rv t82_67 ?_
      exact K σ' h1 (fun s hs => (h30 s hs).trans (congrArg oI (cfin (lw_p hw hpr) lw_N (pow_le_256 hw.2.1) lw_sd lw_sy ci cr (by first | exact Or.inr (fun s n hs hD => by have := hb s n hs hD; omega) | exact Or.inl (by omega)) s hs)))
    · refine ep_iln t82_17 rfl ?_
      refine ep_k3 (w := nI 2295) t82_18 rfl ?_
      refine ep_ifP t82_21 (ic_gt (by omega) (by omega)) (fun (c21 : 2295 < x) => ?_) (fun (c21 : ¬ (2295 < x)) => (by omega))
      refine ep_rv t82_67 ?_
      exact K σ' h1 (fun s hs => (h30 s hs).trans (congrArg oI (cfin (lw_p hw hpr) lw_N (pow_le_256 hw.2.1) lw_sd lw_sy ci cr (by first | exact Or.inr (fun s n hs hD => by have := hb s n hs hD; omega) | exact Or.inl (by omega)) s hs)))
  | d + 1, x, σ', D, de, o4, hk, h1, h30, ci, cr, hb, hde => by
    refine ep_iln t82_12 rfl ?_
    refine ep_iln t82_13 rfl ?_
    refine ep_ifP t82_14 (ic_gt (by omega) (by omega)) (fun (c14 : de < x) => ?_) (fun (c14 : ¬ (de < x)) => ?_)
    · refine ep_rv t82_67 ?_
      exact K σ' h1 (fun s hs => (h30 s hs).trans (congrArg oI (cfin (lw_p hw hpr) lw_N (pow_le_256 hw.2.1) lw_sd lw_sy ci cr (by first | exact Or.inr (fun s n hs hD => by have := hb s n hs hD; omega) | exact Or.inl (by omega)) s hs)))
    · refine ep_iln t82_17 rfl ?_
      refine ep_k3 (w := nI 2295) t82_18 rfl ?_
      refine ep_ifP t82_21 (ic_gt (by omega) (by omega)) (fun (c21 : 2295 < x) => (by omega)) (fun (c21 : ¬ (2295 < x)) => ?_)
      refine ep_k1 (w := nI 0) t82_24 rfl ?_
      refine ep_is (L' := [some (.ref 0), some (.int (nI (2 ^ T 3 - 1))), some (.int (nI de)), some (.int (nI x)), some (.int (nI 0))]) t82_25 rfl (Nat.le_of_ble_eq_true rfl) ?_
      refine L_s2_7 hN hw hl e5 e25 hpr (by omega) (fun σ2 D2 de2 b1 b2 b3 b4 b5 b6 => ?_) (2 ^ T 3) 0 σ' D de (by omega) h1 h30 ci cr (fun t k a => absurd a (Nat.not_lt_zero t)) hb hde
      refine ep_inc (b := nI (x + 1)) (L' := [some (.ref 0), some (.int (nI (2 ^ T 3 - 1))), some (.int (nI de2)), some (.int (nI (x + 1))), some (.int (nI (2 ^ T 3)))]) t82_61 rfl (nI_add x 1) rfl (Nat.le_of_ble_eq_true rfl) ?_
      refine ep_gt t82_64 ?_
      exact L_s1_7 hN hw hl e5 e25 hpr K d (x + 1) σ2 D2 de2 _ (by omega) b1 b2 b3 b4 b5 b6
theorem cl_B_spread_7 {X : gX} {σ : gT1} {T pr : Nat → Nat} {l : Nat} {W : Nat → Prop} {D : Nat → Option Nat} (hN : NetC σ 7 T) (hw : WF0 T) (hl : l < 2 ^ T 3) (e5 : σ 0 5 = nI l) (e25 : ∀ i, i < 3 → σ 25 i = nI (pr i)) (hpr : ∀ i, i < 3 → 1 ≤ pr i ∧ pr i ≤ 9) (h30 : ∀ s, s < 2 ^ T 3 → σ 30 s = oI (D s)) (ci : CI (lw T l) (pcs T pr) W (sound T) (2 ^ T 3) D) (h0 : ∀ s n, s < 2 ^ T 3 → D s = some n → n ≤ 0) : ClP X 82 [.ref 0] (47, g_rho false, σ) (fun v g1 => v = none ∧ ∃ σ', g1 = (47, g_rho false, σ') ∧ (∀ r, r ≠ 30 → σ' r = σ r) ∧ (∀ s, s < 2 ^ T 3 → σ' 30 s = oI (dS (lw T l) (pcs T pr) W (sound T) s))) := by
  refine ClP.of ⟨Nat.le_of_ble_eq_true rfl, rfl⟩ ?_
  show EvP X 82 0 [some (.ref 0), none, none, none, none] [] (47, g_rho false, σ) _
  refine ep_aln t82_0 rfl ?_
  refine ep_getr (q := 7) t82_1 rfl (Nat.le_of_ble_eq_true rfl) rfl (rfl) ?_
  refine ep_cv t82_4 rfl rfl (Nat.le_of_ble_eq_true rfl) (Nat.le_of_ble_eq_true rfl) (cl_Net_all_7 (T := T) hN hw.2.1) ?_
  refine ep_isn (L' := [some (.ref 0), some (.int (nI (2 ^ T 3 - 1))), none, none, none]) t82_7 rfl (Nat.le_of_ble_eq_true rfl) ?_
  refine ep_k1 (w := nI 0) t82_8 rfl ?_
  refine ep_isn (L' := [some (.ref 0), some (.int (nI (2 ^ T 3 - 1))), some (.int (nI 0)), none, none]) t82_9 rfl (Nat.le_of_ble_eq_true rfl) ?_
  refine ep_k1 (w := nI 0) t82_10 rfl ?_
  refine ep_isn (L' := [some (.ref 0), some (.int (nI (2 ^ T 3 - 1))), some (.int (nI 0)), some (.int (nI 0)), none]) t82_11 rfl (Nat.le_of_ble_eq_true rfl) ?_
  exact L_s1_7 hN hw hl e5 e25 hpr (fun σ1 a1 a2 => ⟨rfl, σ1, rfl, a1, a2⟩) 2296 0 σ D 0 _ (by omega) (fun _ _ => rfl) h30 ci (fun t m k a b c e => absurd e (Nat.not_lt_zero m)) h0 (by omega)

theorem aim_ci {T pr : Nat → Nat} {l : Nat} {W : Nat → Prop} : CI (lw T l) (pcs T pr) W (sound T) (2 ^ T 3) (aimD T W) := by
  refine ⟨fun s hs n hn => ?_, fun s hs hd hw => aimD_yes ⟨hw, hd⟩⟩
  by_cases e : W s ∧ sound T s
  · rw [aimD_yes e] at hn
    have := Option.some.inj hn
    subst this
    exact ⟨e.2, Co_zero e.1, by omega⟩
  · rw [aimD_no e] at hn
    cases hn
theorem aim_le {T : Nat → Nat} {W : Nat → Prop} {s n : Nat} (hn : aimD T W s = some n) : n ≤ 0 := by
  by_cases e : W s ∧ sound T s
  · rw [aimD_yes e] at hn
    exact Nat.le_of_eq (Option.some.inj hn).symm
  · rw [aimD_no e] at hn
    cases hn
theorem L_am_7 {X : gX} {σ : gT1} {T pr : Nat → Nat} {l : Nat} {W : Nat → Prop} {set wd dae lit : Nat} {P : Option Value → gS → Prop} (hN : NetC σ 7 T) (hw : WF0 T) (hl : l < 2 ^ T 3) (e5 : σ 0 5 = nI l) (e25 : ∀ i, i < 3 → σ 25 i = nI (pr i)) (hpr : ∀ i, i < 3 → 1 ≤ pr i ∧ pr i ≤ 9) (hb : set < 2147483648 ∧ wd < 2147483648 ∧ dae < 2147483648 ∧ lit < 2147483648) (hW : ∀ s, s < 2 ^ T 3 → sound T s → ((s &&& set = wd ∧ andN (earthM T s) (liveM T s) &&& dae = dae ∧ liveM T s &&& lit = lit) ↔ W s)) (K : ∀ (σ' : gT1), (∀ r, r ≠ 30 → σ' r = σ r) → (∀ s, s < 2 ^ T 3 → σ' 30 s = oI (dS (lw T l) (pcs T pr) W (sound T) s)) → P none (47, g_rho false, σ')) : ∀ (d s : Nat) (σ' : gT1) (o7 o8 : Option Value), s + d = 2 ^ T 3 → (∀ r, r ≠ 30 → σ' r = σ r) → (∀ t, t < s → σ' 30 t = oI ((aimD T W) t)) → EvP X 83 12 [some (.ref 0), some (.int (nI set)), some (.int (nI wd)), some (.int (nI dae)), some (.int (nI lit)), some (.int (nI (2 ^ T 3 - 1))), some (.int (nI s)), o7, o8] [] (47, g_rho false, σ') P
  | 0, s, σ', o7, o8, hk, h1, h2 => by
    obtain rfl : s = 2 ^ T 3 := by omega
    have hN1 : NetC σ' 7 T := by
      unfold NetC at *
      rw [h1 7 (by decide), h1 8 (by decide), h1 9 (by decide), h1 10 (by decide), h1 11 (by decide), h1 12 (by decide), h1 13 (by decide), h1 14 (by decide)]
      exact hN
    refine ep_il t83_12 rfl ?_
    refine ep_il t83_14 rfl ?_
    refine ep_ifP t83_16 (ic_gt (by have hx8 := pow_le_256 hw.2.1; omega) (by have hx8 := pow_le_256 hw.2.1; omega)) (fun (c16 : (2 ^ T 3 - 1) < (2 ^ T 3)) => ?_) (fun (c16 : ¬ ((2 ^ T 3 - 1) < (2 ^ T 3))) => (by have := Nat.two_pow_pos (T 3); omega))
    refine ep_aln t83_112 rfl ?_
    have hci : CI (lw T l) (pcs T pr) W (sound T) (2 ^ T 3) (aimD T W) := aim_ci
    obtain ⟨v9, g9, hm9, rfl, σ2, rfl, b1, b2⟩ := cl_B_spread_7 (X := X) (σ := σ') (l := l) (D := (aimD T W)) hN1 hw hl ((congrFun (h1 0 (by decide)) 5).trans e5) (fun i hi => (congrFun (h1 25 (by decide)) i).trans (e25 i hi)) hpr h2 hci (fun s n hs hn => aim_le hn)
    refine ep_cv t83_113 rfl rfl (Nat.le_of_ble_eq_true rfl) (Nat.le_of_ble_eq_true rfl) (hm9) ?_
    refine ep_rv t83_116 ?_
    exact K σ2 (fun r hr => (b1 r hr).trans (h1 r hr)) b2
  | d + 1, s, σ', o7, o8, hk, h1, h2 => by
    have hs : s < 2 ^ T 3 := by omega
    have hlv := live_lt hw.1 s
    have hea := earth_lt hw.1 s
    have han : andN (earthM T s) (liveM T s) < 64 := andN_le (n := 6) _ _ hea
    have hN1 : NetC σ' 7 T := by
      unfold NetC at *
      rw [h1 7 (by decide), h1 8 (by decide), h1 9 (by decide), h1 10 (by decide), h1 11 (by decide), h1 12 (by decide), h1 13 (by decide), h1 14 (by decide)]
      exact hN
    refine ep_il t83_12 rfl ?_
    refine ep_il t83_14 rfl ?_
    refine ep_ifP t83_16 (ic_gt (by have hx8 := pow_le_256 hw.2.1; have := and_lt (b := set) hs; have := and_lt (b := dae) han; have := and_lt (b := lit) hlv; omega) (by have hx8 := pow_le_256 hw.2.1; have := and_lt (b := set) hs; have := and_lt (b := dae) han; have := and_lt (b := lit) hlv; omega)) (fun (c16 : (2 ^ T 3 - 1) < s) => (by omega)) (fun (c16 : ¬ ((2 ^ T 3 - 1) < s)) => ?_)
    refine ep_aln t83_19 rfl ?_
    refine ep_getr (q := 7) t83_20 rfl (Nat.le_of_ble_eq_true rfl) rfl (rfl) ?_
    refine ep_getr (q := 12) t83_23 rfl (Nat.le_of_ble_eq_true rfl) rfl (rfl) ?_
    refine ep_il t83_26 rfl ?_
    refine ep_aldN t83_28 rfl (Nat.le_of_ble_eq_true rfl) (Nat.ne_of_beq_eq_false rfl) (Nat.le_of_ble_eq_true rfl) (by have hx8 := pow_le_256 hw.2.1; have := and_lt (b := set) hs; have := and_lt (b := dae) han; have := and_lt (b := lit) hlv; omega) ?_
    refine ep_val (b := nI (liveM T s)) ((congrFun (h1 12 (by decide)) s).trans (hN.2.2 s hs).1) ?_
    refine ep_is (L' := [some (.ref 0), some (.int (nI set)), some (.int (nI wd)), some (.int (nI dae)), some (.int (nI lit)), some (.int (nI (2 ^ T 3 - 1))), some (.int (nI s)), some (.int (nI (liveM T s))), o8]) t83_29 rfl (Nat.le_of_ble_eq_true rfl) ?_
    refine ep_il t83_31 rfl ?_
    refine ep_iln t83_33 rfl ?_
    refine ep_andN (a := s) (b := set) t83_34 ?_
    refine ep_iln t83_35 rfl ?_
    refine ep_ifP t83_36 (ic_ne (by have hx8 := pow_le_256 hw.2.1; have := and_lt (b := set) hs; have := and_lt (b := dae) han; have := and_lt (b := lit) hlv; omega) (by have hx8 := pow_le_256 hw.2.1; have := and_lt (b := set) hs; have := and_lt (b := dae) han; have := and_lt (b := lit) hlv; omega)) (fun (c36 : ¬ (s &&& set) = wd) => ?_) (fun (c36 : ¬ (¬ (s &&& set) = wd)) => ?_)
    · refine ep_k1 (w := nI 0) t83_86 rfl ?_
      refine ep_is (L' := [some (.ref 0), some (.int (nI set)), some (.int (nI wd)), some (.int (nI dae)), some (.int (nI lit)), some (.int (nI (2 ^ T 3 - 1))), some (.int (nI s)), some (.int (nI (liveM T s))), some (.int (nI 0))]) t83_87 rfl (Nat.le_of_ble_eq_true rfl) ?_
      refine ep_aln t83_89 rfl ?_
      refine ep_getr (q := 30) t83_90 rfl (Nat.le_of_ble_eq_true rfl) rfl (rfl) ?_
      refine ep_il t83_93 rfl ?_
      refine ep_il t83_95 rfl ?_
      refine ep_if0P t83_97 (ic0_eq (by have hx8 := pow_le_256 hw.2.1; have := and_lt (b := set) hs; have := and_lt (b := dae) han; have := and_lt (b := lit) hlv; omega)) (fun (c97 : 0 = 0) => ?_) (fun (c97 : ¬ (0 = 0)) => (by omega))
      refine ep_k1 (w := (-1)) t83_104 rfl ?_
      refine ep_astN t83_105 rfl (Nat.le_of_ble_eq_true rfl) (Nat.le_of_ble_eq_true rfl) (by have hx8 := pow_le_256 hw.2.1; have := and_lt (b := set) hs; have := and_lt (b := dae) han; have := and_lt (b := lit) hlv; omega) ?_
      refine ep_inc (b := nI (s + 1)) (L' := [some (.ref 0), some (.int (nI set)), some (.int (nI wd)), some (.int (nI dae)), some (.int (nI lit)), some (.int (nI (2 ^ T 3 - 1))), some (.int (nI (s + 1))), some (.int (nI (liveM T s))), some (.int (nI 0))]) t83_106 rfl (nI_add s 1) rfl (Nat.le_of_ble_eq_true rfl) ?_
      refine ep_gt t83_109 ?_
      refine L_am_7 hN hw hl e5 e25 hpr hb hW K d (s + 1) _ _ _ (by omega) (fun r hr => (g_up_ne hr).trans (h1 r hr)) (fun t ht => ?_)
      by_cases e : t = s
      · subst e
        rw [g_up_eq]
        rw [aimD_no (fun hq => by
          have h5 := (hW t hs hq.2).mpr hq.1
          first
          | exact c36 h5.1
          | exact c57 h5.2.1
          | exact c67 h5.2.2
          | exact absurd (show liveM T t &&& earthM T t = 0 from hq.2) (of_decide_eq_false c79))]; rfl
      · rw [g_up_j e]; exact h2 t (by omega)
    · refine ep_aln t83_39 rfl ?_
      refine ep_getr (q := 7) t83_40 rfl (Nat.le_of_ble_eq_true rfl) rfl (rfl) ?_
      refine ep_getr (q := 13) t83_43 rfl (Nat.le_of_ble_eq_true rfl) rfl (rfl) ?_
      refine ep_il t83_46 rfl ?_
      refine ep_aldN t83_48 rfl (Nat.le_of_ble_eq_true rfl) (Nat.ne_of_beq_eq_false rfl) (Nat.le_of_ble_eq_true rfl) (by have hx8 := pow_le_256 hw.2.1; have := and_lt (b := set) hs; have := and_lt (b := dae) han; have := and_lt (b := lit) hlv; omega) ?_
      refine ep_val (b := nI (earthM T s)) ((congrFun (h1 13 (by decide)) s).trans (hN.2.2 s hs).2.1) ?_
      refine ep_il t83_49 rfl ?_
      refine ep_k1 (w := (-1)) t83_51 rfl ?_
      refine ep_xor t83_52 ?_
      refine ep_and t83_53 ?_
      refine ep_val (b := nI (andN (earthM T s) (liveM T s))) (and_notG _ _) ?_
      refine ep_iln t83_54 rfl ?_
      refine ep_andN (a := andN (earthM T s) (liveM T s)) (b := dae) t83_55 ?_
      refine ep_iln t83_56 rfl ?_
      refine ep_ifP t83_57 (ic_ne (by have hx8 := pow_le_256 hw.2.1; have := and_lt (b := set) hs; have := and_lt (b := dae) han; have := and_lt (b := lit) hlv; omega) (by have hx8 := pow_le_256 hw.2.1; have := and_lt (b := set) hs; have := and_lt (b := dae) han; have := and_lt (b := lit) hlv; omega)) (fun (c57 : ¬ ((andN (earthM T s) (liveM T s)) &&& dae) = dae) => ?_) (fun (c57 : ¬ (¬ ((andN (earthM T s) (liveM T s)) &&& dae) = dae)) => ?_)
      · refine ep_k1 (w := nI 0) t83_86 rfl ?_
        refine ep_is (L' := [some (.ref 0), some (.int (nI set)), some (.int (nI wd)), some (.int (nI dae)), some (.int (nI lit)), some (.int (nI (2 ^ T 3 - 1))), some (.int (nI s)), some (.int (nI (liveM T s))), some (.int (nI 0))]) t83_87 rfl (Nat.le_of_ble_eq_true rfl) ?_
        refine ep_aln t83_89 rfl ?_
        refine ep_getr (q := 30) t83_90 rfl (Nat.le_of_ble_eq_true rfl) rfl (rfl) ?_
        refine ep_il t83_93 rfl ?_
        refine ep_il t83_95 rfl ?_
        refine ep_if0P t83_97 (ic0_eq (by have hx8 := pow_le_256 hw.2.1; have := and_lt (b := set) hs; have := and_lt (b := dae) han; have := and_lt (b := lit) hlv; omega)) (fun (c97 : 0 = 0) => ?_) (fun (c97 : ¬ (0 = 0)) => (by omega))
        refine ep_k1 (w := (-1)) t83_104 rfl ?_
        refine ep_astN t83_105 rfl (Nat.le_of_ble_eq_true rfl) (Nat.le_of_ble_eq_true rfl) (by have hx8 := pow_le_256 hw.2.1; have := and_lt (b := set) hs; have := and_lt (b := dae) han; have := and_lt (b := lit) hlv; omega) ?_
        refine ep_inc (b := nI (s + 1)) (L' := [some (.ref 0), some (.int (nI set)), some (.int (nI wd)), some (.int (nI dae)), some (.int (nI lit)), some (.int (nI (2 ^ T 3 - 1))), some (.int (nI (s + 1))), some (.int (nI (liveM T s))), some (.int (nI 0))]) t83_106 rfl (nI_add s 1) rfl (Nat.le_of_ble_eq_true rfl) ?_
        refine ep_gt t83_109 ?_
        refine L_am_7 hN hw hl e5 e25 hpr hb hW K d (s + 1) _ _ _ (by omega) (fun r hr => (g_up_ne hr).trans (h1 r hr)) (fun t ht => ?_)
        by_cases e : t = s
        · subst e
          rw [g_up_eq]
          rw [aimD_no (fun hq => by
            have h5 := (hW t hs hq.2).mpr hq.1
            first
            | exact c36 h5.1
            | exact c57 h5.2.1
            | exact c67 h5.2.2
            | exact absurd (show liveM T t &&& earthM T t = 0 from hq.2) (of_decide_eq_false c79))]; rfl
        · rw [g_up_j e]; exact h2 t (by omega)
      · refine ep_il t83_60 rfl ?_
        refine ep_il t83_62 rfl ?_
        refine ep_andN (a := liveM T s) (b := lit) t83_64 ?_
        refine ep_il t83_65 rfl ?_
        refine ep_ifP t83_67 (ic_ne (by have hx8 := pow_le_256 hw.2.1; have := and_lt (b := set) hs; have := and_lt (b := dae) han; have := and_lt (b := lit) hlv; omega) (by have hx8 := pow_le_256 hw.2.1; have := and_lt (b := set) hs; have := and_lt (b := dae) han; have := and_lt (b := lit) hlv; omega)) (fun (c67 : ¬ ((liveM T s) &&& lit) = lit) => ?_) (fun (c67 : ¬ (¬ ((liveM T s) &&& lit) = lit)) => ?_)
        · refine ep_k1 (w := nI 0) t83_86 rfl ?_
          refine ep_is (L' := [some (.ref 0), some (.int (nI set)), some (.int (nI wd)), some (.int (nI dae)), some (.int (nI lit)), some (.int (nI (2 ^ T 3 - 1))), some (.int (nI s)), some (.int (nI (liveM T s))), some (.int (nI 0))]) t83_87 rfl (Nat.le_of_ble_eq_true rfl) ?_
          refine ep_aln t83_89 rfl ?_
          refine ep_getr (q := 30) t83_90 rfl (Nat.le_of_ble_eq_true rfl) rfl (rfl) ?_
          refine ep_il t83_93 rfl ?_
          refine ep_il t83_95 rfl ?_
          refine ep_if0P t83_97 (ic0_eq (by have hx8 := pow_le_256 hw.2.1; have := and_lt (b := set) hs; have := and_lt (b := dae) han; have := and_lt (b := lit) hlv; omega)) (fun (c97 : 0 = 0) => ?_) (fun (c97 : ¬ (0 = 0)) => (by omega))
          refine ep_k1 (w := (-1)) t83_104 rfl ?_
          refine ep_astN t83_105 rfl (Nat.le_of_ble_eq_true rfl) (Nat.le_of_ble_eq_true rfl) (by have hx8 := pow_le_256 hw.2.1; have := and_lt (b := set) hs; have := and_lt (b := dae) han; have := and_lt (b := lit) hlv; omega) ?_
          refine ep_inc (b := nI (s + 1)) (L' := [some (.ref 0), some (.int (nI set)), some (.int (nI wd)), some (.int (nI dae)), some (.int (nI lit)), some (.int (nI (2 ^ T 3 - 1))), some (.int (nI (s + 1))), some (.int (nI (liveM T s))), some (.int (nI 0))]) t83_106 rfl (nI_add s 1) rfl (Nat.le_of_ble_eq_true rfl) ?_
          refine ep_gt t83_109 ?_
          refine L_am_7 hN hw hl e5 e25 hpr hb hW K d (s + 1) _ _ _ (by omega) (fun r hr => (g_up_ne hr).trans (h1 r hr)) (fun t ht => ?_)
          by_cases e : t = s
          · subst e
            rw [g_up_eq]
            rw [aimD_no (fun hq => by
              have h5 := (hW t hs hq.2).mpr hq.1
              first
              | exact c36 h5.1
              | exact c57 h5.2.1
              | exact c67 h5.2.2
              | exact absurd (show liveM T t &&& earthM T t = 0 from hq.2) (of_decide_eq_false c79))]; rfl
          · rw [g_up_j e]; exact h2 t (by omega)
        · refine ep_aln t83_70 rfl ?_
          refine ep_getr (q := 7) t83_71 rfl (Nat.le_of_ble_eq_true rfl) rfl (rfl) ?_
          refine ep_il t83_74 rfl ?_
          refine ep_cv t83_76 rfl rfl (Nat.le_of_ble_eq_true rfl) (Nat.le_of_ble_eq_true rfl) (cl_Net_sound_7 (T := T) hN1 hw.1 hw.2.1 hs) ?_
          refine ep_bF t83_79 (fun (c79 : (decide (liveM T s &&& earthM T s = 0)) = false) => ?_) (fun (c79 : (decide (liveM T s &&& earthM T s = 0)) = true) => ?_)
          · refine ep_k1 (w := nI 0) t83_86 rfl ?_
            refine ep_is (L' := [some (.ref 0), some (.int (nI set)), some (.int (nI wd)), some (.int (nI dae)), some (.int (nI lit)), some (.int (nI (2 ^ T 3 - 1))), some (.int (nI s)), some (.int (nI (liveM T s))), some (.int (nI 0))]) t83_87 rfl (Nat.le_of_ble_eq_true rfl) ?_
            refine ep_aln t83_89 rfl ?_
            refine ep_getr (q := 30) t83_90 rfl (Nat.le_of_ble_eq_true rfl) rfl (rfl) ?_
            refine ep_il t83_93 rfl ?_
            refine ep_il t83_95 rfl ?_
            refine ep_if0P t83_97 (ic0_eq (by have hx8 := pow_le_256 hw.2.1; have := and_lt (b := set) hs; have := and_lt (b := dae) han; have := and_lt (b := lit) hlv; omega)) (fun (c97 : 0 = 0) => ?_) (fun (c97 : ¬ (0 = 0)) => (by omega))
            refine ep_k1 (w := (-1)) t83_104 rfl ?_
            refine ep_astN t83_105 rfl (Nat.le_of_ble_eq_true rfl) (Nat.le_of_ble_eq_true rfl) (by have hx8 := pow_le_256 hw.2.1; have := and_lt (b := set) hs; have := and_lt (b := dae) han; have := and_lt (b := lit) hlv; omega) ?_
            refine ep_inc (b := nI (s + 1)) (L' := [some (.ref 0), some (.int (nI set)), some (.int (nI wd)), some (.int (nI dae)), some (.int (nI lit)), some (.int (nI (2 ^ T 3 - 1))), some (.int (nI (s + 1))), some (.int (nI (liveM T s))), some (.int (nI 0))]) t83_106 rfl (nI_add s 1) rfl (Nat.le_of_ble_eq_true rfl) ?_
            refine ep_gt t83_109 ?_
            refine L_am_7 hN hw hl e5 e25 hpr hb hW K d (s + 1) _ _ _ (by omega) (fun r hr => (g_up_ne hr).trans (h1 r hr)) (fun t ht => ?_)
            by_cases e : t = s
            · subst e
              rw [g_up_eq]
              rw [aimD_no (fun hq => by
                have h5 := (hW t hs hq.2).mpr hq.1
                first
                | exact c36 h5.1
                | exact c57 h5.2.1
                | exact c67 h5.2.2
                | exact absurd (show liveM T t &&& earthM T t = 0 from hq.2) (of_decide_eq_false c79))]; rfl
            · rw [g_up_j e]; exact h2 t (by omega)
          · have h79 : sound T s := by have h9 : liveM T s &&& earthM T s = 0 := of_decide_eq_true c79; exact h9
            refine ep_k1 (w := nI 1) t83_82 rfl ?_
            refine ep_gt t83_83 ?_
            refine ep_is (L' := [some (.ref 0), some (.int (nI set)), some (.int (nI wd)), some (.int (nI dae)), some (.int (nI lit)), some (.int (nI (2 ^ T 3 - 1))), some (.int (nI s)), some (.int (nI (liveM T s))), some (.int (nI 1))]) t83_87 rfl (Nat.le_of_ble_eq_true rfl) ?_
            refine ep_aln t83_89 rfl ?_
            refine ep_getr (q := 30) t83_90 rfl (Nat.le_of_ble_eq_true rfl) rfl (rfl) ?_
            refine ep_il t83_93 rfl ?_
            refine ep_il t83_95 rfl ?_
            refine ep_if0P t83_97 (ic0_eq (by have hx8 := pow_le_256 hw.2.1; have := and_lt (b := set) hs; have := and_lt (b := dae) han; have := and_lt (b := lit) hlv; omega)) (fun (c97 : 1 = 0) => (by omega)) (fun (c97 : ¬ (1 = 0)) => ?_)
            refine ep_k1 (w := nI 0) t83_100 rfl ?_
            refine ep_gt t83_101 ?_
            refine ep_astN t83_105 rfl (Nat.le_of_ble_eq_true rfl) (Nat.le_of_ble_eq_true rfl) (by have hx8 := pow_le_256 hw.2.1; have := and_lt (b := set) hs; have := and_lt (b := dae) han; have := and_lt (b := lit) hlv; omega) ?_
            refine ep_inc (b := nI (s + 1)) (L' := [some (.ref 0), some (.int (nI set)), some (.int (nI wd)), some (.int (nI dae)), some (.int (nI lit)), some (.int (nI (2 ^ T 3 - 1))), some (.int (nI (s + 1))), some (.int (nI (liveM T s))), some (.int (nI 1))]) t83_106 rfl (nI_add s 1) rfl (Nat.le_of_ble_eq_true rfl) ?_
            refine ep_gt t83_109 ?_
            refine L_am_7 hN hw hl e5 e25 hpr hb hW K d (s + 1) _ _ _ (by omega) (fun r hr => (g_up_ne hr).trans (h1 r hr)) (fun t ht => ?_)
            by_cases e : t = s
            · subst e
              rw [g_up_eq]
              rw [aimD_yes ⟨(hW t hs h79).mp ⟨Classical.byContradiction c36, Classical.byContradiction c57, Classical.byContradiction c67⟩, h79⟩]; rfl
            · rw [g_up_j e]; exact h2 t (by omega)
theorem cl_B_aim_7 {X : gX} {σ : gT1} {T pr : Nat → Nat} {l : Nat} {W : Nat → Prop} {set wd dae lit : Nat} (hN : NetC σ 7 T) (hw : WF0 T) (hl : l < 2 ^ T 3) (e5 : σ 0 5 = nI l) (e25 : ∀ i, i < 3 → σ 25 i = nI (pr i)) (hpr : ∀ i, i < 3 → 1 ≤ pr i ∧ pr i ≤ 9) (hb : set < 2147483648 ∧ wd < 2147483648 ∧ dae < 2147483648 ∧ lit < 2147483648) (hW : ∀ s, s < 2 ^ T 3 → sound T s → ((s &&& set = wd ∧ andN (earthM T s) (liveM T s) &&& dae = dae ∧ liveM T s &&& lit = lit) ↔ W s))  : ClP X 83 [.ref 0, .int (nI set), .int (nI wd), .int (nI dae), .int (nI lit)] (47, g_rho false, σ) (fun v g1 => v = none ∧ ∃ σ', g1 = (47, g_rho false, σ') ∧ (∀ r, r ≠ 30 → σ' r = σ r) ∧ (∀ s, s < 2 ^ T 3 → σ' 30 s = oI (dS (lw T l) (pcs T pr) W (sound T) s))) := by
  refine ClP.of ⟨Nat.le_of_ble_eq_true rfl, rfl⟩ ?_
  show EvP X 83 0 [some (.ref 0), some (.int (nI set)), some (.int (nI wd)), some (.int (nI dae)), some (.int (nI lit)), none, none, none, none] [] (47, g_rho false, σ) _
  refine ep_aln t83_0 rfl ?_
  refine ep_getr (q := 7) t83_1 rfl (Nat.le_of_ble_eq_true rfl) rfl (rfl) ?_
  refine ep_cv t83_4 rfl rfl (Nat.le_of_ble_eq_true rfl) (Nat.le_of_ble_eq_true rfl) (cl_Net_all_7 (T := T) hN hw.2.1) ?_
  refine ep_is (L' := [some (.ref 0), some (.int (nI set)), some (.int (nI wd)), some (.int (nI dae)), some (.int (nI lit)), some (.int (nI (2 ^ T 3 - 1))), none, none, none]) t83_7 rfl (Nat.le_of_ble_eq_true rfl) ?_
  refine ep_k1 (w := nI 0) t83_9 rfl ?_
  refine ep_is (L' := [some (.ref 0), some (.int (nI set)), some (.int (nI wd)), some (.int (nI dae)), some (.int (nI lit)), some (.int (nI (2 ^ T 3 - 1))), some (.int (nI 0)), none, none]) t83_10 rfl (Nat.le_of_ble_eq_true rfl) ?_
  exact L_am_7 hN hw hl e5 e25 hpr hb hW (fun σ1 a1 a2 => ⟨rfl, σ1, rfl, a1, a2⟩) (2 ^ T 3) 0 σ _ _ (by omega) (fun _ _ => rfl) (fun t ht => absurd ht (Nat.not_lt_zero t))

theorem cl_Net_all_16 {X : gX} {q : Bool} {σ : gT1} {T : Nat → Nat} (hN : NetC σ 16 T) (h3 : T 3 ≤ 8) : Cl X 35 [.ref 16] (47, g_rho q, σ) (some (.int (nI (2 ^ T 3 - 1)))) (47, g_rho q, σ) := by
  refine Cl.of ⟨Nat.le_of_ble_eq_true rfl, rfl⟩ ?_
  show EvP X 35 0 [some (.ref 16)] [] (47, g_rho q, σ) _
  refine ep_k1 (w := nI 1) t35_0 rfl ?_
  refine ep_aln t35_1 rfl ?_
  refine ep_get t35_2 rfl (Nat.le_of_ble_eq_true rfl) rfl ?_
  refine ep_val (b := nI (T 3)) (hN.1 3 (by decide)) ?_
  refine ep_oneN (b := T 3) t35_5 (by have := Nat.two_pow_pos (T 3); omega) ?_
  refine ep_k1 (w := nI 1) t35_6 rfl ?_
  refine ep_subN (a := 2 ^ (T 3)) (b := 1) t35_7 (by have := Nat.two_pow_pos (T 3); omega) ?_
  refine ep_ri t35_8 (fun h => absurd h (by decide)) ?_
  exact ⟨rfl, rfl⟩

theorem L_sf_16 {X : gX} {σ : gT1} {T pr : Nat → Nat} {l : Nat} {W : Nat → Prop} {j x de : Nat} {P : Option Value → gS → Prop} (hN : NetC σ 16 T) (hw : WF0 T) (hl : l < 2 ^ T 3) (e5 : σ 0 5 = nI l) (e25 : ∀ i, i < 3 → σ 25 i = nI (pr i)) (hpr : ∀ i, i < 3 → 1 ≤ pr i ∧ pr i ≤ 9) (hj : j < 2 ^ T 3) (hsd : sound T j) (hic : IsC (lw T l) (pcs T pr) W j x) (hx : x ≤ 2295) (K : ∀ (σ' : gT1) (D : Nat → Option Nat) (dd : Nat), (∀ r, r ≠ 30 → σ' r = σ r) → (∀ s, s < 2 ^ T 3 → σ' 30 s = oI (D s)) → CI (lw T l) (pcs T pr) W (sound T) (2 ^ T 3) D → CR (lw T l) (pcs T pr) W (sound T) (2 ^ T 3) D x → CP (lw T l) (pcs T pr) W (sound T) D x j → CQ (lw T l) (pcs T pr) D x j (T 3) → (∀ s n, s < 2 ^ T 3 → D s = some n → n ≤ dd ∨ n ≤ de) → dd ≤ 2304 → P (some (.int (nI dd))) (47, g_rho true, σ')) : ∀ (d k : Nat) (σ' : gT1) (D : Nat → Option Nat) (dd : Nat) (o4 o5 : Option Value), k + d = T 3 → (∀ r, r ≠ 30 → σ' r = σ r) → (∀ s, s < 2 ^ T 3 → σ' 30 s = oI (D s)) → CI (lw T l) (pcs T pr) W (sound T) (2 ^ T 3) D → CR (lw T l) (pcs T pr) W (sound T) (2 ^ T 3) D x → CP (lw T l) (pcs T pr) W (sound T) D x j → CQ (lw T l) (pcs T pr) D x j k → (∀ s n, s < 2 ^ T 3 → D s = some n → n ≤ dd ∨ n ≤ de) → dd ≤ 2304 → EvP X 81 4 [some (.ref 0), some (.int (nI j)), some (.int (nI dd)), some (.int (nI k)), o4, o5] [] (47, g_rho true, σ') P
  | 0, k, σ', D, dd, o4, o5, hk, h1, h30, ci, cr, cp, cq, hb, hdd => by
    obtain rfl : k = T 3 := by omega
    have h38 := hw.2.1
    refine ep_iln t81_4 rfl ?_
    refine ep_aln t81_5 rfl ?_
    refine ep_getr (q := 16) t81_6 rfl (Nat.le_of_ble_eq_true rfl) rfl (rfl) ?_
    refine ep_get t81_9 rfl (Nat.le_of_ble_eq_true rfl) rfl ?_
    refine ep_val (b := nI (T 3)) ((congrFun (h1 16 (by decide)) 3).trans (hN.1 3 (by decide))) ?_
    refine ep_ifP t81_12 (ic_ge (by omega) (by omega)) (fun (c12 : (T 3) ≤ (T 3)) => ?_) (fun (c12 : ¬ ((T 3) ≤ (T 3))) => (by exact absurd (Nat.le_refl _) c12))
    refine ep_iln t81_117 rfl ?_
    refine ep_ri t81_118 (fun h => absurd h (by decide)) ?_
    exact K σ' D dd h1 h30 ci cr cp cq hb hdd
  | d + 1, k, σ', D, dd, o4, o5, hk, h1, h30, ci, cr, cp, cq, hb, hdd => by
    have hk3 : k < T 3 := by omega
    have h38 := hw.2.1
    have hx8 := pow_le_256 h38
    have hN1 : NetC σ' 16 T := by
      unfold NetC at *
      rw [h1 16 (by decide), h1 17 (by decide), h1 18 (by decide), h1 19 (by decide), h1 20 (by decide), h1 21 (by decide), h1 22 (by decide), h1 23 (by decide)]
      exact hN
    have hDj : D j = some x := settle (lw_p hw hpr) lw_N lw_sd lw_sy ci cr hj hsd hic (Nat.le_refl _)
    refine ep_iln t81_4 rfl ?_
    refine ep_aln t81_5 rfl ?_
    refine ep_getr (q := 16) t81_6 rfl (Nat.le_of_ble_eq_true rfl) rfl (rfl) ?_
    refine ep_get t81_9 rfl (Nat.le_of_ble_eq_true rfl) rfl ?_
    refine ep_val (b := nI (T 3)) ((congrFun (h1 16 (by decide)) 3).trans (hN.1 3 (by decide))) ?_
    refine ep_ifP t81_12 (ic_ge (by have hx8 := pow_le_256 hw.2.1; have hy8 := why2_le T j k; omega) (by have hx8 := pow_le_256 hw.2.1; have hy8 := why2_le T j k; omega)) (fun (c12 : (T 3) ≤ k) => (by omega)) (fun (c12 : ¬ ((T 3) ≤ k)) => ?_)
    refine ep_aln t81_15 rfl ?_
    refine ep_get t81_16 rfl (Nat.le_of_ble_eq_true rfl) rfl ?_
    refine ep_val (b := nI l) ((congrFun (h1 0 (by decide)) 5).trans e5) ?_
    refine ep_iln t81_19 rfl ?_
    refine ep_cs t81_20 (Nat.ne_of_beq_eq_false rfl) rfl (Nat.le_of_ble_eq_true rfl) (cl_B_bit (by omega) (by omega)) ?_
    refine ep_k1 (w := nI 1) t81_23 rfl ?_
    refine ep_b1e t81_24 (fun (c24 : (Nat.testBit l k) = true) => ?_) (fun (c24 : (Nat.testBit l k) = false) => ?_)
    · have hnok : ¬ lw T l j k := fun hq => by
        have hz := hq.2
        rw [why_eq hk3] at hz
        first
        | (rw [if_pos c24] at hz; exact absurd hz (by decide))
        | (rw [if_neg (by rw [c24]; decide)] at hz; exact c36 hz)
      refine ep_inc (b := nI (k + 1)) (L' := [some (.ref 0), some (.int (nI j)), some (.int (nI dd)), some (.int (nI (k + 1))), o4, o5]) t81_111 rfl (nI_add k 1) rfl (Nat.le_of_ble_eq_true rfl) ?_
      refine ep_gt t81_114 ?_
      refine L_sf_16 hN hw hl e5 e25 hpr hj hsd hic hx K d (k + 1) σ' D dd _ _ (by omega) h1 h30 ci cr cp (fun k' hk' ho => ?_) hb hdd
      by_cases e : k' = k
      · subst e
        first
        | exact absurd ho hnok
        | exact ⟨_, hDn, by omega⟩
      · exact cq k' (by omega) ho
    · refine ep_aln t81_27 rfl ?_
      refine ep_getr (q := 16) t81_28 rfl (Nat.le_of_ble_eq_true rfl) rfl (rfl) ?_
      refine ep_iln t81_31 rfl ?_
      refine ep_iln t81_32 rfl ?_
      refine ep_cv t81_33 rfl rfl (Nat.le_of_ble_eq_true rfl) (Nat.le_of_ble_eq_true rfl) (cl_Net_whyNot_16 (T := T) hN1 hw.1 hw.2.1 hj hk3) ?_
      refine ep_if0P t81_36 (ic0_eq (by have hx8 := pow_le_256 hw.2.1; have hy8 := why2_le T j k; omega)) (fun (c36 : (why2 T j k) = 0) => ?_) (fun (c36 : ¬ ((why2 T j k) = 0)) => ?_)
      · have hok : lw T l j k := ⟨hk3, by rw [why_eq hk3, if_neg (by rw [c24]; decide)]; exact c36⟩
        have hjk := xor_lt hj hk3
        have hpk := lw_p hw hpr j k hok
        have hkd := hw.2.2.2 k hk3
        refine ep_iln t81_42 rfl ?_
        refine ep_k1 (w := nI 1) t81_43 rfl ?_
        refine ep_iln t81_44 rfl ?_
        refine ep_oneN (b := k) t81_45 (by have hx8 := pow_le_256 hw.2.1; have hy8 := why2_le T j k; omega) ?_
        refine ep_xorN (a := j) (b := 2 ^ k) t81_46 ?_
        refine ep_is (L' := [some (.ref 0), some (.int (nI j)), some (.int (nI dd)), some (.int (nI k)), some (.int (nI (j ^^^ (2 ^ k)))), o5]) t81_47 rfl (Nat.le_of_ble_eq_true rfl) ?_
        refine ep_aln t81_49 rfl ?_
        refine ep_getr (q := 30) t81_50 rfl (Nat.le_of_ble_eq_true rfl) rfl (rfl) ?_
        refine ep_iln t81_53 rfl ?_
        refine ep_aldN t81_54 rfl (Nat.le_of_ble_eq_true rfl) (Nat.ne_of_beq_eq_false rfl) (Nat.le_of_ble_eq_true rfl) (by have hx8 := pow_le_256 hw.2.1; have hy8 := why2_le T j k; omega) ?_
        refine ep_val (b := nI x) ((h30 j hj).trans (by rw [hDj]; rfl)) ?_
        refine ep_aln t81_55 rfl ?_
        refine ep_getr (q := 25) t81_56 rfl (Nat.le_of_ble_eq_true rfl) rfl (rfl) ?_
        refine ep_aln t81_59 rfl ?_
        refine ep_getr (q := 16) t81_60 rfl (Nat.le_of_ble_eq_true rfl) rfl (rfl) ?_
        refine ep_getr (q := 17) t81_63 rfl (Nat.le_of_ble_eq_true rfl) rfl (rfl) ?_
        refine ep_iln t81_66 rfl ?_
        refine ep_aldN t81_67 rfl (Nat.le_of_ble_eq_true rfl) (Nat.ne_of_beq_eq_false rfl) (Nat.le_of_ble_eq_true rfl) (by have hx8 := pow_le_256 hw.2.1; have hy8 := why2_le T j k; omega) ?_
        refine ep_val (b := nI (T (4 + k))) ((congrFun (h1 17 (by decide)) k).trans (hN.2.1 k hk3).1) ?_
        refine ep_aldN t81_68 rfl (Nat.le_of_ble_eq_true rfl) (Nat.ne_of_beq_eq_false rfl) (Nat.le_of_ble_eq_true rfl) (by have hx8 := pow_le_256 hw.2.1; have hy8 := why2_le T j k; omega) ?_
        refine ep_val (b := nI (pcs T pr k)) ((congrFun (h1 25 (by decide)) _).trans (e25 _ (hw.2.2.2 k hk3))) ?_
        refine ep_addN (a := x) (b := pcs T pr k) t81_69 ?_
        refine ep_is (L' := [some (.ref 0), some (.int (nI j)), some (.int (nI dd)), some (.int (nI k)), some (.int (nI (j ^^^ (2 ^ k)))), some (.int (nI (x + (pcs T pr k))))]) t81_70 rfl (Nat.le_of_ble_eq_true rfl) ?_
        cases hDn : D (j ^^^ 2 ^ k) with
        | none =>
          refine ep_aln t81_72 rfl ?_
          refine ep_getr (q := 30) t81_73 rfl (Nat.le_of_ble_eq_true rfl) rfl (rfl) ?_
          refine ep_il t81_76 rfl ?_
          refine ep_aldN t81_78 rfl (Nat.le_of_ble_eq_true rfl) (Nat.ne_of_beq_eq_false rfl) (Nat.le_of_ble_eq_true rfl) (by have hx8 := pow_le_256 hw.2.1; omega) ?_
          refine ep_val (b := (-1 : Int32)) ((h30 _ hjk).trans (by rw [hDn]; rfl)) ?_
          refine ep_k1 (w := (-1)) t81_79 rfl ?_
          refine ep_if t81_80 (fun (c80 : ((-1 : Int32)) = ((-1))) => ?_) (fun (c80 : ¬ (((-1 : Int32)) = ((-1)))) => (by exact absurd rfl c80))
          refine ep_aln t81_95 rfl ?_
          refine ep_getr (q := 30) t81_96 rfl (Nat.le_of_ble_eq_true rfl) rfl (rfl) ?_
          refine ep_il t81_99 rfl ?_
          refine ep_il t81_101 rfl ?_
          refine ep_astN t81_103 rfl (Nat.le_of_ble_eq_true rfl) (Nat.le_of_ble_eq_true rfl) (by have hx8 := pow_le_256 hw.2.1; omega) ?_
          refine ep_iln t81_104 rfl ?_
          refine ep_il t81_105 rfl ?_
          refine ep_max (a := dd) (b := x + (pcs T pr k)) t81_107 (by have hx8 := pow_le_256 hw.2.1; omega) (by have hx8 := pow_le_256 hw.2.1; omega) (Nat.le_of_ble_eq_true rfl) ?_
          refine ep_isn (L' := [some (.ref 0), some (.int (nI j)), some (.int (nI (max dd (x + (pcs T pr k))))), some (.int (nI k)), some (.int (nI (j ^^^ (2 ^ k)))), some (.int (nI (x + (pcs T pr k))))]) t81_110 rfl (Nat.le_of_ble_eq_true rfl) ?_
          refine ep_inc (b := nI (k + 1)) (L' := [some (.ref 0), some (.int (nI j)), some (.int (nI (max dd (x + (pcs T pr k))))), some (.int (nI (k + 1))), some (.int (nI (j ^^^ (2 ^ k)))), some (.int (nI (x + (pcs T pr k))))]) t81_111 rfl (nI_add k 1) rfl (Nat.le_of_ble_eq_true rfl) ?_
          refine ep_gt t81_114 ?_
          have hcond : D (j ^^^ 2 ^ k) = none ∨ ∃ n, D (j ^^^ 2 ^ k) = some n ∧ x + pcs T pr k < n := by first | exact Or.inl hDn | exact Or.inr ⟨_, hDn, by omega⟩
          have hrl := updO_rlx hcond
          refine L_sf_16 hN hw hl e5 e25 hpr hj hsd hic hx K d (k + 1) _ (updO D (j ^^^ 2 ^ k) (x + pcs T pr k)) _ _ _ (by omega) (fun r hr => (g_up_ne hr).trans (h1 r hr)) (fun s hs => ?_) (CI.upd lw_sy lw_sd ci hsd hic.1 hok (by omega) hcond) (cr.rlx hrl) (cp.rlx hrl) (fun k' hk' ho => ?_) (fun s n hs hD => ?_) (by omega)
          · by_cases e : s = j ^^^ 2 ^ k
            · subst e; rw [g_up_eq]; unfold updO; rw [if_pos rfl]; rfl
            · rw [g_up_j e, h30 s hs]; unfold updO; rw [if_neg e]
          · by_cases e : k' = k
            · subst e; exact ⟨_, if_pos rfl, Nat.le_refl _⟩
            · exact cq.rlx hrl k' (by omega) ho
          · unfold updO at hD
            by_cases e : s = j ^^^ 2 ^ k
            · rw [if_pos e] at hD
              have := Option.some.inj hD
              omega
            · rw [if_neg e] at hD
              have := hb s n hs hD
              omega
        | some n =>
          have hn4 := (ci.1 _ hjk n hDn).2.2
          refine ep_aln t81_72 rfl ?_
          refine ep_getr (q := 30) t81_73 rfl (Nat.le_of_ble_eq_true rfl) rfl (rfl) ?_
          refine ep_il t81_76 rfl ?_
          refine ep_aldN t81_78 rfl (Nat.le_of_ble_eq_true rfl) (Nat.ne_of_beq_eq_false rfl) (Nat.le_of_ble_eq_true rfl) (by have hx8 := pow_le_256 hw.2.1; omega) ?_
          refine ep_val (b := nI n) ((h30 _ hjk).trans (by rw [hDn]; rfl)) ?_
          refine ep_k1 (w := (-1)) t81_79 rfl ?_
          refine ep_if t81_80 (fun (c80 : (nI n) = ((-1))) => (by exact absurd c80 (nI_m1 (by omega)))) (fun (c80 : ¬ ((nI n) = ((-1)))) => ?_)
          refine ep_aln t81_83 rfl ?_
          refine ep_getr (q := 30) t81_84 rfl (Nat.le_of_ble_eq_true rfl) rfl (rfl) ?_
          refine ep_il t81_87 rfl ?_
          refine ep_aldN t81_89 rfl (Nat.le_of_ble_eq_true rfl) (Nat.ne_of_beq_eq_false rfl) (Nat.le_of_ble_eq_true rfl) (by have hx8 := pow_le_256 hw.2.1; omega) ?_
          refine ep_val (b := nI n) ((h30 _ hjk).trans (by rw [hDn]; rfl)) ?_
          refine ep_il t81_90 rfl ?_
          refine ep_ifP t81_92 (ic_le (by have hx8 := pow_le_256 hw.2.1; omega) (by have hx8 := pow_le_256 hw.2.1; omega)) (fun (c92 : n ≤ (x + (pcs T pr k))) => ?_) (fun (c92 : ¬ (n ≤ (x + (pcs T pr k)))) => ?_)
          · refine ep_inc (b := nI (k + 1)) (L' := [some (.ref 0), some (.int (nI j)), some (.int (nI dd)), some (.int (nI (k + 1))), some (.int (nI (j ^^^ (2 ^ k)))), some (.int (nI (x + (pcs T pr k))))]) t81_111 rfl (nI_add k 1) rfl (Nat.le_of_ble_eq_true rfl) ?_
            refine ep_gt t81_114 ?_
            refine L_sf_16 hN hw hl e5 e25 hpr hj hsd hic hx K d (k + 1) σ' D dd _ _ (by omega) h1 h30 ci cr cp (fun k' hk' ho => ?_) hb hdd
            by_cases e : k' = k
            · subst e
              first
              | exact absurd ho hnok
              | exact ⟨_, hDn, by omega⟩
            · exact cq k' (by omega) ho
          · refine ep_aln t81_95 rfl ?_
            refine ep_getr (q := 30) t81_96 rfl (Nat.le_of_ble_eq_true rfl) rfl (rfl) ?_
            refine ep_il t81_99 rfl ?_
            refine ep_il t81_101 rfl ?_
            refine ep_astN t81_103 rfl (Nat.le_of_ble_eq_true rfl) (Nat.le_of_ble_eq_true rfl) (by have hx8 := pow_le_256 hw.2.1; omega) ?_
            refine ep_iln t81_104 rfl ?_
            refine ep_il t81_105 rfl ?_
            refine ep_max (a := dd) (b := x + (pcs T pr k)) t81_107 (by have hx8 := pow_le_256 hw.2.1; omega) (by have hx8 := pow_le_256 hw.2.1; omega) (Nat.le_of_ble_eq_true rfl) ?_
            refine ep_isn (L' := [some (.ref 0), some (.int (nI j)), some (.int (nI (max dd (x + (pcs T pr k))))), some (.int (nI k)), some (.int (nI (j ^^^ (2 ^ k)))), some (.int (nI (x + (pcs T pr k))))]) t81_110 rfl (Nat.le_of_ble_eq_true rfl) ?_
            refine ep_inc (b := nI (k + 1)) (L' := [some (.ref 0), some (.int (nI j)), some (.int (nI (max dd (x + (pcs T pr k))))), some (.int (nI (k + 1))), some (.int (nI (j ^^^ (2 ^ k)))), some (.int (nI (x + (pcs T pr k))))]) t81_111 rfl (nI_add k 1) rfl (Nat.le_of_ble_eq_true rfl) ?_
            refine ep_gt t81_114 ?_
            have hcond : D (j ^^^ 2 ^ k) = none ∨ ∃ n, D (j ^^^ 2 ^ k) = some n ∧ x + pcs T pr k < n := by first | exact Or.inl hDn | exact Or.inr ⟨_, hDn, by omega⟩
            have hrl := updO_rlx hcond
            refine L_sf_16 hN hw hl e5 e25 hpr hj hsd hic hx K d (k + 1) _ (updO D (j ^^^ 2 ^ k) (x + pcs T pr k)) _ _ _ (by omega) (fun r hr => (g_up_ne hr).trans (h1 r hr)) (fun s hs => ?_) (CI.upd lw_sy lw_sd ci hsd hic.1 hok (by omega) hcond) (cr.rlx hrl) (cp.rlx hrl) (fun k' hk' ho => ?_) (fun s n hs hD => ?_) (by omega)
            · by_cases e : s = j ^^^ 2 ^ k
              · subst e; rw [g_up_eq]; unfold updO; rw [if_pos rfl]; rfl
              · rw [g_up_j e, h30 s hs]; unfold updO; rw [if_neg e]
            · by_cases e : k' = k
              · subst e; exact ⟨_, if_pos rfl, Nat.le_refl _⟩
              · exact cq.rlx hrl k' (by omega) ho
            · unfold updO at hD
              by_cases e : s = j ^^^ 2 ^ k
              · rw [if_pos e] at hD
                have := Option.some.inj hD
                omega
              · rw [if_neg e] at hD
                have := hb s n hs hD
                omega
      · refine ep_gt t81_39 ?_
        have hnok : ¬ lw T l j k := fun hq => by
          have hz := hq.2
          rw [why_eq hk3] at hz
          first
          | (rw [if_pos c24] at hz; exact absurd hz (by decide))
          | (rw [if_neg (by rw [c24]; decide)] at hz; exact c36 hz)
        refine ep_inc (b := nI (k + 1)) (L' := [some (.ref 0), some (.int (nI j)), some (.int (nI dd)), some (.int (nI (k + 1))), o4, o5]) t81_111 rfl (nI_add k 1) rfl (Nat.le_of_ble_eq_true rfl) ?_
        refine ep_gt t81_114 ?_
        refine L_sf_16 hN hw hl e5 e25 hpr hj hsd hic hx K d (k + 1) σ' D dd _ _ (by omega) h1 h30 ci cr cp (fun k' hk' ho => ?_) hb hdd
        by_cases e : k' = k
        · subst e
          first
          | exact absurd ho hnok
          | exact ⟨_, hDn, by omega⟩
        · exact cq k' (by omega) ho
theorem cl_B_spreadFrom_16 {X : gX} {σ : gT1} {T pr : Nat → Nat} {l : Nat} {W : Nat → Prop} {j x de : Nat} {D : Nat → Option Nat} (hN : NetC σ 16 T) (hw : WF0 T) (hl : l < 2 ^ T 3) (e5 : σ 0 5 = nI l) (e25 : ∀ i, i < 3 → σ 25 i = nI (pr i)) (hpr : ∀ i, i < 3 → 1 ≤ pr i ∧ pr i ≤ 9) (hj : j < 2 ^ T 3) (hsd : sound T j) (hic : IsC (lw T l) (pcs T pr) W j x) (hx : x ≤ 2295) (h30 : ∀ s, s < 2 ^ T 3 → σ 30 s = oI (D s)) (ci : CI (lw T l) (pcs T pr) W (sound T) (2 ^ T 3) D) (cr : CR (lw T l) (pcs T pr) W (sound T) (2 ^ T 3) D x) (cp : CP (lw T l) (pcs T pr) W (sound T) D x j) (hb : ∀ s n, s < 2 ^ T 3 → D s = some n → n ≤ de)  : ClP X 81 [.ref 0, .int (nI j)] (47, g_rho true, σ) (fun v g1 => ∃ σ' D dd, v = some (.int (nI dd)) ∧ g1 = (47, g_rho true, σ') ∧ (∀ r, r ≠ 30 → σ' r = σ r) ∧ (∀ s, s < 2 ^ T 3 → σ' 30 s = oI (D s)) ∧ CI (lw T l) (pcs T pr) W (sound T) (2 ^ T 3) D ∧ CR (lw T l) (pcs T pr) W (sound T) (2 ^ T 3) D x ∧ CP (lw T l) (pcs T pr) W (sound T) D x j ∧ CQ (lw T l) (pcs T pr) D x j (T 3) ∧ (∀ s n, s < 2 ^ T 3 → D s = some n → n ≤ dd ∨ n ≤ de) ∧ dd ≤ 2304) := by
  refine ClP.of ⟨Nat.le_of_ble_eq_true rfl, rfl⟩ ?_
  show EvP X 81 0 [some (.ref 0), some (.int (nI j)), none, none, none, none] [] (47, g_rho true, σ) _
  refine ep_k1 (w := nI 0) t81_0 rfl ?_
  refine ep_isn (L' := [some (.ref 0), some (.int (nI j)), some (.int (nI 0)), none, none, none]) t81_1 rfl (Nat.le_of_ble_eq_true rfl) ?_
  refine ep_k1 (w := nI 0) t81_2 rfl ?_
  refine ep_isn (L' := [some (.ref 0), some (.int (nI j)), some (.int (nI 0)), some (.int (nI 0)), none, none]) t81_3 rfl (Nat.le_of_ble_eq_true rfl) ?_
  exact L_sf_16 (de := de) hN hw hl e5 e25 hpr hj hsd hic hx (fun σ1 D1 dd a1 a2 a3 a4 a5 a6 a7 a8 => ⟨σ1, D1, dd, rfl, rfl, a1, a2, a3, a4, a5, a6, a7, a8⟩) (T 3) 0 σ D 0 _ _ (by omega) (fun _ _ => rfl) h30 ci cr cp (fun k' hk' => absurd hk' (Nat.not_lt_zero k')) (fun s n hs hD => Or.inr (hb s n hs hD)) (by omega)

theorem L_s2_16 {X : gX} {x : Nat} {σ : gT1} {T pr : Nat → Nat} {l : Nat} {W : Nat → Prop} {P : Option Value → gS → Prop} (hN : NetC σ 16 T) (hw : WF0 T) (hl : l < 2 ^ T 3) (e5 : σ 0 5 = nI l) (e25 : ∀ i, i < 3 → σ 25 i = nI (pr i)) (hpr : ∀ i, i < 3 → 1 ≤ pr i ∧ pr i ≤ 9) (hx : x ≤ 2295) (K : ∀ (σ' : gT1) (D : Nat → Option Nat) (de : Nat), (∀ r, r ≠ 30 → σ' r = σ r) → (∀ s, s < 2 ^ T 3 → σ' 30 s = oI (D s)) → CI (lw T l) (pcs T pr) W (sound T) (2 ^ T 3) D → CR (lw T l) (pcs T pr) W (sound T) (2 ^ T 3) D (x + 1) → (∀ s n, s < 2 ^ T 3 → D s = some n → n ≤ de) → de ≤ 2304 → EvP X 82 61 [some (.ref 0), some (.int (nI (2 ^ T 3 - 1))), some (.int (nI de)), some (.int (nI x)), some (.int (nI (2 ^ T 3)))] [] (47, g_rho true, σ') P) : ∀ (d j : Nat) (σ' : gT1) (D : Nat → Option Nat) (de : Nat), j + d = 2 ^ T 3 → (∀ r, r ≠ 30 → σ' r = σ r) → (∀ s, s < 2 ^ T 3 → σ' 30 s = oI (D s)) → CI (lw T l) (pcs T pr) W (sound T) (2 ^ T 3) D → CR (lw T l) (pcs T pr) W (sound T) (2 ^ T 3) D x → CP (lw T l) (pcs T pr) W (sound T) D x j → (∀ s n, s < 2 ^ T 3 → D s = some n → n ≤ de) → de ≤ 2304 → EvP X 82 27 [some (.ref 0), some (.int (nI (2 ^ T 3 - 1))), some (.int (nI de)), some (.int (nI x)), some (.int (nI j))] [] (47, g_rho true, σ') P
  | 0, j, σ', D, de, hk, h1, h30, ci, cr, cp, hb, hde => by
    obtain rfl : j = 2 ^ T 3 := by omega
    refine ep_il t82_27 rfl ?_
    refine ep_iln t82_29 rfl ?_
    refine ep_ifP t82_30 (ic_gt (by have hx8 := pow_le_256 hw.2.1; omega) (by have hx8 := pow_le_256 hw.2.1; omega)) (fun (c30 : (2 ^ T 3 - 1) < (2 ^ T 3)) => ?_) (fun (c30 : ¬ ((2 ^ T 3 - 1) < (2 ^ T 3))) => (by have := Nat.two_pow_pos (T 3); omega))
    exact K σ' D de h1 h30 ci (fun t m k a b c e f => by
      by_cases g : m = x
      · subst g; exact cp t k a b c f
      · exact cr t m k a b c (by omega) f) hb hde
  | d + 1, j, σ', D, de, hk, h1, h30, ci, cr, cp, hb, hde => by
    have hj : j < 2 ^ T 3 := by omega
    have hN1 : NetC σ' 16 T := by
      unfold NetC at *
      rw [h1 16 (by decide), h1 17 (by decide), h1 18 (by decide), h1 19 (by decide), h1 20 (by decide), h1 21 (by decide), h1 22 (by decide), h1 23 (by decide)]
      exact hN
    refine ep_il t82_27 rfl ?_
    refine ep_iln t82_29 rfl ?_
    refine ep_ifP t82_30 (ic_gt (by have hx8 := pow_le_256 hw.2.1; omega) (by have hx8 := pow_le_256 hw.2.1; omega)) (fun (c30 : (2 ^ T 3 - 1) < j) => (by omega)) (fun (c30 : ¬ ((2 ^ T 3 - 1) < j)) => ?_)
    cases hDj : D j with
    | none =>
      refine ep_aln t82_33 rfl ?_
      refine ep_getr (q := 30) t82_34 rfl (Nat.le_of_ble_eq_true rfl) rfl (rfl) ?_
      refine ep_il t82_37 rfl ?_
      refine ep_aldN t82_39 rfl (Nat.le_of_ble_eq_true rfl) (Nat.ne_of_beq_eq_false rfl) (Nat.le_of_ble_eq_true rfl) (by have hx8 := pow_le_256 hw.2.1; omega) ?_
      refine ep_val (b := (-1 : Int32)) ((h30 _ hj).trans (by rw [hDj]; rfl)) ?_
      refine ep_iln t82_40 rfl ?_
      refine ep_if t82_41 (fun (c41 : ¬ ((-1 : Int32)) = (nI x)) => ?_) (fun (c41 : ¬ (¬ ((-1 : Int32)) = (nI x))) => (by exact absurd (Classical.byContradiction c41).symm (nI_m1 (n := x) (by omega))))
      refine ep_inc (b := nI (j + 1)) (L' := [some (.ref 0), some (.int (nI (2 ^ T 3 - 1))), some (.int (nI de)), some (.int (nI x)), some (.int (nI (j + 1)))]) t82_55 rfl (nI_add j 1) rfl (Nat.le_of_ble_eq_true rfl) ?_
      refine ep_gt t82_58 ?_
      refine L_s2_16 hN hw hl e5 e25 hpr hx K d (j + 1) σ' D de (by omega) h1 h30 ci cr (fun t k a b c e => ?_) hb hde
      by_cases g : t = j
      · subst g
        have := settle (lw_p hw hpr) lw_N lw_sd lw_sy ci cr hj b c (Nat.le_refl _)
        rw [hDj] at this
        first
        | exact absurd (Option.some.inj this) c41
        | cases this
      · exact cp t k (by omega) b c e
    | some n =>
      have hn4 := (ci.1 _ hj n hDj).2.2
      refine ep_aln t82_33 rfl ?_
      refine ep_getr (q := 30) t82_34 rfl (Nat.le_of_ble_eq_true rfl) rfl (rfl) ?_
      refine ep_il t82_37 rfl ?_
      refine ep_aldN t82_39 rfl (Nat.le_of_ble_eq_true rfl) (Nat.ne_of_beq_eq_false rfl) (Nat.le_of_ble_eq_true rfl) (by have hx8 := pow_le_256 hw.2.1; omega) ?_
      refine ep_val (b := nI n) ((h30 _ hj).trans (by rw [hDj]; rfl)) ?_
      refine ep_iln t82_40 rfl ?_
      refine ep_ifP t82_41 (ic_ne (by have hx8 := pow_le_256 hw.2.1; omega) (by have hx8 := pow_le_256 hw.2.1; omega)) (fun (c41 : ¬ n = x) => ?_) (fun (c41 : ¬ (¬ n = x)) => ?_)
      · refine ep_inc (b := nI (j + 1)) (L' := [some (.ref 0), some (.int (nI (2 ^ T 3 - 1))), some (.int (nI de)), some (.int (nI x)), some (.int (nI (j + 1)))]) t82_55 rfl (nI_add j 1) rfl (Nat.le_of_ble_eq_true rfl) ?_
        refine ep_gt t82_58 ?_
        refine L_s2_16 hN hw hl e5 e25 hpr hx K d (j + 1) σ' D de (by omega) h1 h30 ci cr (fun t k a b c e => ?_) hb hde
        by_cases g : t = j
        · subst g
          have := settle (lw_p hw hpr) lw_N lw_sd lw_sy ci cr hj b c (Nat.le_refl _)
          rw [hDj] at this
          first
          | exact absurd (Option.some.inj this) c41
          | cases this
        · exact cp t k (by omega) b c e
      · refine ep_iln t82_44 rfl ?_
        refine ep_aln t82_45 rfl ?_
        refine ep_il t82_46 rfl ?_
        obtain rfl : x = n := (Classical.byContradiction c41).symm
        obtain ⟨hsd, hic⟩ := isC_of hw hpr ci cr hj hDj
        obtain ⟨v9, g9, hm9, σ2, D2, dd, rfl, rfl, b1, b2, b3, b4, b5, b6, b7, b8⟩ := cl_B_spreadFrom_16 (X := X) (σ := σ') (de := de) hN1 hw hl ((congrFun (h1 0 (by decide)) 5).trans e5) (fun i hi => (congrFun (h1 25 (by decide)) i).trans (e25 i hi)) hpr hj hsd hic hx h30 ci cr cp hb
        refine ep_cv t82_48 rfl rfl (Nat.le_of_ble_eq_true rfl) (Nat.le_of_ble_eq_true rfl) (hm9) ?_
        refine ep_max (a := de) (b := dd) t82_51 (by have hx8 := pow_le_256 hw.2.1; omega) (by have hx8 := pow_le_256 hw.2.1; omega) (Nat.le_of_ble_eq_true rfl) ?_
        refine ep_isn (L' := [some (.ref 0), some (.int (nI (2 ^ T 3 - 1))), some (.int (nI (max de dd))), some (.int (nI x)), some (.int (nI j))]) t82_54 rfl (Nat.le_of_ble_eq_true rfl) ?_
        refine ep_inc (b := nI (j + 1)) (L' := [some (.ref 0), some (.int (nI (2 ^ T 3 - 1))), some (.int (nI (max de dd))), some (.int (nI x)), some (.int (nI (j + 1)))]) t82_55 rfl (nI_add j 1) rfl (Nat.le_of_ble_eq_true rfl) ?_
        refine ep_gt t82_58 ?_
        refine L_s2_16 hN hw hl e5 e25 hpr hx K d (j + 1) σ2 D2 _ (by omega) (fun r hr => (b1 r hr).trans (h1 r hr)) b2 b3 b4 (fun t k a b c e => ?_) (fun s n hs hD => ?_) (by omega)
        · by_cases g : t = j
          · subst g; exact b6 k e.1 e
          · exact b5 t k (by omega) b c e
        · have := b7 s n hs hD
          omega
theorem L_s1_16 {X : gX} {σ : gT1} {T pr : Nat → Nat} {l : Nat} {W : Nat → Prop} {P : Option Value → gS → Prop} (hN : NetC σ 16 T) (hw : WF0 T) (hl : l < 2 ^ T 3) (e5 : σ 0 5 = nI l) (e25 : ∀ i, i < 3 → σ 25 i = nI (pr i)) (hpr : ∀ i, i < 3 → 1 ≤ pr i ∧ pr i ≤ 9) (K : ∀ (σ' : gT1), (∀ r, r ≠ 30 → σ' r = σ r) → (∀ s, s < 2 ^ T 3 → σ' 30 s = oI (dS (lw T l) (pcs T pr) W (sound T) s)) → P none (47, g_rho true, σ')) : ∀ (d x : Nat) (σ' : gT1) (D : Nat → Option Nat) (de : Nat) (o4 : Option Value), x + d = 2296 → (∀ r, r ≠ 30 → σ' r = σ r) → (∀ s, s < 2 ^ T 3 → σ' 30 s = oI (D s)) → CI (lw T l) (pcs T pr) W (sound T) (2 ^ T 3) D → CR (lw T l) (pcs T pr) W (sound T) (2 ^ T 3) D x → (∀ s n, s < 2 ^ T 3 → D s = some n → n ≤ de) → de ≤ 2304 → EvP X 82 12 [some (.ref 0), some (.int (nI (2 ^ T 3 - 1))), some (.int (nI de)), some (.int (nI x)), o4] [] (47, g_rho true, σ') P
  | 0, x, σ', D, de, o4, hk, h1, h30, ci, cr, hb, hde => by
    refine ep_iln t82_12 rfl ?_
    refine ep_iln t82_13 rfl ?_
    refine ep_ifP t82_14 (ic_gt (by omega) (by omega)) (fun (c14 : de < x) => ?_) (fun (c14 : ¬ (de < x)) => ?_)
    · refine ep_rv t82_67 ?_
      exact K σ' h1 (fun s hs => (h30 s hs).trans (congrArg oI (cfin (lw_p hw hpr) lw_N (pow_le_256 hw.2.1) lw_sd lw_sy ci cr (by first | exact Or.inr (fun s n hs hD => by have := hb s n hs hD; omega) | exact Or.inl (by omega)) s hs)))
    · refine ep_iln t82_17 rfl ?_
      refine ep_k3 (w := nI 2295) t82_18 rfl ?_
      refine ep_ifP t82_21 (ic_gt (by omega) (by omega)) (fun (c21 : 2295 < x) => ?_) (fun (c21 : ¬ (2295 < x)) => (by omega))
      refine ep_rv t82_67 ?_
      exact K σ' h1 (fun s hs => (h30 s hs).trans (congrArg oI (cfin (lw_p hw hpr) lw_N (pow_le_256 hw.2.1) lw_sd lw_sy ci cr (by first | exact Or.inr (fun s n hs hD => by have := hb s n hs hD; omega) | exact Or.inl (by omega)) s hs)))
  | d + 1, x, σ', D, de, o4, hk, h1, h30, ci, cr, hb, hde => by
    refine ep_iln t82_12 rfl ?_
    refine ep_iln t82_13 rfl ?_
    refine ep_ifP t82_14 (ic_gt (by omega) (by omega)) (fun (c14 : de < x) => ?_) (fun (c14 : ¬ (de < x)) => ?_)
    · refine ep_rv t82_67 ?_
      exact K σ' h1 (fun s hs => (h30 s hs).trans (congrArg oI (cfin (lw_p hw hpr) lw_N (pow_le_256 hw.2.1) lw_sd lw_sy ci cr (by first | exact Or.inr (fun s n hs hD => by have := hb s n hs hD; omega) | exact Or.inl (by omega)) s hs)))
    · refine ep_iln t82_17 rfl ?_
      refine ep_k3 (w := nI 2295) t82_18 rfl ?_
      refine ep_ifP t82_21 (ic_gt (by omega) (by omega)) (fun (c21 : 2295 < x) => (by omega)) (fun (c21 : ¬ (2295 < x)) => ?_)
      refine ep_k1 (w := nI 0) t82_24 rfl ?_
      refine ep_is (L' := [some (.ref 0), some (.int (nI (2 ^ T 3 - 1))), some (.int (nI de)), some (.int (nI x)), some (.int (nI 0))]) t82_25 rfl (Nat.le_of_ble_eq_true rfl) ?_
      refine L_s2_16 hN hw hl e5 e25 hpr (by omega) (fun σ2 D2 de2 b1 b2 b3 b4 b5 b6 => ?_) (2 ^ T 3) 0 σ' D de (by omega) h1 h30 ci cr (fun t k a => absurd a (Nat.not_lt_zero t)) hb hde
      refine ep_inc (b := nI (x + 1)) (L' := [some (.ref 0), some (.int (nI (2 ^ T 3 - 1))), some (.int (nI de2)), some (.int (nI (x + 1))), some (.int (nI (2 ^ T 3)))]) t82_61 rfl (nI_add x 1) rfl (Nat.le_of_ble_eq_true rfl) ?_
      refine ep_gt t82_64 ?_
      exact L_s1_16 hN hw hl e5 e25 hpr K d (x + 1) σ2 D2 de2 _ (by omega) b1 b2 b3 b4 b5 b6
theorem cl_B_spread_16 {X : gX} {σ : gT1} {T pr : Nat → Nat} {l : Nat} {W : Nat → Prop} {D : Nat → Option Nat} (hN : NetC σ 16 T) (hw : WF0 T) (hl : l < 2 ^ T 3) (e5 : σ 0 5 = nI l) (e25 : ∀ i, i < 3 → σ 25 i = nI (pr i)) (hpr : ∀ i, i < 3 → 1 ≤ pr i ∧ pr i ≤ 9) (h30 : ∀ s, s < 2 ^ T 3 → σ 30 s = oI (D s)) (ci : CI (lw T l) (pcs T pr) W (sound T) (2 ^ T 3) D) (h0 : ∀ s n, s < 2 ^ T 3 → D s = some n → n ≤ 0) : ClP X 82 [.ref 0] (47, g_rho true, σ) (fun v g1 => v = none ∧ ∃ σ', g1 = (47, g_rho true, σ') ∧ (∀ r, r ≠ 30 → σ' r = σ r) ∧ (∀ s, s < 2 ^ T 3 → σ' 30 s = oI (dS (lw T l) (pcs T pr) W (sound T) s))) := by
  refine ClP.of ⟨Nat.le_of_ble_eq_true rfl, rfl⟩ ?_
  show EvP X 82 0 [some (.ref 0), none, none, none, none] [] (47, g_rho true, σ) _
  refine ep_aln t82_0 rfl ?_
  refine ep_getr (q := 16) t82_1 rfl (Nat.le_of_ble_eq_true rfl) rfl (rfl) ?_
  refine ep_cv t82_4 rfl rfl (Nat.le_of_ble_eq_true rfl) (Nat.le_of_ble_eq_true rfl) (cl_Net_all_16 (T := T) hN hw.2.1) ?_
  refine ep_isn (L' := [some (.ref 0), some (.int (nI (2 ^ T 3 - 1))), none, none, none]) t82_7 rfl (Nat.le_of_ble_eq_true rfl) ?_
  refine ep_k1 (w := nI 0) t82_8 rfl ?_
  refine ep_isn (L' := [some (.ref 0), some (.int (nI (2 ^ T 3 - 1))), some (.int (nI 0)), none, none]) t82_9 rfl (Nat.le_of_ble_eq_true rfl) ?_
  refine ep_k1 (w := nI 0) t82_10 rfl ?_
  refine ep_isn (L' := [some (.ref 0), some (.int (nI (2 ^ T 3 - 1))), some (.int (nI 0)), some (.int (nI 0)), none]) t82_11 rfl (Nat.le_of_ble_eq_true rfl) ?_
  exact L_s1_16 hN hw hl e5 e25 hpr (fun σ1 a1 a2 => ⟨rfl, σ1, rfl, a1, a2⟩) 2296 0 σ D 0 _ (by omega) (fun _ _ => rfl) h30 ci (fun t m k a b c e => absurd e (Nat.not_lt_zero m)) h0 (by omega)

theorem L_am_16 {X : gX} {σ : gT1} {T pr : Nat → Nat} {l : Nat} {W : Nat → Prop} {set wd dae lit : Nat} {P : Option Value → gS → Prop} (hN : NetC σ 16 T) (hw : WF0 T) (hl : l < 2 ^ T 3) (e5 : σ 0 5 = nI l) (e25 : ∀ i, i < 3 → σ 25 i = nI (pr i)) (hpr : ∀ i, i < 3 → 1 ≤ pr i ∧ pr i ≤ 9) (hb : set < 2147483648 ∧ wd < 2147483648 ∧ dae < 2147483648 ∧ lit < 2147483648) (hW : ∀ s, s < 2 ^ T 3 → sound T s → ((s &&& set = wd ∧ andN (earthM T s) (liveM T s) &&& dae = dae ∧ liveM T s &&& lit = lit) ↔ W s)) (K : ∀ (σ' : gT1), (∀ r, r ≠ 30 → σ' r = σ r) → (∀ s, s < 2 ^ T 3 → σ' 30 s = oI (dS (lw T l) (pcs T pr) W (sound T) s)) → P none (47, g_rho true, σ')) : ∀ (d s : Nat) (σ' : gT1) (o7 o8 : Option Value), s + d = 2 ^ T 3 → (∀ r, r ≠ 30 → σ' r = σ r) → (∀ t, t < s → σ' 30 t = oI ((aimD T W) t)) → EvP X 83 12 [some (.ref 0), some (.int (nI set)), some (.int (nI wd)), some (.int (nI dae)), some (.int (nI lit)), some (.int (nI (2 ^ T 3 - 1))), some (.int (nI s)), o7, o8] [] (47, g_rho true, σ') P
  | 0, s, σ', o7, o8, hk, h1, h2 => by
    obtain rfl : s = 2 ^ T 3 := by omega
    have hN1 : NetC σ' 16 T := by
      unfold NetC at *
      rw [h1 16 (by decide), h1 17 (by decide), h1 18 (by decide), h1 19 (by decide), h1 20 (by decide), h1 21 (by decide), h1 22 (by decide), h1 23 (by decide)]
      exact hN
    refine ep_il t83_12 rfl ?_
    refine ep_il t83_14 rfl ?_
    refine ep_ifP t83_16 (ic_gt (by have hx8 := pow_le_256 hw.2.1; omega) (by have hx8 := pow_le_256 hw.2.1; omega)) (fun (c16 : (2 ^ T 3 - 1) < (2 ^ T 3)) => ?_) (fun (c16 : ¬ ((2 ^ T 3 - 1) < (2 ^ T 3))) => (by have := Nat.two_pow_pos (T 3); omega))
    refine ep_aln t83_112 rfl ?_
    have hci : CI (lw T l) (pcs T pr) W (sound T) (2 ^ T 3) (aimD T W) := aim_ci
    obtain ⟨v9, g9, hm9, rfl, σ2, rfl, b1, b2⟩ := cl_B_spread_16 (X := X) (σ := σ') (l := l) (D := (aimD T W)) hN1 hw hl ((congrFun (h1 0 (by decide)) 5).trans e5) (fun i hi => (congrFun (h1 25 (by decide)) i).trans (e25 i hi)) hpr h2 hci (fun s n hs hn => aim_le hn)
    refine ep_cv t83_113 rfl rfl (Nat.le_of_ble_eq_true rfl) (Nat.le_of_ble_eq_true rfl) (hm9) ?_
    refine ep_rv t83_116 ?_
    exact K σ2 (fun r hr => (b1 r hr).trans (h1 r hr)) b2
  | d + 1, s, σ', o7, o8, hk, h1, h2 => by
    have hs : s < 2 ^ T 3 := by omega
    have hlv := live_lt hw.1 s
    have hea := earth_lt hw.1 s
    have han : andN (earthM T s) (liveM T s) < 64 := andN_le (n := 6) _ _ hea
    have hN1 : NetC σ' 16 T := by
      unfold NetC at *
      rw [h1 16 (by decide), h1 17 (by decide), h1 18 (by decide), h1 19 (by decide), h1 20 (by decide), h1 21 (by decide), h1 22 (by decide), h1 23 (by decide)]
      exact hN
    refine ep_il t83_12 rfl ?_
    refine ep_il t83_14 rfl ?_
    refine ep_ifP t83_16 (ic_gt (by have hx8 := pow_le_256 hw.2.1; have := and_lt (b := set) hs; have := and_lt (b := dae) han; have := and_lt (b := lit) hlv; omega) (by have hx8 := pow_le_256 hw.2.1; have := and_lt (b := set) hs; have := and_lt (b := dae) han; have := and_lt (b := lit) hlv; omega)) (fun (c16 : (2 ^ T 3 - 1) < s) => (by omega)) (fun (c16 : ¬ ((2 ^ T 3 - 1) < s)) => ?_)
    refine ep_aln t83_19 rfl ?_
    refine ep_getr (q := 16) t83_20 rfl (Nat.le_of_ble_eq_true rfl) rfl (rfl) ?_
    refine ep_getr (q := 21) t83_23 rfl (Nat.le_of_ble_eq_true rfl) rfl (rfl) ?_
    refine ep_il t83_26 rfl ?_
    refine ep_aldN t83_28 rfl (Nat.le_of_ble_eq_true rfl) (Nat.ne_of_beq_eq_false rfl) (Nat.le_of_ble_eq_true rfl) (by have hx8 := pow_le_256 hw.2.1; have := and_lt (b := set) hs; have := and_lt (b := dae) han; have := and_lt (b := lit) hlv; omega) ?_
    refine ep_val (b := nI (liveM T s)) ((congrFun (h1 21 (by decide)) s).trans (hN.2.2 s hs).1) ?_
    refine ep_is (L' := [some (.ref 0), some (.int (nI set)), some (.int (nI wd)), some (.int (nI dae)), some (.int (nI lit)), some (.int (nI (2 ^ T 3 - 1))), some (.int (nI s)), some (.int (nI (liveM T s))), o8]) t83_29 rfl (Nat.le_of_ble_eq_true rfl) ?_
    refine ep_il t83_31 rfl ?_
    refine ep_iln t83_33 rfl ?_
    refine ep_andN (a := s) (b := set) t83_34 ?_
    refine ep_iln t83_35 rfl ?_
    refine ep_ifP t83_36 (ic_ne (by have hx8 := pow_le_256 hw.2.1; have := and_lt (b := set) hs; have := and_lt (b := dae) han; have := and_lt (b := lit) hlv; omega) (by have hx8 := pow_le_256 hw.2.1; have := and_lt (b := set) hs; have := and_lt (b := dae) han; have := and_lt (b := lit) hlv; omega)) (fun (c36 : ¬ (s &&& set) = wd) => ?_) (fun (c36 : ¬ (¬ (s &&& set) = wd)) => ?_)
    · refine ep_k1 (w := nI 0) t83_86 rfl ?_
      refine ep_is (L' := [some (.ref 0), some (.int (nI set)), some (.int (nI wd)), some (.int (nI dae)), some (.int (nI lit)), some (.int (nI (2 ^ T 3 - 1))), some (.int (nI s)), some (.int (nI (liveM T s))), some (.int (nI 0))]) t83_87 rfl (Nat.le_of_ble_eq_true rfl) ?_
      refine ep_aln t83_89 rfl ?_
      refine ep_getr (q := 30) t83_90 rfl (Nat.le_of_ble_eq_true rfl) rfl (rfl) ?_
      refine ep_il t83_93 rfl ?_
      refine ep_il t83_95 rfl ?_
      refine ep_if0P t83_97 (ic0_eq (by have hx8 := pow_le_256 hw.2.1; have := and_lt (b := set) hs; have := and_lt (b := dae) han; have := and_lt (b := lit) hlv; omega)) (fun (c97 : 0 = 0) => ?_) (fun (c97 : ¬ (0 = 0)) => (by omega))
      refine ep_k1 (w := (-1)) t83_104 rfl ?_
      refine ep_astN t83_105 rfl (Nat.le_of_ble_eq_true rfl) (Nat.le_of_ble_eq_true rfl) (by have hx8 := pow_le_256 hw.2.1; have := and_lt (b := set) hs; have := and_lt (b := dae) han; have := and_lt (b := lit) hlv; omega) ?_
      refine ep_inc (b := nI (s + 1)) (L' := [some (.ref 0), some (.int (nI set)), some (.int (nI wd)), some (.int (nI dae)), some (.int (nI lit)), some (.int (nI (2 ^ T 3 - 1))), some (.int (nI (s + 1))), some (.int (nI (liveM T s))), some (.int (nI 0))]) t83_106 rfl (nI_add s 1) rfl (Nat.le_of_ble_eq_true rfl) ?_
      refine ep_gt t83_109 ?_
      refine L_am_16 hN hw hl e5 e25 hpr hb hW K d (s + 1) _ _ _ (by omega) (fun r hr => (g_up_ne hr).trans (h1 r hr)) (fun t ht => ?_)
      by_cases e : t = s
      · subst e
        rw [g_up_eq]
        rw [aimD_no (fun hq => by
          have h5 := (hW t hs hq.2).mpr hq.1
          first
          | exact c36 h5.1
          | exact c57 h5.2.1
          | exact c67 h5.2.2
          | exact absurd (show liveM T t &&& earthM T t = 0 from hq.2) (of_decide_eq_false c79))]; rfl
      · rw [g_up_j e]; exact h2 t (by omega)
    · refine ep_aln t83_39 rfl ?_
      refine ep_getr (q := 16) t83_40 rfl (Nat.le_of_ble_eq_true rfl) rfl (rfl) ?_
      refine ep_getr (q := 22) t83_43 rfl (Nat.le_of_ble_eq_true rfl) rfl (rfl) ?_
      refine ep_il t83_46 rfl ?_
      refine ep_aldN t83_48 rfl (Nat.le_of_ble_eq_true rfl) (Nat.ne_of_beq_eq_false rfl) (Nat.le_of_ble_eq_true rfl) (by have hx8 := pow_le_256 hw.2.1; have := and_lt (b := set) hs; have := and_lt (b := dae) han; have := and_lt (b := lit) hlv; omega) ?_
      refine ep_val (b := nI (earthM T s)) ((congrFun (h1 22 (by decide)) s).trans (hN.2.2 s hs).2.1) ?_
      refine ep_il t83_49 rfl ?_
      refine ep_k1 (w := (-1)) t83_51 rfl ?_
      refine ep_xor t83_52 ?_
      refine ep_and t83_53 ?_
      refine ep_val (b := nI (andN (earthM T s) (liveM T s))) (and_notG _ _) ?_
      refine ep_iln t83_54 rfl ?_
      refine ep_andN (a := andN (earthM T s) (liveM T s)) (b := dae) t83_55 ?_
      refine ep_iln t83_56 rfl ?_
      refine ep_ifP t83_57 (ic_ne (by have hx8 := pow_le_256 hw.2.1; have := and_lt (b := set) hs; have := and_lt (b := dae) han; have := and_lt (b := lit) hlv; omega) (by have hx8 := pow_le_256 hw.2.1; have := and_lt (b := set) hs; have := and_lt (b := dae) han; have := and_lt (b := lit) hlv; omega)) (fun (c57 : ¬ ((andN (earthM T s) (liveM T s)) &&& dae) = dae) => ?_) (fun (c57 : ¬ (¬ ((andN (earthM T s) (liveM T s)) &&& dae) = dae)) => ?_)
      · refine ep_k1 (w := nI 0) t83_86 rfl ?_
        refine ep_is (L' := [some (.ref 0), some (.int (nI set)), some (.int (nI wd)), some (.int (nI dae)), some (.int (nI lit)), some (.int (nI (2 ^ T 3 - 1))), some (.int (nI s)), some (.int (nI (liveM T s))), some (.int (nI 0))]) t83_87 rfl (Nat.le_of_ble_eq_true rfl) ?_
        refine ep_aln t83_89 rfl ?_
        refine ep_getr (q := 30) t83_90 rfl (Nat.le_of_ble_eq_true rfl) rfl (rfl) ?_
        refine ep_il t83_93 rfl ?_
        refine ep_il t83_95 rfl ?_
        refine ep_if0P t83_97 (ic0_eq (by have hx8 := pow_le_256 hw.2.1; have := and_lt (b := set) hs; have := and_lt (b := dae) han; have := and_lt (b := lit) hlv; omega)) (fun (c97 : 0 = 0) => ?_) (fun (c97 : ¬ (0 = 0)) => (by omega))
        refine ep_k1 (w := (-1)) t83_104 rfl ?_
        refine ep_astN t83_105 rfl (Nat.le_of_ble_eq_true rfl) (Nat.le_of_ble_eq_true rfl) (by have hx8 := pow_le_256 hw.2.1; have := and_lt (b := set) hs; have := and_lt (b := dae) han; have := and_lt (b := lit) hlv; omega) ?_
        refine ep_inc (b := nI (s + 1)) (L' := [some (.ref 0), some (.int (nI set)), some (.int (nI wd)), some (.int (nI dae)), some (.int (nI lit)), some (.int (nI (2 ^ T 3 - 1))), some (.int (nI (s + 1))), some (.int (nI (liveM T s))), some (.int (nI 0))]) t83_106 rfl (nI_add s 1) rfl (Nat.le_of_ble_eq_true rfl) ?_
        refine ep_gt t83_109 ?_
        refine L_am_16 hN hw hl e5 e25 hpr hb hW K d (s + 1) _ _ _ (by omega) (fun r hr => (g_up_ne hr).trans (h1 r hr)) (fun t ht => ?_)
        by_cases e : t = s
        · subst e
          rw [g_up_eq]
          rw [aimD_no (fun hq => by
            have h5 := (hW t hs hq.2).mpr hq.1
            first
            | exact c36 h5.1
            | exact c57 h5.2.1
            | exact c67 h5.2.2
            | exact absurd (show liveM T t &&& earthM T t = 0 from hq.2) (of_decide_eq_false c79))]; rfl
        · rw [g_up_j e]; exact h2 t (by omega)
      · refine ep_il t83_60 rfl ?_
        refine ep_il t83_62 rfl ?_
        refine ep_andN (a := liveM T s) (b := lit) t83_64 ?_
        refine ep_il t83_65 rfl ?_
        refine ep_ifP t83_67 (ic_ne (by have hx8 := pow_le_256 hw.2.1; have := and_lt (b := set) hs; have := and_lt (b := dae) han; have := and_lt (b := lit) hlv; omega) (by have hx8 := pow_le_256 hw.2.1; have := and_lt (b := set) hs; have := and_lt (b := dae) han; have := and_lt (b := lit) hlv; omega)) (fun (c67 : ¬ ((liveM T s) &&& lit) = lit) => ?_) (fun (c67 : ¬ (¬ ((liveM T s) &&& lit) = lit)) => ?_)
        · refine ep_k1 (w := nI 0) t83_86 rfl ?_
          refine ep_is (L' := [some (.ref 0), some (.int (nI set)), some (.int (nI wd)), some (.int (nI dae)), some (.int (nI lit)), some (.int (nI (2 ^ T 3 - 1))), some (.int (nI s)), some (.int (nI (liveM T s))), some (.int (nI 0))]) t83_87 rfl (Nat.le_of_ble_eq_true rfl) ?_
          refine ep_aln t83_89 rfl ?_
          refine ep_getr (q := 30) t83_90 rfl (Nat.le_of_ble_eq_true rfl) rfl (rfl) ?_
          refine ep_il t83_93 rfl ?_
          refine ep_il t83_95 rfl ?_
          refine ep_if0P t83_97 (ic0_eq (by have hx8 := pow_le_256 hw.2.1; have := and_lt (b := set) hs; have := and_lt (b := dae) han; have := and_lt (b := lit) hlv; omega)) (fun (c97 : 0 = 0) => ?_) (fun (c97 : ¬ (0 = 0)) => (by omega))
          refine ep_k1 (w := (-1)) t83_104 rfl ?_
          refine ep_astN t83_105 rfl (Nat.le_of_ble_eq_true rfl) (Nat.le_of_ble_eq_true rfl) (by have hx8 := pow_le_256 hw.2.1; have := and_lt (b := set) hs; have := and_lt (b := dae) han; have := and_lt (b := lit) hlv; omega) ?_
          refine ep_inc (b := nI (s + 1)) (L' := [some (.ref 0), some (.int (nI set)), some (.int (nI wd)), some (.int (nI dae)), some (.int (nI lit)), some (.int (nI (2 ^ T 3 - 1))), some (.int (nI (s + 1))), some (.int (nI (liveM T s))), some (.int (nI 0))]) t83_106 rfl (nI_add s 1) rfl (Nat.le_of_ble_eq_true rfl) ?_
          refine ep_gt t83_109 ?_
          refine L_am_16 hN hw hl e5 e25 hpr hb hW K d (s + 1) _ _ _ (by omega) (fun r hr => (g_up_ne hr).trans (h1 r hr)) (fun t ht => ?_)
          by_cases e : t = s
          · subst e
            rw [g_up_eq]
            rw [aimD_no (fun hq => by
              have h5 := (hW t hs hq.2).mpr hq.1
              first
              | exact c36 h5.1
              | exact c57 h5.2.1
              | exact c67 h5.2.2
              | exact absurd (show liveM T t &&& earthM T t = 0 from hq.2) (of_decide_eq_false c79))]; rfl
          · rw [g_up_j e]; exact h2 t (by omega)
        · refine ep_aln t83_70 rfl ?_
          refine ep_getr (q := 16) t83_71 rfl (Nat.le_of_ble_eq_true rfl) rfl (rfl) ?_
          refine ep_il t83_74 rfl ?_
          refine ep_cv t83_76 rfl rfl (Nat.le_of_ble_eq_true rfl) (Nat.le_of_ble_eq_true rfl) (cl_Net_sound_16 (T := T) hN1 hw.1 hw.2.1 hs) ?_
          refine ep_bF t83_79 (fun (c79 : (decide (liveM T s &&& earthM T s = 0)) = false) => ?_) (fun (c79 : (decide (liveM T s &&& earthM T s = 0)) = true) => ?_)
          · refine ep_k1 (w := nI 0) t83_86 rfl ?_
            refine ep_is (L' := [some (.ref 0), some (.int (nI set)), some (.int (nI wd)), some (.int (nI dae)), some (.int (nI lit)), some (.int (nI (2 ^ T 3 - 1))), some (.int (nI s)), some (.int (nI (liveM T s))), some (.int (nI 0))]) t83_87 rfl (Nat.le_of_ble_eq_true rfl) ?_
            refine ep_aln t83_89 rfl ?_
            refine ep_getr (q := 30) t83_90 rfl (Nat.le_of_ble_eq_true rfl) rfl (rfl) ?_
            refine ep_il t83_93 rfl ?_
            refine ep_il t83_95 rfl ?_
            refine ep_if0P t83_97 (ic0_eq (by have hx8 := pow_le_256 hw.2.1; have := and_lt (b := set) hs; have := and_lt (b := dae) han; have := and_lt (b := lit) hlv; omega)) (fun (c97 : 0 = 0) => ?_) (fun (c97 : ¬ (0 = 0)) => (by omega))
            refine ep_k1 (w := (-1)) t83_104 rfl ?_
            refine ep_astN t83_105 rfl (Nat.le_of_ble_eq_true rfl) (Nat.le_of_ble_eq_true rfl) (by have hx8 := pow_le_256 hw.2.1; have := and_lt (b := set) hs; have := and_lt (b := dae) han; have := and_lt (b := lit) hlv; omega) ?_
            refine ep_inc (b := nI (s + 1)) (L' := [some (.ref 0), some (.int (nI set)), some (.int (nI wd)), some (.int (nI dae)), some (.int (nI lit)), some (.int (nI (2 ^ T 3 - 1))), some (.int (nI (s + 1))), some (.int (nI (liveM T s))), some (.int (nI 0))]) t83_106 rfl (nI_add s 1) rfl (Nat.le_of_ble_eq_true rfl) ?_
            refine ep_gt t83_109 ?_
            refine L_am_16 hN hw hl e5 e25 hpr hb hW K d (s + 1) _ _ _ (by omega) (fun r hr => (g_up_ne hr).trans (h1 r hr)) (fun t ht => ?_)
            by_cases e : t = s
            · subst e
              rw [g_up_eq]
              rw [aimD_no (fun hq => by
                have h5 := (hW t hs hq.2).mpr hq.1
                first
                | exact c36 h5.1
                | exact c57 h5.2.1
                | exact c67 h5.2.2
                | exact absurd (show liveM T t &&& earthM T t = 0 from hq.2) (of_decide_eq_false c79))]; rfl
            · rw [g_up_j e]; exact h2 t (by omega)
          · have h79 : sound T s := by have h9 : liveM T s &&& earthM T s = 0 := of_decide_eq_true c79; exact h9
            refine ep_k1 (w := nI 1) t83_82 rfl ?_
            refine ep_gt t83_83 ?_
            refine ep_is (L' := [some (.ref 0), some (.int (nI set)), some (.int (nI wd)), some (.int (nI dae)), some (.int (nI lit)), some (.int (nI (2 ^ T 3 - 1))), some (.int (nI s)), some (.int (nI (liveM T s))), some (.int (nI 1))]) t83_87 rfl (Nat.le_of_ble_eq_true rfl) ?_
            refine ep_aln t83_89 rfl ?_
            refine ep_getr (q := 30) t83_90 rfl (Nat.le_of_ble_eq_true rfl) rfl (rfl) ?_
            refine ep_il t83_93 rfl ?_
            refine ep_il t83_95 rfl ?_
            refine ep_if0P t83_97 (ic0_eq (by have hx8 := pow_le_256 hw.2.1; have := and_lt (b := set) hs; have := and_lt (b := dae) han; have := and_lt (b := lit) hlv; omega)) (fun (c97 : 1 = 0) => (by omega)) (fun (c97 : ¬ (1 = 0)) => ?_)
            refine ep_k1 (w := nI 0) t83_100 rfl ?_
            refine ep_gt t83_101 ?_
            refine ep_astN t83_105 rfl (Nat.le_of_ble_eq_true rfl) (Nat.le_of_ble_eq_true rfl) (by have hx8 := pow_le_256 hw.2.1; have := and_lt (b := set) hs; have := and_lt (b := dae) han; have := and_lt (b := lit) hlv; omega) ?_
            refine ep_inc (b := nI (s + 1)) (L' := [some (.ref 0), some (.int (nI set)), some (.int (nI wd)), some (.int (nI dae)), some (.int (nI lit)), some (.int (nI (2 ^ T 3 - 1))), some (.int (nI (s + 1))), some (.int (nI (liveM T s))), some (.int (nI 1))]) t83_106 rfl (nI_add s 1) rfl (Nat.le_of_ble_eq_true rfl) ?_
            refine ep_gt t83_109 ?_
            refine L_am_16 hN hw hl e5 e25 hpr hb hW K d (s + 1) _ _ _ (by omega) (fun r hr => (g_up_ne hr).trans (h1 r hr)) (fun t ht => ?_)
            by_cases e : t = s
            · subst e
              rw [g_up_eq]
              rw [aimD_yes ⟨(hW t hs h79).mp ⟨Classical.byContradiction c36, Classical.byContradiction c57, Classical.byContradiction c67⟩, h79⟩]; rfl
            · rw [g_up_j e]; exact h2 t (by omega)
theorem cl_B_aim_16 {X : gX} {σ : gT1} {T pr : Nat → Nat} {l : Nat} {W : Nat → Prop} {set wd dae lit : Nat} (hN : NetC σ 16 T) (hw : WF0 T) (hl : l < 2 ^ T 3) (e5 : σ 0 5 = nI l) (e25 : ∀ i, i < 3 → σ 25 i = nI (pr i)) (hpr : ∀ i, i < 3 → 1 ≤ pr i ∧ pr i ≤ 9) (hb : set < 2147483648 ∧ wd < 2147483648 ∧ dae < 2147483648 ∧ lit < 2147483648) (hW : ∀ s, s < 2 ^ T 3 → sound T s → ((s &&& set = wd ∧ andN (earthM T s) (liveM T s) &&& dae = dae ∧ liveM T s &&& lit = lit) ↔ W s))  : ClP X 83 [.ref 0, .int (nI set), .int (nI wd), .int (nI dae), .int (nI lit)] (47, g_rho true, σ) (fun v g1 => v = none ∧ ∃ σ', g1 = (47, g_rho true, σ') ∧ (∀ r, r ≠ 30 → σ' r = σ r) ∧ (∀ s, s < 2 ^ T 3 → σ' 30 s = oI (dS (lw T l) (pcs T pr) W (sound T) s))) := by
  refine ClP.of ⟨Nat.le_of_ble_eq_true rfl, rfl⟩ ?_
  show EvP X 83 0 [some (.ref 0), some (.int (nI set)), some (.int (nI wd)), some (.int (nI dae)), some (.int (nI lit)), none, none, none, none] [] (47, g_rho true, σ) _
  refine ep_aln t83_0 rfl ?_
  refine ep_getr (q := 16) t83_1 rfl (Nat.le_of_ble_eq_true rfl) rfl (rfl) ?_
  refine ep_cv t83_4 rfl rfl (Nat.le_of_ble_eq_true rfl) (Nat.le_of_ble_eq_true rfl) (cl_Net_all_16 (T := T) hN hw.2.1) ?_
  refine ep_is (L' := [some (.ref 0), some (.int (nI set)), some (.int (nI wd)), some (.int (nI dae)), some (.int (nI lit)), some (.int (nI (2 ^ T 3 - 1))), none, none, none]) t83_7 rfl (Nat.le_of_ble_eq_true rfl) ?_
  refine ep_k1 (w := nI 0) t83_9 rfl ?_
  refine ep_is (L' := [some (.ref 0), some (.int (nI set)), some (.int (nI wd)), some (.int (nI dae)), some (.int (nI lit)), some (.int (nI (2 ^ T 3 - 1))), some (.int (nI 0)), none, none]) t83_10 rfl (Nat.le_of_ble_eq_true rfl) ?_
  exact L_am_16 hN hw hl e5 e25 hpr hb hW (fun σ1 a1 a2 => ⟨rfl, σ1, rfl, a1, a2⟩) (2 ^ T 3) 0 σ _ _ (by omega) (fun _ _ => rfl) (fun t ht => absurd ht (Nat.not_lt_zero t))

