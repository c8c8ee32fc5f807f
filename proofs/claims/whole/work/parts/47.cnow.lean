/-! Pair now: what is lawful, the parts, what can be come to. -/
noncomputable def rtC (T : Nat → Nat) (c n : Nat) : Nat := cnt n (fun u => ∀ j, j < u → ¬ Cn T c u j)
theorem cnt_yes {P : Nat → Prop} {n : Nat} (h : P n) : cnt n P + 1 = cnt (n + 1) P := by
  show _ = cnt n P + @ite _ (P n) (Classical.propDecidable _) 1 0
  rw [if_pos h]
theorem cnt_no {P : Nat → Prop} {n : Nat} (h : ¬ P n) : cnt n P = cnt (n + 1) P := by
  show _ = cnt n P + @ite _ (P n) (Classical.propDecidable _) 1 0
  rw [if_neg h]
  rfl
def mxO (D : Nat → Option Nat) : Nat → Nat
  | 0 => 0
  | n + 1 => max (mxO D n) ((D n).getD 0)
theorem mxO_none {D : Nat → Option Nat} {n : Nat} (h : D n = none) : mxO D n = mxO D (n + 1) := by
  show _ = max (mxO D n) ((D n).getD 0)
  rw [h]
  exact (Nat.max_zero _).symm
theorem mxO_some {D : Nat → Option Nat} {n x : Nat} (h : D n = some x) : max (mxO D n) x = mxO D (n + 1) := by
  show _ = max (mxO D n) ((D n).getD 0)
  rw [h]
  rfl
theorem mxO_le {D : Nat → Option Nat} : ∀ n, (∀ s x, s < n → D s = some x → x ≤ 2295) → mxO D n ≤ 2295
  | 0, _ => Nat.zero_le _
  | n + 1, h => by
    have ih := mxO_le n (fun s x hs hd => h s x (by omega) hd)
    show max (mxO D n) ((D n).getD 0) ≤ 2295
    cases hd : D n with
    | none => simp only [Option.getD_none]; omega
    | some x => have := h n x (by omega) hd; simp only [Option.getD_some]; omega
theorem dS_le {T pr : Nat → Nat} {l s x : Nat} {W : Nat → Prop} (hw : WF0 T) (hpr : ∀ i, i < 3 → 1 ≤ pr i ∧ pr i ≤ 9) (hs : s < 2 ^ T 3) (h : dS (lw T l) (pcs T pr) W (sound T) s = some x) : x ≤ 2295 := by
  by_cases hd : sound T s
  · rw [dS_yes hd] at h
    exact (dst_some.mp h).le (lw_p hw hpr) lw_N (pow_le_256 hw.2.1) hs
  · rw [dS_no hd] at h
    cases h
theorem ep_maxm {X : gX} {m pc : Nat} {L : gLo} {st : List Value} {g : gS} {P : Option Value → gS → Prop} {i nb a : Nat} {z : Int32} (ht : g_at m pc = some (.invokestatic i, 998, nb, z)) (ha : a < 2147483648) (hc : (st.map fun v => v.category).sum ≤ 8) (k : EvP X m (pc + 3) L (.int (nI a) :: st) g P) : EvP X m pc L (.int (-1) :: .int (nI a) :: st) g P := k.up (fun rr q9 => by
  refine ev_i ht ?_
  show (st.map fun v => v.category).sum ≤ 8 ∧ Ev X m (pc + 3) L (.int (if nI a < (-1) then (-1) else nI a) :: st) g rr
  refine ⟨hc, ?_⟩
  rw [if_neg (fun h => by
    rw [Int32.lt_iff_toInt_lt, nI_toInt ha] at h
    have h2 : (-1 : Int32).toInt = -1 := by decide
    omega)]
  exact q9)
def RY (T pr : Nat → Nat) (l : Nat) (E : Nat → Nat) (s k : Nat) : Prop := ∀ t j, (t < s ∨ t = s ∧ j < k) → t < 2 ^ T 3 → E t < 99999 → lw T l t j → E (t ^^^ 2 ^ j) ≤ E t + pcs T pr j
theorem RY_next {T pr : Nat → Nat} {l s k : Nat} {E : Nat → Nat} (h : RY T pr l E s k) (hk : E s < 99999 → lw T l s k → E (s ^^^ 2 ^ k) ≤ E s + pcs T pr k) : RY T pr l E s (k + 1) := fun t j htj ht hf hl => by
  by_cases e : t = s ∧ j = k
  · obtain ⟨e1, e2⟩ := e
    subst e1; subst e2
    exact hk hf hl
  · exact h t j (by omega) ht hf hl
theorem RY_row {T pr : Nat → Nat} {l s : Nat} {E : Nat → Nat} (h : RY T pr l E s (T 3)) : RY T pr l E (s + 1) 0 := fun t j htj ht hf hl => h t j (by have := hl.1; omega) ht hf hl
theorem L_bl_7 {X : gX} {σ : gT1} {T : Nat → Nat} {c l : Nat} (hN : NetC σ 7 T) (h0 : T 0 ≤ 6) (h3 : T 3 ≤ 8) (hc : c < 2 ^ T 3) (hl : l < 2 ^ T 3) (e4 : σ 0 4 = nI c) (e5 : σ 0 5 = nI l) : ∀ (d k : Nat), k + d = T 3 → EvP X 79 4 [some (.ref 0), some (.int (nI (mk k (fun k => why T l c k = 0)))), some (.int (nI k))] [] (47, g_rho false, σ) (fun v g1 => v = some (.int (nI (mk (T 3) (fun k => why T l c k = 0)))) ∧ g1 = (47, g_rho false, σ))
  | 0, k, hk => by
    obtain rfl : k = T 3 := by omega
    refine ep_iln t79_4 rfl ?_
    refine ep_aln t79_5 rfl ?_
    refine ep_getr (q := 7) t79_6 rfl (Nat.le_of_ble_eq_true rfl) rfl (rfl) ?_
    refine ep_get t79_9 rfl (Nat.le_of_ble_eq_true rfl) rfl ?_
    refine ep_val (b := nI (T 3)) (hN.1 3 (by decide)) ?_
    refine ep_ifP t79_12 (ic_ge (by omega) (by omega)) (fun (c12 : (T 3) ≤ (T 3)) => ?_) (fun (c12 : ¬ ((T 3) ≤ (T 3))) => (by exact absurd (Nat.le_refl _) c12))
    refine ep_iln t79_35 rfl ?_
    refine ep_ri t79_36 (fun h => absurd h (by decide)) ?_
    exact ⟨rfl, rfl⟩
  | d + 1, k, hk => by
    have hk3 : k < T 3 := by omega
    refine ep_iln t79_4 rfl ?_
    refine ep_aln t79_5 rfl ?_
    refine ep_getr (q := 7) t79_6 rfl (Nat.le_of_ble_eq_true rfl) rfl (rfl) ?_
    refine ep_get t79_9 rfl (Nat.le_of_ble_eq_true rfl) rfl ?_
    refine ep_val (b := nI (T 3)) (hN.1 3 (by decide)) ?_
    refine ep_ifP t79_12 (ic_ge (by have := why_le T l c k; omega) (by have := why_le T l c k; omega)) (fun (c12 : (T 3) ≤ k) => (by omega)) (fun (c12 : ¬ ((T 3) ≤ k)) => ?_)
    refine ep_aln t79_15 rfl ?_
    refine ep_iln t79_16 rfl ?_
    refine ep_cv t79_17 rfl rfl (Nat.le_of_ble_eq_true rfl) (Nat.le_of_ble_eq_true rfl) (cl_B_whyNot_7 (T := T) (c := c) (l := l) hN h0 h3 hc hl e4 e5 hk3) ?_
    refine ep_if0P t79_20 (ic0_ne (by have := why_le T l c k; omega)) (fun (c20 : ¬ (why T l c k) = 0) => ?_) (fun (c20 : ¬ (¬ (why T l c k) = 0)) => ?_)
    · refine ep_inc (b := nI (k + 1)) (L' := [some (.ref 0), some (.int (nI (mk k (fun k => why T l c k = 0)))), some (.int (nI (k + 1)))]) t79_29 rfl (nI_add k 1) rfl (Nat.le_of_ble_eq_true rfl) ?_
      refine ep_gt t79_32 ?_
      rw [mk_no (P := fun k => why T l c k = 0) c20]
      exact L_bl_7 hN h0 h3 hc hl e4 e5 d (k + 1) (by omega)
    · refine ep_iln t79_23 rfl ?_
      refine ep_k1 (w := nI 1) t79_24 rfl ?_
      refine ep_iln t79_25 rfl ?_
      refine ep_oneN (b := k) t79_26 (by have := why_le T l c k; omega) ?_
      refine ep_orN (a := mk k (fun k => why T l c k = 0)) (b := 2 ^ k) t79_27 ?_
      refine ep_isn (L' := [some (.ref 0), some (.int (nI ((mk k (fun k => why T l c k = 0)) ||| (2 ^ k)))), some (.int (nI k))]) t79_28 rfl (Nat.le_of_ble_eq_true rfl) ?_
      refine ep_inc (b := nI (k + 1)) (L' := [some (.ref 0), some (.int (nI ((mk k (fun k => why T l c k = 0)) ||| (2 ^ k)))), some (.int (nI (k + 1)))]) t79_29 rfl (nI_add k 1) rfl (Nat.le_of_ble_eq_true rfl) ?_
      refine ep_gt t79_32 ?_
      rw [mk_yes (P := fun k => why T l c k = 0) (Classical.byContradiction c20)]
      exact L_bl_7 hN h0 h3 hc hl e4 e5 d (k + 1) (by omega)
theorem cl_B_lawful_7 {X : gX} {σ : gT1} {T : Nat → Nat} {c l : Nat} (hN : NetC σ 7 T) (h0 : T 0 ≤ 6) (h3 : T 3 ≤ 8) (hc : c < 2 ^ T 3) (hl : l < 2 ^ T 3) (e4 : σ 0 4 = nI c) (e5 : σ 0 5 = nI l)  : Cl X 79 [.ref 0] (47, g_rho false, σ) (some (.int (nI (mk (T 3) (fun k => why T l c k = 0))))) (47, g_rho false, σ) := by
  refine Cl.of ⟨Nat.le_of_ble_eq_true rfl, rfl⟩ ?_
  show EvP X 79 0 [some (.ref 0), none, none] [] (47, g_rho false, σ) _
  refine ep_k1 (w := nI 0) t79_0 rfl ?_
  refine ep_isn (L' := [some (.ref 0), some (.int (nI 0)), none]) t79_1 rfl (Nat.le_of_ble_eq_true rfl) ?_
  refine ep_k1 (w := nI 0) t79_2 rfl ?_
  refine ep_isn (L' := [some (.ref 0), some (.int (nI 0)), some (.int (nI 0))]) t79_3 rfl (Nat.le_of_ble_eq_true rfl) ?_
  exact L_bl_7 hN h0 h3 hc hl e4 e5 (T 3) 0 (by omega)

theorem L_np_7 {X : gX} {q : Bool} {σ : gT1} {T : Nat → Nat} {c : Nat} (hA : (∀ j, j < 4 → σ 7 j = nI (T j)) ∧ ∀ k, k < T 3 → σ 8 k = nI (T (4 + k)) ∧ σ 9 k = nI (T (12 + k)) ∧ σ 10 k = nI (T (20 + k)) ∧ σ 11 k = sec T k) (hw : WF0 T) (hc : c < 2147483648) : ∀ (d u : Nat) (σ' : gT1), u + d = T 0 → (∀ r, r ≠ 15 → σ' r = σ r) → EvP X 80 4 [some (.ref 7), some (.int (nI c)), some (.int (nI (rtC T c u))), some (.int (nI u))] [] (47, g_rho q, σ') (fun v g1 => ∃ σ1, v = some (.int (nI (rtC T c (T 0)))) ∧ g1 = (47, g_rho q, σ1) ∧ ∀ r, r ≠ 15 → σ1 r = σ r)
  | 0, u, σ', hk, h1 => by
    obtain rfl : u = T 0 := by omega
    refine ep_iln t80_4 rfl ?_
    refine ep_aln t80_5 rfl ?_
    refine ep_get t80_6 rfl (Nat.le_of_ble_eq_true rfl) rfl ?_
    refine ep_val (b := nI (T 0)) ((congrFun (h1 7 (by decide)) 0).trans (hA.1 0 (by decide))) ?_
    refine ep_ifP t80_9 (ic_ge (by have := hw.1; omega) (by have := hw.1; omega)) (fun (c9 : (T 0) ≤ (T 0)) => ?_) (fun (c9 : ¬ ((T 0) ≤ (T 0))) => (by exact absurd (Nat.le_refl _) c9))
    refine ep_iln t80_31 rfl ?_
    refine ep_ri t80_32 (fun h => absurd h (by decide)) ?_
    exact ⟨σ', rfl, rfl, h1⟩
  | d + 1, u, σ', hk, h1 => by
    have hu : u < T 0 := by omega
    refine ep_iln t80_4 rfl ?_
    refine ep_aln t80_5 rfl ?_
    refine ep_get t80_6 rfl (Nat.le_of_ble_eq_true rfl) rfl ?_
    refine ep_val (b := nI (T 0)) ((congrFun (h1 7 (by decide)) 0).trans (hA.1 0 (by decide))) ?_
    refine ep_ifP t80_9 (ic_ge (by have := hw.1; omega) (by have := hw.1; omega)) (fun (c9 : (T 0) ≤ u) => (by omega)) (fun (c9 : ¬ ((T 0) ≤ u)) => ?_)
    refine ep_aln t80_12 rfl ?_
    refine ep_iln t80_13 rfl ?_
    refine ep_iln t80_14 rfl ?_
    obtain ⟨v7, g7, hb7, x, σ2, rfl, rfl, j1, x1, x2⟩ := cl_Net_lowest_7 (X := X) (q := q) (σ := σ') (T := T) (c := c) (u := u) (by rw [h1 7 (by decide), h1 8 (by decide), h1 9 (by decide), h1 10 (by decide), h1 11 (by decide)]; exact hA) hw hc hu
    have hxu : x ≤ u := Nat.le_of_not_lt (fun h => x2 u h Cn.rf)
    refine ep_cv t80_15 rfl rfl (Nat.le_of_ble_eq_true rfl) (Nat.le_of_ble_eq_true rfl) (hb7) ?_
    refine ep_iln t80_18 rfl ?_
    refine ep_ifP t80_19 (ic_ne (by have := hw.1; omega) (by have := hw.1; omega)) (fun (c19 : ¬ x = u) => ?_) (fun (c19 : ¬ (¬ x = u)) => ?_)
    · refine ep_inc (b := nI (u + 1)) (L' := [some (.ref 7), some (.int (nI c)), some (.int (nI (rtC T c u))), some (.int (nI (u + 1)))]) t80_25 rfl (nI_add u 1) rfl (Nat.le_of_ble_eq_true rfl) ?_
      refine ep_gt t80_28 ?_
      rw [show rtC T c u = rtC T c (u + 1) from cnt_no (P := fun u => ∀ j, j < u → ¬ Cn T c u j) (fun h => h x (by omega) x1)]
      exact L_np_7 hA hw hc d (u + 1) σ2 (by omega) (fun r hr => (j1 r hr).trans (h1 r hr))
    · refine ep_inc (b := nI (rtC T c u + 1)) (L' := [some (.ref 7), some (.int (nI c)), some (.int (nI (rtC T c u + 1))), some (.int (nI u))]) t80_22 rfl (nI_add (rtC T c u) 1) rfl (Nat.le_of_ble_eq_true rfl) ?_
      refine ep_inc (b := nI (u + 1)) (L' := [some (.ref 7), some (.int (nI c)), some (.int (nI (rtC T c u + 1))), some (.int (nI (u + 1)))]) t80_25 rfl (nI_add u 1) rfl (Nat.le_of_ble_eq_true rfl) ?_
      refine ep_gt t80_28 ?_
      have hroot : ∀ j, j < u → ¬ Cn T c u j := by
        have e : x = u := Classical.byContradiction c19
        rw [e] at x2
        exact x2
      rw [show rtC T c u + 1 = rtC T c (u + 1) from cnt_yes (P := fun u => ∀ j, j < u → ¬ Cn T c u j) hroot]
      exact L_np_7 hA hw hc d (u + 1) σ2 (by omega) (fun r hr => (j1 r hr).trans (h1 r hr))
theorem cl_Net_parts_7 {X : gX} {q : Bool} {σ : gT1} {T : Nat → Nat} {c : Nat} (hA : (∀ j, j < 4 → σ 7 j = nI (T j)) ∧ ∀ k, k < T 3 → σ 8 k = nI (T (4 + k)) ∧ σ 9 k = nI (T (12 + k)) ∧ σ 10 k = nI (T (20 + k)) ∧ σ 11 k = sec T k) (hw : WF0 T) (hc : c < 2147483648)  : ClP X 80 [.ref 7, .int (nI c)] (47, g_rho q, σ) (fun v g1 => ∃ σ1, v = some (.int (nI (rtC T c (T 0)))) ∧ g1 = (47, g_rho q, σ1) ∧ ∀ r, r ≠ 15 → σ1 r = σ r) := by
  refine ClP.of ⟨Nat.le_of_ble_eq_true rfl, rfl⟩ ?_
  show EvP X 80 0 [some (.ref 7), some (.int (nI c)), none, none] [] (47, g_rho q, σ) _
  refine ep_k1 (w := nI 0) t80_0 rfl ?_
  refine ep_isn (L' := [some (.ref 7), some (.int (nI c)), some (.int (nI 0)), none]) t80_1 rfl (Nat.le_of_ble_eq_true rfl) ?_
  refine ep_k1 (w := nI 0) t80_2 rfl ?_
  refine ep_isn (L' := [some (.ref 7), some (.int (nI c)), some (.int (nI 0)), some (.int (nI 0))]) t80_3 rfl (Nat.le_of_ble_eq_true rfl) ?_
  exact L_np_7 hA hw hc (T 0) 0 σ (by omega) (fun _ _ => rfl)

theorem and_all {s n : Nat} (h : s < 2 ^ n) : s &&& (2 ^ n - 1) = s := by
  rw [Nat.and_two_pow_sub_one_eq_mod, Nat.mod_eq_of_lt h]
theorem L_sct_7 {X : gX} {σ : gT1} {T pr : Nat → Nat} {c l : Nat} (hN : NetC σ 7 T) (hw : WF0 T) (hpr : ∀ i, i < 3 → 1 ≤ pr i ∧ pr i ≤ 9) (h30 : ∀ s, s < 2 ^ T 3 → σ 30 s = oI (dS (lw T l) (pcs T pr) (fun s => s = c) (sound T) s)) : ∀ (d s : Nat), s + d = 2 ^ T 3 → EvP X 84 21 [some (.ref 0), some (.int (nI (cnt s (fun s => ¬ dS (lw T l) (pcs T pr) (fun s => s = c) (sound T) s = none)))), some (.int (nI s))] [] (47, g_rho false, σ) (fun v g1 => v = some (.int (nI (cnt (2 ^ T 3) (fun s => ¬ dS (lw T l) (pcs T pr) (fun s => s = c) (sound T) s = none)))) ∧ g1 = (47, g_rho false, σ))
  | 0, s, hk => by
    obtain rfl : s = 2 ^ T 3 := by omega
    refine ep_iln t84_21 rfl ?_
    refine ep_aln t84_22 rfl ?_
    refine ep_getr (q := 7) t84_23 rfl (Nat.le_of_ble_eq_true rfl) rfl (rfl) ?_
    refine ep_cv t84_26 rfl rfl (Nat.le_of_ble_eq_true rfl) (Nat.le_of_ble_eq_true rfl) (cl_Net_all_7 (T := T) hN hw.2.1) ?_
    refine ep_ifP t84_29 (ic_gt (by have := pow_le_256 hw.2.1; omega) (by have := pow_le_256 hw.2.1; omega)) (fun (c29 : (2 ^ T 3 - 1) < (2 ^ T 3)) => ?_) (fun (c29 : ¬ ((2 ^ T 3 - 1) < (2 ^ T 3))) => (by have := Nat.two_pow_pos (T 3); omega))
    refine ep_iln t84_51 rfl ?_
    refine ep_ri t84_52 (fun h => absurd h (by decide)) ?_
    exact ⟨rfl, rfl⟩
  | d + 1, s, hk => by
    have hs : s < 2 ^ T 3 := by omega
    refine ep_iln t84_21 rfl ?_
    refine ep_aln t84_22 rfl ?_
    refine ep_getr (q := 7) t84_23 rfl (Nat.le_of_ble_eq_true rfl) rfl (rfl) ?_
    refine ep_cv t84_26 rfl rfl (Nat.le_of_ble_eq_true rfl) (Nat.le_of_ble_eq_true rfl) (cl_Net_all_7 (T := T) hN hw.2.1) ?_
    refine ep_ifP t84_29 (ic_gt (by have := pow_le_256 hw.2.1; omega) (by have := pow_le_256 hw.2.1; omega)) (fun (c29 : (2 ^ T 3 - 1) < s) => (by omega)) (fun (c29 : ¬ ((2 ^ T 3 - 1) < s)) => ?_)
    cases hd : dS (lw T l) (pcs T pr) (fun s => s = c) (sound T) s with
    | none =>
      refine ep_aln t84_32 rfl ?_
      refine ep_getr (q := 30) t84_33 rfl (Nat.le_of_ble_eq_true rfl) rfl (rfl) ?_
      refine ep_iln t84_36 rfl ?_
      refine ep_aldN t84_37 rfl (Nat.le_of_ble_eq_true rfl) (Nat.ne_of_beq_eq_false rfl) (Nat.le_of_ble_eq_true rfl) (by have := pow_le_256 hw.2.1; have := mxO_le (D := dS (lw T l) (pcs T pr) (fun s => s = c) (sound T)) s (fun t x ht hd => dS_le hw hpr (by omega) hd); omega) ?_
      refine ep_val (b := (-1 : Int32)) ((h30 s hs).trans (by rw [hd]; rfl)) ?_
      refine ep_k1 (w := (-1)) t84_38 rfl ?_
      refine ep_if t84_39 (fun (c39 : ((-1 : Int32)) = ((-1))) => ?_) (fun (c39 : ¬ (((-1 : Int32)) = ((-1)))) => (by exact absurd rfl c39))
      refine ep_inc (b := nI (s + 1)) (L' := [some (.ref 0), some (.int (nI (cnt s (fun s => ¬ dS (lw T l) (pcs T pr) (fun s => s = c) (sound T) s = none)))), some (.int (nI (s + 1)))]) t84_45 rfl (nI_add s 1) rfl (Nat.le_of_ble_eq_true rfl) ?_
      refine ep_gt t84_48 ?_
      rw [cnt_no (P := fun s => ¬ dS (lw T l) (pcs T pr) (fun s => s = c) (sound T) s = none) (fun h => h hd)]
      exact L_sct_7 hN hw hpr h30 d (s + 1) (by omega)
    | some y =>
      have hy := dS_le hw hpr hs hd
      refine ep_aln t84_32 rfl ?_
      refine ep_getr (q := 30) t84_33 rfl (Nat.le_of_ble_eq_true rfl) rfl (rfl) ?_
      refine ep_iln t84_36 rfl ?_
      refine ep_aldN t84_37 rfl (Nat.le_of_ble_eq_true rfl) (Nat.ne_of_beq_eq_false rfl) (Nat.le_of_ble_eq_true rfl) (by have := pow_le_256 hw.2.1; have := mxO_le (D := dS (lw T l) (pcs T pr) (fun s => s = c) (sound T)) s (fun t x ht hd => dS_le hw hpr (by omega) hd); omega) ?_
      refine ep_val (b := nI y) ((h30 s hs).trans (by rw [hd]; rfl)) ?_
      refine ep_k1 (w := (-1)) t84_38 rfl ?_
      refine ep_if t84_39 (fun (c39 : (nI y) = ((-1))) => (by exact absurd c39 (nI_m1 (by omega)))) (fun (c39 : ¬ ((nI y) = ((-1)))) => ?_)
      refine ep_inc (b := nI (cnt s (fun s => ¬ dS (lw T l) (pcs T pr) (fun s => s = c) (sound T) s = none) + 1)) (L' := [some (.ref 0), some (.int (nI (cnt s (fun s => ¬ dS (lw T l) (pcs T pr) (fun s => s = c) (sound T) s = none) + 1))), some (.int (nI s))]) t84_42 rfl (nI_add (cnt s (fun s => ¬ dS (lw T l) (pcs T pr) (fun s => s = c) (sound T) s = none)) 1) rfl (Nat.le_of_ble_eq_true rfl) ?_
      refine ep_inc (b := nI (s + 1)) (L' := [some (.ref 0), some (.int (nI (cnt s (fun s => ¬ dS (lw T l) (pcs T pr) (fun s => s = c) (sound T) s = none) + 1))), some (.int (nI (s + 1)))]) t84_45 rfl (nI_add s 1) rfl (Nat.le_of_ble_eq_true rfl) ?_
      refine ep_gt t84_48 ?_
      rw [cnt_yes (P := fun s => ¬ dS (lw T l) (pcs T pr) (fun s => s = c) (sound T) s = none) (fun h => by rw [hd] at h; cases h)]
      exact L_sct_7 hN hw hpr h30 d (s + 1) (by omega)
theorem cl_B_states_7 {X : gX} {σ : gT1} {T pr : Nat → Nat} {c l : Nat} (hN : NetC σ 7 T) (hw : WF0 T) (hpr : ∀ i, i < 3 → 1 ≤ pr i ∧ pr i ≤ 9) (hc : c < 2 ^ T 3) (hl : l < 2 ^ T 3) (e4 : σ 0 4 = nI c) (e5 : σ 0 5 = nI l) (e25 : ∀ i, i < 3 → σ 25 i = nI (pr i))  : ClP X 84 [.ref 0] (47, g_rho false, σ) (fun v g1 => ∃ σ', v = some (.int (nI (cnt (2 ^ T 3) (fun s => ¬ dS (lw T l) (pcs T pr) (fun s => s = c) (sound T) s = none)))) ∧ g1 = (47, g_rho false, σ') ∧ ∀ r, r ≠ 30 → σ' r = σ r) := by
  have hx8 := pow_le_256 hw.2.1
  have hpp := Nat.two_pow_pos (T 3)
  refine ClP.of ⟨Nat.le_of_ble_eq_true rfl, rfl⟩ ?_
  show EvP X 84 0 [some (.ref 0), none, none] [] (47, g_rho false, σ) _
  refine ep_aln t84_0 rfl ?_
  refine ep_aln t84_1 rfl ?_
  refine ep_getr (q := 7) t84_2 rfl (Nat.le_of_ble_eq_true rfl) rfl (rfl) ?_
  refine ep_cv t84_5 rfl rfl (Nat.le_of_ble_eq_true rfl) (Nat.le_of_ble_eq_true rfl) (cl_Net_all_7 (T := T) hN hw.2.1) ?_
  refine ep_aln t84_8 rfl ?_
  refine ep_get t84_9 rfl (Nat.le_of_ble_eq_true rfl) rfl ?_
  refine ep_val (b := nI c) (e4) ?_
  refine ep_k1 (w := nI 0) t84_12 rfl ?_
  refine ep_k1 (w := nI 0) t84_13 rfl ?_
  obtain ⟨v7, g7, ha7, rfl, σ3, rfl, b1, b2⟩ := cl_B_aim_7 (X := X) (σ := σ) (T := T) (pr := pr) (l := l) (W := fun s => s = c) hN hw hl e5 e25 hpr (set := 2 ^ T 3 - 1) (wd := c) (dae := 0) (lit := 0) ⟨by omega, by omega, by omega, by omega⟩ (fun s hs _ => by rw [Nat.and_zero, Nat.and_zero, and_all hs]; exact ⟨fun h => h.1, fun h => ⟨h, rfl, rfl⟩⟩)
  have hN3 : NetC σ3 (np false) T := NetC.mv (q := false) hN (fun r g1 g2 => b1 r (by omega))
  refine ep_cv t84_14 rfl rfl (Nat.le_of_ble_eq_true rfl) (Nat.le_of_ble_eq_true rfl) (ha7) ?_
  refine ep_k1 (w := nI 0) t84_17 rfl ?_
  refine ep_isn (L' := [some (.ref 0), some (.int (nI 0)), none]) t84_18 rfl (Nat.le_of_ble_eq_true rfl) ?_
  refine ep_k1 (w := nI 0) t84_19 rfl ?_
  refine ep_isn (L' := [some (.ref 0), some (.int (nI 0)), some (.int (nI 0))]) t84_20 rfl (Nat.le_of_ble_eq_true rfl) ?_
  refine (L_sct_7 (σ := σ3) hN3 hw hpr b2 (2 ^ T 3) 0 (by omega)).mono (fun v g1 h => ?_)
  exact ⟨σ3, h.1, h.2, b1⟩

theorem L_sfr_7 {X : gX} {σ : gT1} {T pr : Nat → Nat} {c l : Nat} (hN : NetC σ 7 T) (hw : WF0 T) (hpr : ∀ i, i < 3 → 1 ≤ pr i ∧ pr i ≤ 9) (h30 : ∀ s, s < 2 ^ T 3 → σ 30 s = oI (dS (lw T l) (pcs T pr) (fun s => s = c) (sound T) s)) : ∀ (d s : Nat), s + d = 2 ^ T 3 → EvP X 85 21 [some (.ref 0), some (.int (nI (mxO (dS (lw T l) (pcs T pr) (fun s => s = c) (sound T)) s))), some (.int (nI s))] [] (47, g_rho false, σ) (fun v g1 => v = some (.int (nI (mxO (dS (lw T l) (pcs T pr) (fun s => s = c) (sound T)) (2 ^ T 3)))) ∧ g1 = (47, g_rho false, σ))
  | 0, s, hk => by
    obtain rfl : s = 2 ^ T 3 := by omega
    refine ep_iln t85_21 rfl ?_
    refine ep_aln t85_22 rfl ?_
    refine ep_getr (q := 7) t85_23 rfl (Nat.le_of_ble_eq_true rfl) rfl (rfl) ?_
    refine ep_cv t85_26 rfl rfl (Nat.le_of_ble_eq_true rfl) (Nat.le_of_ble_eq_true rfl) (cl_Net_all_7 (T := T) hN hw.2.1) ?_
    refine ep_ifP t85_29 (ic_gt (by have := pow_le_256 hw.2.1; omega) (by have := pow_le_256 hw.2.1; omega)) (fun (c29 : (2 ^ T 3 - 1) < (2 ^ T 3)) => ?_) (fun (c29 : ¬ ((2 ^ T 3 - 1) < (2 ^ T 3))) => (by have := Nat.two_pow_pos (T 3); omega))
    refine ep_iln t85_49 rfl ?_
    refine ep_ri t85_50 (fun h => absurd h (by decide)) ?_
    exact ⟨rfl, rfl⟩
  | d + 1, s, hk => by
    have hs : s < 2 ^ T 3 := by omega
    refine ep_iln t85_21 rfl ?_
    refine ep_aln t85_22 rfl ?_
    refine ep_getr (q := 7) t85_23 rfl (Nat.le_of_ble_eq_true rfl) rfl (rfl) ?_
    refine ep_cv t85_26 rfl rfl (Nat.le_of_ble_eq_true rfl) (Nat.le_of_ble_eq_true rfl) (cl_Net_all_7 (T := T) hN hw.2.1) ?_
    refine ep_ifP t85_29 (ic_gt (by have := pow_le_256 hw.2.1; omega) (by have := pow_le_256 hw.2.1; omega)) (fun (c29 : (2 ^ T 3 - 1) < s) => (by omega)) (fun (c29 : ¬ ((2 ^ T 3 - 1) < s)) => ?_)
    cases hd : dS (lw T l) (pcs T pr) (fun s => s = c) (sound T) s with
    | none =>
      refine ep_iln t85_32 rfl ?_
      refine ep_aln t85_33 rfl ?_
      refine ep_getr (q := 30) t85_34 rfl (Nat.le_of_ble_eq_true rfl) rfl (rfl) ?_
      refine ep_iln t85_37 rfl ?_
      refine ep_aldN t85_38 rfl (Nat.le_of_ble_eq_true rfl) (Nat.ne_of_beq_eq_false rfl) (Nat.le_of_ble_eq_true rfl) (by have := pow_le_256 hw.2.1; have := mxO_le (D := dS (lw T l) (pcs T pr) (fun s => s = c) (sound T)) s (fun t x ht hd => dS_le hw hpr (by omega) hd); omega) ?_
      refine ep_val (b := (-1 : Int32)) ((h30 s hs).trans (by rw [hd]; rfl)) ?_
      refine ep_maxm t85_39 (by have := pow_le_256 hw.2.1; have := mxO_le (D := dS (lw T l) (pcs T pr) (fun s => s = c) (sound T)) s (fun t x ht hd => dS_le hw hpr (by omega) hd); omega) (Nat.le_of_ble_eq_true rfl) ?_
      refine ep_isn (L' := [some (.ref 0), some (.int (nI (mxO (dS (lw T l) (pcs T pr) (fun s => s = c) (sound T)) s))), some (.int (nI s))]) t85_42 rfl (Nat.le_of_ble_eq_true rfl) ?_
      refine ep_inc (b := nI (s + 1)) (L' := [some (.ref 0), some (.int (nI (mxO (dS (lw T l) (pcs T pr) (fun s => s = c) (sound T)) s))), some (.int (nI (s + 1)))]) t85_43 rfl (nI_add s 1) rfl (Nat.le_of_ble_eq_true rfl) ?_
      refine ep_gt t85_46 ?_
      rw [mxO_none hd]
      exact L_sfr_7 hN hw hpr h30 d (s + 1) (by omega)
    | some y =>
      have hy := dS_le hw hpr hs hd
      refine ep_iln t85_32 rfl ?_
      refine ep_aln t85_33 rfl ?_
      refine ep_getr (q := 30) t85_34 rfl (Nat.le_of_ble_eq_true rfl) rfl (rfl) ?_
      refine ep_iln t85_37 rfl ?_
      refine ep_aldN t85_38 rfl (Nat.le_of_ble_eq_true rfl) (Nat.ne_of_beq_eq_false rfl) (Nat.le_of_ble_eq_true rfl) (by have := pow_le_256 hw.2.1; have := mxO_le (D := dS (lw T l) (pcs T pr) (fun s => s = c) (sound T)) s (fun t x ht hd => dS_le hw hpr (by omega) hd); omega) ?_
      refine ep_val (b := nI y) ((h30 s hs).trans (by rw [hd]; rfl)) ?_
      refine ep_max (a := mxO (dS (lw T l) (pcs T pr) (fun s => s = c) (sound T)) s) (b := y) t85_39 (by have := pow_le_256 hw.2.1; have := mxO_le (D := dS (lw T l) (pcs T pr) (fun s => s = c) (sound T)) s (fun t x ht hd => dS_le hw hpr (by omega) hd); omega) (by have := pow_le_256 hw.2.1; have := mxO_le (D := dS (lw T l) (pcs T pr) (fun s => s = c) (sound T)) s (fun t x ht hd => dS_le hw hpr (by omega) hd); omega) (Nat.le_of_ble_eq_true rfl) ?_
      refine ep_isn (L' := [some (.ref 0), some (.int (nI (max (mxO (dS (lw T l) (pcs T pr) (fun s => s = c) (sound T)) s) y))), some (.int (nI s))]) t85_42 rfl (Nat.le_of_ble_eq_true rfl) ?_
      refine ep_inc (b := nI (s + 1)) (L' := [some (.ref 0), some (.int (nI (max (mxO (dS (lw T l) (pcs T pr) (fun s => s = c) (sound T)) s) y))), some (.int (nI (s + 1)))]) t85_43 rfl (nI_add s 1) rfl (Nat.le_of_ble_eq_true rfl) ?_
      refine ep_gt t85_46 ?_
      rw [mxO_some hd]
      exact L_sfr_7 hN hw hpr h30 d (s + 1) (by omega)
theorem cl_B_far_7 {X : gX} {σ : gT1} {T pr : Nat → Nat} {c l : Nat} (hN : NetC σ 7 T) (hw : WF0 T) (hpr : ∀ i, i < 3 → 1 ≤ pr i ∧ pr i ≤ 9) (hc : c < 2 ^ T 3) (hl : l < 2 ^ T 3) (e4 : σ 0 4 = nI c) (e5 : σ 0 5 = nI l) (e25 : ∀ i, i < 3 → σ 25 i = nI (pr i))  : ClP X 85 [.ref 0] (47, g_rho false, σ) (fun v g1 => ∃ σ', v = some (.int (nI (mxO (dS (lw T l) (pcs T pr) (fun s => s = c) (sound T)) (2 ^ T 3)))) ∧ g1 = (47, g_rho false, σ') ∧ ∀ r, r ≠ 30 → σ' r = σ r) := by
  have hx8 := pow_le_256 hw.2.1
  have hpp := Nat.two_pow_pos (T 3)
  refine ClP.of ⟨Nat.le_of_ble_eq_true rfl, rfl⟩ ?_
  show EvP X 85 0 [some (.ref 0), none, none] [] (47, g_rho false, σ) _
  refine ep_aln t85_0 rfl ?_
  refine ep_aln t85_1 rfl ?_
  refine ep_getr (q := 7) t85_2 rfl (Nat.le_of_ble_eq_true rfl) rfl (rfl) ?_
  refine ep_cv t85_5 rfl rfl (Nat.le_of_ble_eq_true rfl) (Nat.le_of_ble_eq_true rfl) (cl_Net_all_7 (T := T) hN hw.2.1) ?_
  refine ep_aln t85_8 rfl ?_
  refine ep_get t85_9 rfl (Nat.le_of_ble_eq_true rfl) rfl ?_
  refine ep_val (b := nI c) (e4) ?_
  refine ep_k1 (w := nI 0) t85_12 rfl ?_
  refine ep_k1 (w := nI 0) t85_13 rfl ?_
  obtain ⟨v7, g7, ha7, rfl, σ3, rfl, b1, b2⟩ := cl_B_aim_7 (X := X) (σ := σ) (T := T) (pr := pr) (l := l) (W := fun s => s = c) hN hw hl e5 e25 hpr (set := 2 ^ T 3 - 1) (wd := c) (dae := 0) (lit := 0) ⟨by omega, by omega, by omega, by omega⟩ (fun s hs _ => by rw [Nat.and_zero, Nat.and_zero, and_all hs]; exact ⟨fun h => h.1, fun h => ⟨h, rfl, rfl⟩⟩)
  have hN3 : NetC σ3 (np false) T := NetC.mv (q := false) hN (fun r g1 g2 => b1 r (by omega))
  refine ep_cv t85_14 rfl rfl (Nat.le_of_ble_eq_true rfl) (Nat.le_of_ble_eq_true rfl) (ha7) ?_
  refine ep_k1 (w := nI 0) t85_17 rfl ?_
  refine ep_isn (L' := [some (.ref 0), some (.int (nI 0)), none]) t85_18 rfl (Nat.le_of_ble_eq_true rfl) ?_
  refine ep_k1 (w := nI 0) t85_19 rfl ?_
  refine ep_isn (L' := [some (.ref 0), some (.int (nI 0)), some (.int (nI 0))]) t85_20 rfl (Nat.le_of_ble_eq_true rfl) ?_
  refine (L_sfr_7 (σ := σ3) hN3 hw hpr b2 (2 ^ T 3) 0 (by omega)).mono (fun v g1 h => ?_)
  exact ⟨σ3, h.1, h.2, b1⟩

theorem L_bl_16 {X : gX} {σ : gT1} {T : Nat → Nat} {c l : Nat} (hN : NetC σ 16 T) (h0 : T 0 ≤ 6) (h3 : T 3 ≤ 8) (hc : c < 2 ^ T 3) (hl : l < 2 ^ T 3) (e4 : σ 0 4 = nI c) (e5 : σ 0 5 = nI l) : ∀ (d k : Nat), k + d = T 3 → EvP X 79 4 [some (.ref 0), some (.int (nI (mk k (fun k => why T l c k = 0)))), some (.int (nI k))] [] (47, g_rho true, σ) (fun v g1 => v = some (.int (nI (mk (T 3) (fun k => why T l c k = 0)))) ∧ g1 = (47, g_rho true, σ))
  | 0, k, hk => by
    obtain rfl : k = T 3 := by omega
    refine ep_iln t79_4 rfl ?_
    refine ep_aln t79_5 rfl ?_
    refine ep_getr (q := 16) t79_6 rfl (Nat.le_of_ble_eq_true rfl) rfl (rfl) ?_
    refine ep_get t79_9 rfl (Nat.le_of_ble_eq_true rfl) rfl ?_
    refine ep_val (b := nI (T 3)) (hN.1 3 (by decide)) ?_
    refine ep_ifP t79_12 (ic_ge (by omega) (by omega)) (fun (c12 : (T 3) ≤ (T 3)) => ?_) (fun (c12 : ¬ ((T 3) ≤ (T 3))) => (by exact absurd (Nat.le_refl _) c12))
    refine ep_iln t79_35 rfl ?_
    refine ep_ri t79_36 (fun h => absurd h (by decide)) ?_
    exact ⟨rfl, rfl⟩
  | d + 1, k, hk => by
    have hk3 : k < T 3 := by omega
    refine ep_iln t79_4 rfl ?_
    refine ep_aln t79_5 rfl ?_
    refine ep_getr (q := 16) t79_6 rfl (Nat.le_of_ble_eq_true rfl) rfl (rfl) ?_
    refine ep_get t79_9 rfl (Nat.le_of_ble_eq_true rfl) rfl ?_
    refine ep_val (b := nI (T 3)) (hN.1 3 (by decide)) ?_
    refine ep_ifP t79_12 (ic_ge (by have := why_le T l c k; omega) (by have := why_le T l c k; omega)) (fun (c12 : (T 3) ≤ k) => (by omega)) (fun (c12 : ¬ ((T 3) ≤ k)) => ?_)
    refine ep_aln t79_15 rfl ?_
    refine ep_iln t79_16 rfl ?_
    refine ep_cv t79_17 rfl rfl (Nat.le_of_ble_eq_true rfl) (Nat.le_of_ble_eq_true rfl) (cl_B_whyNot_16 (T := T) (c := c) (l := l) hN h0 h3 hc hl e4 e5 hk3) ?_
    refine ep_if0P t79_20 (ic0_ne (by have := why_le T l c k; omega)) (fun (c20 : ¬ (why T l c k) = 0) => ?_) (fun (c20 : ¬ (¬ (why T l c k) = 0)) => ?_)
    · refine ep_inc (b := nI (k + 1)) (L' := [some (.ref 0), some (.int (nI (mk k (fun k => why T l c k = 0)))), some (.int (nI (k + 1)))]) t79_29 rfl (nI_add k 1) rfl (Nat.le_of_ble_eq_true rfl) ?_
      refine ep_gt t79_32 ?_
      rw [mk_no (P := fun k => why T l c k = 0) c20]
      exact L_bl_16 hN h0 h3 hc hl e4 e5 d (k + 1) (by omega)
    · refine ep_iln t79_23 rfl ?_
      refine ep_k1 (w := nI 1) t79_24 rfl ?_
      refine ep_iln t79_25 rfl ?_
      refine ep_oneN (b := k) t79_26 (by have := why_le T l c k; omega) ?_
      refine ep_orN (a := mk k (fun k => why T l c k = 0)) (b := 2 ^ k) t79_27 ?_
      refine ep_isn (L' := [some (.ref 0), some (.int (nI ((mk k (fun k => why T l c k = 0)) ||| (2 ^ k)))), some (.int (nI k))]) t79_28 rfl (Nat.le_of_ble_eq_true rfl) ?_
      refine ep_inc (b := nI (k + 1)) (L' := [some (.ref 0), some (.int (nI ((mk k (fun k => why T l c k = 0)) ||| (2 ^ k)))), some (.int (nI (k + 1)))]) t79_29 rfl (nI_add k 1) rfl (Nat.le_of_ble_eq_true rfl) ?_
      refine ep_gt t79_32 ?_
      rw [mk_yes (P := fun k => why T l c k = 0) (Classical.byContradiction c20)]
      exact L_bl_16 hN h0 h3 hc hl e4 e5 d (k + 1) (by omega)
theorem cl_B_lawful_16 {X : gX} {σ : gT1} {T : Nat → Nat} {c l : Nat} (hN : NetC σ 16 T) (h0 : T 0 ≤ 6) (h3 : T 3 ≤ 8) (hc : c < 2 ^ T 3) (hl : l < 2 ^ T 3) (e4 : σ 0 4 = nI c) (e5 : σ 0 5 = nI l)  : Cl X 79 [.ref 0] (47, g_rho true, σ) (some (.int (nI (mk (T 3) (fun k => why T l c k = 0))))) (47, g_rho true, σ) := by
  refine Cl.of ⟨Nat.le_of_ble_eq_true rfl, rfl⟩ ?_
  show EvP X 79 0 [some (.ref 0), none, none] [] (47, g_rho true, σ) _
  refine ep_k1 (w := nI 0) t79_0 rfl ?_
  refine ep_isn (L' := [some (.ref 0), some (.int (nI 0)), none]) t79_1 rfl (Nat.le_of_ble_eq_true rfl) ?_
  refine ep_k1 (w := nI 0) t79_2 rfl ?_
  refine ep_isn (L' := [some (.ref 0), some (.int (nI 0)), some (.int (nI 0))]) t79_3 rfl (Nat.le_of_ble_eq_true rfl) ?_
  exact L_bl_16 hN h0 h3 hc hl e4 e5 (T 3) 0 (by omega)

theorem L_np_16 {X : gX} {q : Bool} {σ : gT1} {T : Nat → Nat} {c : Nat} (hA : (∀ j, j < 4 → σ 16 j = nI (T j)) ∧ ∀ k, k < T 3 → σ 17 k = nI (T (4 + k)) ∧ σ 18 k = nI (T (12 + k)) ∧ σ 19 k = nI (T (20 + k)) ∧ σ 20 k = sec T k) (hw : WF0 T) (hc : c < 2147483648) : ∀ (d u : Nat) (σ' : gT1), u + d = T 0 → (∀ r, r ≠ 24 → σ' r = σ r) → EvP X 80 4 [some (.ref 16), some (.int (nI c)), some (.int (nI (rtC T c u))), some (.int (nI u))] [] (47, g_rho q, σ') (fun v g1 => ∃ σ1, v = some (.int (nI (rtC T c (T 0)))) ∧ g1 = (47, g_rho q, σ1) ∧ ∀ r, r ≠ 24 → σ1 r = σ r)
  | 0, u, σ', hk, h1 => by
    obtain rfl : u = T 0 := by omega
    refine ep_iln t80_4 rfl ?_
    refine ep_aln t80_5 rfl ?_
    refine ep_get t80_6 rfl (Nat.le_of_ble_eq_true rfl) rfl ?_
    refine ep_val (b := nI (T 0)) ((congrFun (h1 16 (by decide)) 0).trans (hA.1 0 (by decide))) ?_
    refine ep_ifP t80_9 (ic_ge (by have := hw.1; omega) (by have := hw.1; omega)) (fun (c9 : (T 0) ≤ (T 0)) => ?_) (fun (c9 : ¬ ((T 0) ≤ (T 0))) => (by exact absurd (Nat.le_refl _) c9))
    refine ep_iln t80_31 rfl ?_
    refine ep_ri t80_32 (fun h => absurd h (by decide)) ?_
    exact ⟨σ', rfl, rfl, h1⟩
  | d + 1, u, σ', hk, h1 => by
    have hu : u < T 0 := by omega
    refine ep_iln t80_4 rfl ?_
    refine ep_aln t80_5 rfl ?_
    refine ep_get t80_6 rfl (Nat.le_of_ble_eq_true rfl) rfl ?_
    refine ep_val (b := nI (T 0)) ((congrFun (h1 16 (by decide)) 0).trans (hA.1 0 (by decide))) ?_
    refine ep_ifP t80_9 (ic_ge (by have := hw.1; omega) (by have := hw.1; omega)) (fun (c9 : (T 0) ≤ u) => (by omega)) (fun (c9 : ¬ ((T 0) ≤ u)) => ?_)
    refine ep_aln t80_12 rfl ?_
    refine ep_iln t80_13 rfl ?_
    refine ep_iln t80_14 rfl ?_
    obtain ⟨v7, g7, hb7, x, σ2, rfl, rfl, j1, x1, x2⟩ := cl_Net_lowest_16 (X := X) (q := q) (σ := σ') (T := T) (c := c) (u := u) (by rw [h1 16 (by decide), h1 17 (by decide), h1 18 (by decide), h1 19 (by decide), h1 20 (by decide)]; exact hA) hw hc hu
    have hxu : x ≤ u := Nat.le_of_not_lt (fun h => x2 u h Cn.rf)
    refine ep_cv t80_15 rfl rfl (Nat.le_of_ble_eq_true rfl) (Nat.le_of_ble_eq_true rfl) (hb7) ?_
    refine ep_iln t80_18 rfl ?_
    refine ep_ifP t80_19 (ic_ne (by have := hw.1; omega) (by have := hw.1; omega)) (fun (c19 : ¬ x = u) => ?_) (fun (c19 : ¬ (¬ x = u)) => ?_)
    · refine ep_inc (b := nI (u + 1)) (L' := [some (.ref 16), some (.int (nI c)), some (.int (nI (rtC T c u))), some (.int (nI (u + 1)))]) t80_25 rfl (nI_add u 1) rfl (Nat.le_of_ble_eq_true rfl) ?_
      refine ep_gt t80_28 ?_
      rw [show rtC T c u = rtC T c (u + 1) from cnt_no (P := fun u => ∀ j, j < u → ¬ Cn T c u j) (fun h => h x (by omega) x1)]
      exact L_np_16 hA hw hc d (u + 1) σ2 (by omega) (fun r hr => (j1 r hr).trans (h1 r hr))
    · refine ep_inc (b := nI (rtC T c u + 1)) (L' := [some (.ref 16), some (.int (nI c)), some (.int (nI (rtC T c u + 1))), some (.int (nI u))]) t80_22 rfl (nI_add (rtC T c u) 1) rfl (Nat.le_of_ble_eq_true rfl) ?_
      refine ep_inc (b := nI (u + 1)) (L' := [some (.ref 16), some (.int (nI c)), some (.int (nI (rtC T c u + 1))), some (.int (nI (u + 1)))]) t80_25 rfl (nI_add u 1) rfl (Nat.le_of_ble_eq_true rfl) ?_
      refine ep_gt t80_28 ?_
      have hroot : ∀ j, j < u → ¬ Cn T c u j := by
        have e : x = u := Classical.byContradiction c19
        rw [e] at x2
        exact x2
      rw [show rtC T c u + 1 = rtC T c (u + 1) from cnt_yes (P := fun u => ∀ j, j < u → ¬ Cn T c u j) hroot]
      exact L_np_16 hA hw hc d (u + 1) σ2 (by omega) (fun r hr => (j1 r hr).trans (h1 r hr))
theorem cl_Net_parts_16 {X : gX} {q : Bool} {σ : gT1} {T : Nat → Nat} {c : Nat} (hA : (∀ j, j < 4 → σ 16 j = nI (T j)) ∧ ∀ k, k < T 3 → σ 17 k = nI (T (4 + k)) ∧ σ 18 k = nI (T (12 + k)) ∧ σ 19 k = nI (T (20 + k)) ∧ σ 20 k = sec T k) (hw : WF0 T) (hc : c < 2147483648)  : ClP X 80 [.ref 16, .int (nI c)] (47, g_rho q, σ) (fun v g1 => ∃ σ1, v = some (.int (nI (rtC T c (T 0)))) ∧ g1 = (47, g_rho q, σ1) ∧ ∀ r, r ≠ 24 → σ1 r = σ r) := by
  refine ClP.of ⟨Nat.le_of_ble_eq_true rfl, rfl⟩ ?_
  show EvP X 80 0 [some (.ref 16), some (.int (nI c)), none, none] [] (47, g_rho q, σ) _
  refine ep_k1 (w := nI 0) t80_0 rfl ?_
  refine ep_isn (L' := [some (.ref 16), some (.int (nI c)), some (.int (nI 0)), none]) t80_1 rfl (Nat.le_of_ble_eq_true rfl) ?_
  refine ep_k1 (w := nI 0) t80_2 rfl ?_
  refine ep_isn (L' := [some (.ref 16), some (.int (nI c)), some (.int (nI 0)), some (.int (nI 0))]) t80_3 rfl (Nat.le_of_ble_eq_true rfl) ?_
  exact L_np_16 hA hw hc (T 0) 0 σ (by omega) (fun _ _ => rfl)

theorem L_sct_16 {X : gX} {σ : gT1} {T pr : Nat → Nat} {c l : Nat} (hN : NetC σ 16 T) (hw : WF0 T) (hpr : ∀ i, i < 3 → 1 ≤ pr i ∧ pr i ≤ 9) (h30 : ∀ s, s < 2 ^ T 3 → σ 30 s = oI (dS (lw T l) (pcs T pr) (fun s => s = c) (sound T) s)) : ∀ (d s : Nat), s + d = 2 ^ T 3 → EvP X 84 21 [some (.ref 0), some (.int (nI (cnt s (fun s => ¬ dS (lw T l) (pcs T pr) (fun s => s = c) (sound T) s = none)))), some (.int (nI s))] [] (47, g_rho true, σ) (fun v g1 => v = some (.int (nI (cnt (2 ^ T 3) (fun s => ¬ dS (lw T l) (pcs T pr) (fun s => s = c) (sound T) s = none)))) ∧ g1 = (47, g_rho true, σ))
  | 0, s, hk => by
    obtain rfl : s = 2 ^ T 3 := by omega
    refine ep_iln t84_21 rfl ?_
    refine ep_aln t84_22 rfl ?_
    refine ep_getr (q := 16) t84_23 rfl (Nat.le_of_ble_eq_true rfl) rfl (rfl) ?_
    refine ep_cv t84_26 rfl rfl (Nat.le_of_ble_eq_true rfl) (Nat.le_of_ble_eq_true rfl) (cl_Net_all_16 (T := T) hN hw.2.1) ?_
    refine ep_ifP t84_29 (ic_gt (by have := pow_le_256 hw.2.1; omega) (by have := pow_le_256 hw.2.1; omega)) (fun (c29 : (2 ^ T 3 - 1) < (2 ^ T 3)) => ?_) (fun (c29 : ¬ ((2 ^ T 3 - 1) < (2 ^ T 3))) => (by have := Nat.two_pow_pos (T 3); omega))
    refine ep_iln t84_51 rfl ?_
    refine ep_ri t84_52 (fun h => absurd h (by decide)) ?_
    exact ⟨rfl, rfl⟩
  | d + 1, s, hk => by
    have hs : s < 2 ^ T 3 := by omega
    refine ep_iln t84_21 rfl ?_
    refine ep_aln t84_22 rfl ?_
    refine ep_getr (q := 16) t84_23 rfl (Nat.le_of_ble_eq_true rfl) rfl (rfl) ?_
    refine ep_cv t84_26 rfl rfl (Nat.le_of_ble_eq_true rfl) (Nat.le_of_ble_eq_true rfl) (cl_Net_all_16 (T := T) hN hw.2.1) ?_
    refine ep_ifP t84_29 (ic_gt (by have := pow_le_256 hw.2.1; omega) (by have := pow_le_256 hw.2.1; omega)) (fun (c29 : (2 ^ T 3 - 1) < s) => (by omega)) (fun (c29 : ¬ ((2 ^ T 3 - 1) < s)) => ?_)
    cases hd : dS (lw T l) (pcs T pr) (fun s => s = c) (sound T) s with
    | none =>
      refine ep_aln t84_32 rfl ?_
      refine ep_getr (q := 30) t84_33 rfl (Nat.le_of_ble_eq_true rfl) rfl (rfl) ?_
      refine ep_iln t84_36 rfl ?_
      refine ep_aldN t84_37 rfl (Nat.le_of_ble_eq_true rfl) (Nat.ne_of_beq_eq_false rfl) (Nat.le_of_ble_eq_true rfl) (by have := pow_le_256 hw.2.1; have := mxO_le (D := dS (lw T l) (pcs T pr) (fun s => s = c) (sound T)) s (fun t x ht hd => dS_le hw hpr (by omega) hd); omega) ?_
      refine ep_val (b := (-1 : Int32)) ((h30 s hs).trans (by rw [hd]; rfl)) ?_
      refine ep_k1 (w := (-1)) t84_38 rfl ?_
      refine ep_if t84_39 (fun (c39 : ((-1 : Int32)) = ((-1))) => ?_) (fun (c39 : ¬ (((-1 : Int32)) = ((-1)))) => (by exact absurd rfl c39))
      refine ep_inc (b := nI (s + 1)) (L' := [some (.ref 0), some (.int (nI (cnt s (fun s => ¬ dS (lw T l) (pcs T pr) (fun s => s = c) (sound T) s = none)))), some (.int (nI (s + 1)))]) t84_45 rfl (nI_add s 1) rfl (Nat.le_of_ble_eq_true rfl) ?_
      refine ep_gt t84_48 ?_
      rw [cnt_no (P := fun s => ¬ dS (lw T l) (pcs T pr) (fun s => s = c) (sound T) s = none) (fun h => h hd)]
      exact L_sct_16 hN hw hpr h30 d (s + 1) (by omega)
    | some y =>
      have hy := dS_le hw hpr hs hd
      refine ep_aln t84_32 rfl ?_
      refine ep_getr (q := 30) t84_33 rfl (Nat.le_of_ble_eq_true rfl) rfl (rfl) ?_
      refine ep_iln t84_36 rfl ?_
      refine ep_aldN t84_37 rfl (Nat.le_of_ble_eq_true rfl) (Nat.ne_of_beq_eq_false rfl) (Nat.le_of_ble_eq_true rfl) (by have := pow_le_256 hw.2.1; have := mxO_le (D := dS (lw T l) (pcs T pr) (fun s => s = c) (sound T)) s (fun t x ht hd => dS_le hw hpr (by omega) hd); omega) ?_
      refine ep_val (b := nI y) ((h30 s hs).trans (by rw [hd]; rfl)) ?_
      refine ep_k1 (w := (-1)) t84_38 rfl ?_
      refine ep_if t84_39 (fun (c39 : (nI y) = ((-1))) => (by exact absurd c39 (nI_m1 (by omega)))) (fun (c39 : ¬ ((nI y) = ((-1)))) => ?_)
      refine ep_inc (b := nI (cnt s (fun s => ¬ dS (lw T l) (pcs T pr) (fun s => s = c) (sound T) s = none) + 1)) (L' := [some (.ref 0), some (.int (nI (cnt s (fun s => ¬ dS (lw T l) (pcs T pr) (fun s => s = c) (sound T) s = none) + 1))), some (.int (nI s))]) t84_42 rfl (nI_add (cnt s (fun s => ¬ dS (lw T l) (pcs T pr) (fun s => s = c) (sound T) s = none)) 1) rfl (Nat.le_of_ble_eq_true rfl) ?_
      refine ep_inc (b := nI (s + 1)) (L' := [some (.ref 0), some (.int (nI (cnt s (fun s => ¬ dS (lw T l) (pcs T pr) (fun s => s = c) (sound T) s = none) + 1))), some (.int (nI (s + 1)))]) t84_45 rfl (nI_add s 1) rfl (Nat.le_of_ble_eq_true rfl) ?_
      refine ep_gt t84_48 ?_
      rw [cnt_yes (P := fun s => ¬ dS (lw T l) (pcs T pr) (fun s => s = c) (sound T) s = none) (fun h => by rw [hd] at h; cases h)]
      exact L_sct_16 hN hw hpr h30 d (s + 1) (by omega)
theorem cl_B_states_16 {X : gX} {σ : gT1} {T pr : Nat → Nat} {c l : Nat} (hN : NetC σ 16 T) (hw : WF0 T) (hpr : ∀ i, i < 3 → 1 ≤ pr i ∧ pr i ≤ 9) (hc : c < 2 ^ T 3) (hl : l < 2 ^ T 3) (e4 : σ 0 4 = nI c) (e5 : σ 0 5 = nI l) (e25 : ∀ i, i < 3 → σ 25 i = nI (pr i))  : ClP X 84 [.ref 0] (47, g_rho true, σ) (fun v g1 => ∃ σ', v = some (.int (nI (cnt (2 ^ T 3) (fun s => ¬ dS (lw T l) (pcs T pr) (fun s => s = c) (sound T) s = none)))) ∧ g1 = (47, g_rho true, σ') ∧ ∀ r, r ≠ 30 → σ' r = σ r) := by
  have hx8 := pow_le_256 hw.2.1
  have hpp := Nat.two_pow_pos (T 3)
  refine ClP.of ⟨Nat.le_of_ble_eq_true rfl, rfl⟩ ?_
  show EvP X 84 0 [some (.ref 0), none, none] [] (47, g_rho true, σ) _
  refine ep_aln t84_0 rfl ?_
  refine ep_aln t84_1 rfl ?_
  refine ep_getr (q := 16) t84_2 rfl (Nat.le_of_ble_eq_true rfl) rfl (rfl) ?_
  refine ep_cv t84_5 rfl rfl (Nat.le_of_ble_eq_true rfl) (Nat.le_of_ble_eq_true rfl) (cl_Net_all_16 (T := T) hN hw.2.1) ?_
  refine ep_aln t84_8 rfl ?_
  refine ep_get t84_9 rfl (Nat.le_of_ble_eq_true rfl) rfl ?_
  refine ep_val (b := nI c) (e4) ?_
  refine ep_k1 (w := nI 0) t84_12 rfl ?_
  refine ep_k1 (w := nI 0) t84_13 rfl ?_
  obtain ⟨v7, g7, ha7, rfl, σ3, rfl, b1, b2⟩ := cl_B_aim_16 (X := X) (σ := σ) (T := T) (pr := pr) (l := l) (W := fun s => s = c) hN hw hl e5 e25 hpr (set := 2 ^ T 3 - 1) (wd := c) (dae := 0) (lit := 0) ⟨by omega, by omega, by omega, by omega⟩ (fun s hs _ => by rw [Nat.and_zero, Nat.and_zero, and_all hs]; exact ⟨fun h => h.1, fun h => ⟨h, rfl, rfl⟩⟩)
  have hN3 : NetC σ3 (np true) T := NetC.mv (q := true) hN (fun r g1 g2 => b1 r (by omega))
  refine ep_cv t84_14 rfl rfl (Nat.le_of_ble_eq_true rfl) (Nat.le_of_ble_eq_true rfl) (ha7) ?_
  refine ep_k1 (w := nI 0) t84_17 rfl ?_
  refine ep_isn (L' := [some (.ref 0), some (.int (nI 0)), none]) t84_18 rfl (Nat.le_of_ble_eq_true rfl) ?_
  refine ep_k1 (w := nI 0) t84_19 rfl ?_
  refine ep_isn (L' := [some (.ref 0), some (.int (nI 0)), some (.int (nI 0))]) t84_20 rfl (Nat.le_of_ble_eq_true rfl) ?_
  refine (L_sct_16 (σ := σ3) hN3 hw hpr b2 (2 ^ T 3) 0 (by omega)).mono (fun v g1 h => ?_)
  exact ⟨σ3, h.1, h.2, b1⟩

theorem L_sfr_16 {X : gX} {σ : gT1} {T pr : Nat → Nat} {c l : Nat} (hN : NetC σ 16 T) (hw : WF0 T) (hpr : ∀ i, i < 3 → 1 ≤ pr i ∧ pr i ≤ 9) (h30 : ∀ s, s < 2 ^ T 3 → σ 30 s = oI (dS (lw T l) (pcs T pr) (fun s => s = c) (sound T) s)) : ∀ (d s : Nat), s + d = 2 ^ T 3 → EvP X 85 21 [some (.ref 0), some (.int (nI (mxO (dS (lw T l) (pcs T pr) (fun s => s = c) (sound T)) s))), some (.int (nI s))] [] (47, g_rho true, σ) (fun v g1 => v = some (.int (nI (mxO (dS (lw T l) (pcs T pr) (fun s => s = c) (sound T)) (2 ^ T 3)))) ∧ g1 = (47, g_rho true, σ))
  | 0, s, hk => by
    obtain rfl : s = 2 ^ T 3 := by omega
    refine ep_iln t85_21 rfl ?_
    refine ep_aln t85_22 rfl ?_
    refine ep_getr (q := 16) t85_23 rfl (Nat.le_of_ble_eq_true rfl) rfl (rfl) ?_
    refine ep_cv t85_26 rfl rfl (Nat.le_of_ble_eq_true rfl) (Nat.le_of_ble_eq_true rfl) (cl_Net_all_16 (T := T) hN hw.2.1) ?_
    refine ep_ifP t85_29 (ic_gt (by have := pow_le_256 hw.2.1; omega) (by have := pow_le_256 hw.2.1; omega)) (fun (c29 : (2 ^ T 3 - 1) < (2 ^ T 3)) => ?_) (fun (c29 : ¬ ((2 ^ T 3 - 1) < (2 ^ T 3))) => (by have := Nat.two_pow_pos (T 3); omega))
    refine ep_iln t85_49 rfl ?_
    refine ep_ri t85_50 (fun h => absurd h (by decide)) ?_
    exact ⟨rfl, rfl⟩
  | d + 1, s, hk => by
    have hs : s < 2 ^ T 3 := by omega
    refine ep_iln t85_21 rfl ?_
    refine ep_aln t85_22 rfl ?_
    refine ep_getr (q := 16) t85_23 rfl (Nat.le_of_ble_eq_true rfl) rfl (rfl) ?_
    refine ep_cv t85_26 rfl rfl (Nat.le_of_ble_eq_true rfl) (Nat.le_of_ble_eq_true rfl) (cl_Net_all_16 (T := T) hN hw.2.1) ?_
    refine ep_ifP t85_29 (ic_gt (by have := pow_le_256 hw.2.1; omega) (by have := pow_le_256 hw.2.1; omega)) (fun (c29 : (2 ^ T 3 - 1) < s) => (by omega)) (fun (c29 : ¬ ((2 ^ T 3 - 1) < s)) => ?_)
    cases hd : dS (lw T l) (pcs T pr) (fun s => s = c) (sound T) s with
    | none =>
      refine ep_iln t85_32 rfl ?_
      refine ep_aln t85_33 rfl ?_
      refine ep_getr (q := 30) t85_34 rfl (Nat.le_of_ble_eq_true rfl) rfl (rfl) ?_
      refine ep_iln t85_37 rfl ?_
      refine ep_aldN t85_38 rfl (Nat.le_of_ble_eq_true rfl) (Nat.ne_of_beq_eq_false rfl) (Nat.le_of_ble_eq_true rfl) (by have := pow_le_256 hw.2.1; have := mxO_le (D := dS (lw T l) (pcs T pr) (fun s => s = c) (sound T)) s (fun t x ht hd => dS_le hw hpr (by omega) hd); omega) ?_
      refine ep_val (b := (-1 : Int32)) ((h30 s hs).trans (by rw [hd]; rfl)) ?_
      refine ep_maxm t85_39 (by have := pow_le_256 hw.2.1; have := mxO_le (D := dS (lw T l) (pcs T pr) (fun s => s = c) (sound T)) s (fun t x ht hd => dS_le hw hpr (by omega) hd); omega) (Nat.le_of_ble_eq_true rfl) ?_
      refine ep_isn (L' := [some (.ref 0), some (.int (nI (mxO (dS (lw T l) (pcs T pr) (fun s => s = c) (sound T)) s))), some (.int (nI s))]) t85_42 rfl (Nat.le_of_ble_eq_true rfl) ?_
      refine ep_inc (b := nI (s + 1)) (L' := [some (.ref 0), some (.int (nI (mxO (dS (lw T l) (pcs T pr) (fun s => s = c) (sound T)) s))), some (.int (nI (s + 1)))]) t85_43 rfl (nI_add s 1) rfl (Nat.le_of_ble_eq_true rfl) ?_
      refine ep_gt t85_46 ?_
      rw [mxO_none hd]
      exact L_sfr_16 hN hw hpr h30 d (s + 1) (by omega)
    | some y =>
      have hy := dS_le hw hpr hs hd
      refine ep_iln t85_32 rfl ?_
      refine ep_aln t85_33 rfl ?_
      refine ep_getr (q := 30) t85_34 rfl (Nat.le_of_ble_eq_true rfl) rfl (rfl) ?_
      refine ep_iln t85_37 rfl ?_
      refine ep_aldN t85_38 rfl (Nat.le_of_ble_eq_true rfl) (Nat.ne_of_beq_eq_false rfl) (Nat.le_of_ble_eq_true rfl) (by have := pow_le_256 hw.2.1; have := mxO_le (D := dS (lw T l) (pcs T pr) (fun s => s = c) (sound T)) s (fun t x ht hd => dS_le hw hpr (by omega) hd); omega) ?_
      refine ep_val (b := nI y) ((h30 s hs).trans (by rw [hd]; rfl)) ?_
      refine ep_max (a := mxO (dS (lw T l) (pcs T pr) (fun s => s = c) (sound T)) s) (b := y) t85_39 (by have := pow_le_256 hw.2.1; have := mxO_le (D := dS (lw T l) (pcs T pr) (fun s => s = c) (sound T)) s (fun t x ht hd => dS_le hw hpr (by omega) hd); omega) (by have := pow_le_256 hw.2.1; have := mxO_le (D := dS (lw T l) (pcs T pr) (fun s => s = c) (sound T)) s (fun t x ht hd => dS_le hw hpr (by omega) hd); omega) (Nat.le_of_ble_eq_true rfl) ?_
      refine ep_isn (L' := [some (.ref 0), some (.int (nI (max (mxO (dS (lw T l) (pcs T pr) (fun s => s = c) (sound T)) s) y))), some (.int (nI s))]) t85_42 rfl (Nat.le_of_ble_eq_true rfl) ?_
      refine ep_inc (b := nI (s + 1)) (L' := [some (.ref 0), some (.int (nI (max (mxO (dS (lw T l) (pcs T pr) (fun s => s = c) (sound T)) s) y))), some (.int (nI (s + 1)))]) t85_43 rfl (nI_add s 1) rfl (Nat.le_of_ble_eq_true rfl) ?_
      refine ep_gt t85_46 ?_
      rw [mxO_some hd]
      exact L_sfr_16 hN hw hpr h30 d (s + 1) (by omega)
theorem cl_B_far_16 {X : gX} {σ : gT1} {T pr : Nat → Nat} {c l : Nat} (hN : NetC σ 16 T) (hw : WF0 T) (hpr : ∀ i, i < 3 → 1 ≤ pr i ∧ pr i ≤ 9) (hc : c < 2 ^ T 3) (hl : l < 2 ^ T 3) (e4 : σ 0 4 = nI c) (e5 : σ 0 5 = nI l) (e25 : ∀ i, i < 3 → σ 25 i = nI (pr i))  : ClP X 85 [.ref 0] (47, g_rho true, σ) (fun v g1 => ∃ σ', v = some (.int (nI (mxO (dS (lw T l) (pcs T pr) (fun s => s = c) (sound T)) (2 ^ T 3)))) ∧ g1 = (47, g_rho true, σ') ∧ ∀ r, r ≠ 30 → σ' r = σ r) := by
  have hx8 := pow_le_256 hw.2.1
  have hpp := Nat.two_pow_pos (T 3)
  refine ClP.of ⟨Nat.le_of_ble_eq_true rfl, rfl⟩ ?_
  show EvP X 85 0 [some (.ref 0), none, none] [] (47, g_rho true, σ) _
  refine ep_aln t85_0 rfl ?_
  refine ep_aln t85_1 rfl ?_
  refine ep_getr (q := 16) t85_2 rfl (Nat.le_of_ble_eq_true rfl) rfl (rfl) ?_
  refine ep_cv t85_5 rfl rfl (Nat.le_of_ble_eq_true rfl) (Nat.le_of_ble_eq_true rfl) (cl_Net_all_16 (T := T) hN hw.2.1) ?_
  refine ep_aln t85_8 rfl ?_
  refine ep_get t85_9 rfl (Nat.le_of_ble_eq_true rfl) rfl ?_
  refine ep_val (b := nI c) (e4) ?_
  refine ep_k1 (w := nI 0) t85_12 rfl ?_
  refine ep_k1 (w := nI 0) t85_13 rfl ?_
  obtain ⟨v7, g7, ha7, rfl, σ3, rfl, b1, b2⟩ := cl_B_aim_16 (X := X) (σ := σ) (T := T) (pr := pr) (l := l) (W := fun s => s = c) hN hw hl e5 e25 hpr (set := 2 ^ T 3 - 1) (wd := c) (dae := 0) (lit := 0) ⟨by omega, by omega, by omega, by omega⟩ (fun s hs _ => by rw [Nat.and_zero, Nat.and_zero, and_all hs]; exact ⟨fun h => h.1, fun h => ⟨h, rfl, rfl⟩⟩)
  have hN3 : NetC σ3 (np true) T := NetC.mv (q := true) hN (fun r g1 g2 => b1 r (by omega))
  refine ep_cv t85_14 rfl rfl (Nat.le_of_ble_eq_true rfl) (Nat.le_of_ble_eq_true rfl) (ha7) ?_
  refine ep_k1 (w := nI 0) t85_17 rfl ?_
  refine ep_isn (L' := [some (.ref 0), some (.int (nI 0)), none]) t85_18 rfl (Nat.le_of_ble_eq_true rfl) ?_
  refine ep_k1 (w := nI 0) t85_19 rfl ?_
  refine ep_isn (L' := [some (.ref 0), some (.int (nI 0)), some (.int (nI 0))]) t85_20 rfl (Nat.le_of_ble_eq_true rfl) ?_
  refine (L_sfr_16 (σ := σ3) hN3 hw hpr b2 (2 ^ T 3) 0 (by omega)).mono (fun v g1 h => ?_)
  exact ⟨σ3, h.1, h.2, b1⟩

