/-! The net is drawn. -/
theorem sh_lt (b : Bool) {i : Nat} (hi : i < 8) : b.toNat * 2 ^ i < 4294967296 := Nat.lt_of_le_of_lt (Nat.mul_le_mul (Nat.le_of_lt_succ (Bool.toNat_lt b)) (Nat.le_of_lt (pow_lt_256 hi))) (by decide)
theorem sh_num (b : Bool) (i : Nat) : b.toNat * 2 ^ i = @ite _ (b = true) (Classical.propDecidable _) (2 ^ i) 0 := by
  cases b with
  | false => rw [if_neg (by decide)]; exact Nat.zero_mul _
  | true => rw [if_pos rfl]; exact Nat.one_mul _
def so_D (p : Nat) (σ0 : gT1) (T : Nat → Nat) (c l b : Nat) (σ : gT1) : Prop := (∀ r, r ≠ p → r ≠ p + 1 → r ≠ p + 2 → r ≠ p + 3 → r ≠ p + 4 → σ r = σ0 r) ∧ (σ p 0 = nI (T 0) ∧ σ p 1 = nI (T 1) ∧ σ p 2 = nI (T 2)) ∧ σ p 3 = nI (so_cb T b (T 3)) ∧ σ p 4 = nI (mk (so_cb T b (T 3)) (fun i => c.testBit (so_iv T i) = true)) ∧ σ p 5 = nI (mk (so_cb T b (T 3)) (fun i => l.testBit (so_iv T i) = true)) ∧ ∀ i, i < so_cb T b (T 3) → σ (p + 1) i = nI (T (4 + so_iv T i)) ∧ σ (p + 2) i = nI (T (12 + so_iv T i)) ∧ σ (p + 3) i = nI (T (20 + so_iv T i)) ∧ σ (p + 4) i = sec T (so_iv T i)
theorem so_D.skip {p : Nat} {σ0 σ : gT1} {T : Nat → Nat} {c l b b' : Nat} (h : so_D p σ0 T c l b σ) (e : so_cb T b' (T 3) = so_cb T b (T 3)) : so_D p σ0 T c l b' σ := by
  unfold so_D
  rw [e]
  exact h
theorem so_D.add {p : Nat} {σ0 σ σ1 : gT1} {T : Nat → Nat} {c l b j : Nat} (hw : WFT T) (h : so_D p σ0 T c l b σ) (hj : j < T 3) (hb : so_ky T j = b) (f0 : ∀ r, r ≠ p → r ≠ p + 1 → r ≠ p + 2 → r ≠ p + 3 → r ≠ p + 4 → σ1 r = σ r) (f1 : σ1 p 0 = σ p 0 ∧ σ1 p 1 = σ p 1 ∧ σ1 p 2 = σ p 2) (f3 : σ1 p 3 = nI (so_cb T b (T 3) + 1)) (f4 : σ1 p 4 = nI (mk (so_cb T b (T 3)) (fun i => c.testBit (so_iv T i) = true) ||| (c.testBit j).toNat * 2 ^ so_cb T b (T 3))) (f5 : σ1 p 5 = nI (mk (so_cb T b (T 3)) (fun i => l.testBit (so_iv T i) = true) ||| (l.testBit j).toNat * 2 ^ so_cb T b (T 3))) (fa : ∀ m, σ1 (p + 1) m = if m = so_cb T b (T 3) then nI (T (4 + j)) else σ (p + 1) m) (fb : ∀ m, σ1 (p + 2) m = if m = so_cb T b (T 3) then nI (T (12 + j)) else σ (p + 2) m) (fc : ∀ m, σ1 (p + 3) m = if m = so_cb T b (T 3) then nI (T (20 + j)) else σ (p + 3) m) (fd : ∀ m, σ1 (p + 4) m = if m = so_cb T b (T 3) then sec T j else σ (p + 4) m) : so_D p σ0 T c l (b + 1) σ1 := by
  have hr : so_rk T j = so_cb T b (T 3) := by
    unfold so_rk
    rw [hb]
  have e1 : so_cb T (b + 1) (T 3) = so_cb T b (T 3) + 1 := by
    have z := so_rk_step hw hj
    rw [hb, hr] at z
    exact z
  have hi : so_iv T (so_cb T b (T 3)) = j := so_iv_of hw hj hr
  obtain ⟨h0, ⟨ha, hb2, hc⟩, h3, h4, h5, h6⟩ := h
  unfold so_D
  rw [e1]
  refine ⟨fun r a b c d e => (f0 r a b c d e).trans (h0 r a b c d e), ⟨f1.1.trans ha, f1.2.1.trans hb2, f1.2.2.trans hc⟩, f3, ?_, ?_, fun i hi2 => ?_⟩
  · rw [f4, sh_num, ← hi]
    rfl
  · rw [f5, sh_num, ← hi]
    rfl
  · rw [fa i, fb i, fc i, fd i]
    by_cases q : i = so_cb T b (T 3)
    · rw [if_pos q, if_pos q, if_pos q, if_pos q, q, hi]
      exact ⟨rfl, rfl, rfl, rfl⟩
    · rw [if_neg q, if_neg q, if_neg q, if_neg q]
      exact h6 i (by omega)
theorem so_bn {T : Nat → Nat} {c x j : Nat} (hw : WFT T) (hx : x < 26) (hj : j < T 3) (e : T (12 + j) = 97 + x) : (bnM T c).testBit x = c.testBit j := by
  cases hb : c.testBit j with
  | true => exact bn_bit.mpr ⟨hx, j, hj, e, hb⟩
  | false =>
    cases h2 : (bnM T c).testBit x with
    | false => rfl
    | true =>
      obtain ⟨_, k, h3, h4, h5⟩ := bn_bit.mp h2
      have z := name_inj hw h3 hj (h4.trans e.symm)
      rw [z, hb] at h5
      exact h5.symm
theorem so_ky_no {T : Nat → Nat} {κ x k : Nat} (hw : WFT T) (hκ : κ < 3) (hx : x < 26) (hk : k < T 3) (e : so_ky T k = 100 * κ + 97 + x) : T (4 + k) = κ ∧ T (12 + k) = 97 + x := by
  have h1 := hw.2.2.2.1 k hk
  have a1 := h1.1
  have a2 := h1.2.1
  unfold so_ky at e
  omega
theorem so_gap {T : Nat → Nat} {κ : Nat} (hw : WFT T) : so_cb T (100 * (κ + 1) + 97) (T 3) = so_cb T (100 * κ + 97 + 26) (T 3) := so_cb_congr (T 3) (fun k hk => by
  have h1 := hw.2.2.2.1 k hk
  have a1 := h1.1
  have a2 := h1.2.1
  unfold so_ky
  omega)
theorem so_stay {T : Nat → Nat} {b : Nat} (h : ∀ k, k < T 3 → ¬ so_ky T k = b) : so_cb T (b + 1) (T 3) = so_cb T b (T 3) := so_cb_congr (T 3) (fun k hk => by
  have := h k hk
  omega)
theorem cl_Net_number_7 {X : gX} {q : Bool} {σ : gT1} {i x bc bl C D : Nat} (hi : i < 8) (hx : x < 26) (e3 : σ 7 3 = nI i) (e4 : σ 7 4 = nI C) (e5 : σ 7 5 = nI D) (d4 : σ 3 4 = nI bc) (d5 : σ 3 5 = nI bl) (hbc : bc < 2147483648) (hbl : bl < 2147483648) : ClP X 33 [.ref 7, .ref 3, .int (nI x)] (47, g_rho q, σ) (fun v g1 => v = none ∧ ∃ σ1, g1 = (47, g_rho q, σ1) ∧ (∀ r, r ≠ 7 → r ≠ 8 → r ≠ 9 → r ≠ 10 → r ≠ 11 → σ1 r = σ r) ∧ (σ1 7 0 = σ 7 0 ∧ σ1 7 1 = σ 7 1 ∧ σ1 7 2 = σ 7 2) ∧ σ1 7 3 = nI (i + 1) ∧ σ1 7 4 = nI (C ||| (bc.testBit x).toNat * 2 ^ i) ∧ σ1 7 5 = nI (D ||| (bl.testBit x).toNat * 2 ^ i) ∧ (∀ m, σ1 8 m = if m = i then σ 4 x else σ 8 m) ∧ (∀ m, σ1 9 m = if m = i then nI (x + 97) else σ 9 m) ∧ (∀ m, σ1 10 m = if m = i then σ 5 x else σ 10 m) ∧ ∀ m, σ1 11 m = if m = i then σ 6 x else σ 11 m) := by
  refine ClP.of ⟨Nat.le_of_ble_eq_true rfl, rfl⟩ ?_
  show EvP X 33 0 [some (.ref 7), some (.ref 3), some (.int (nI x))] [] (47, g_rho q, σ) _
  refine ep_aln t33_0 rfl ?_
  refine ep_getr (q := 8) t33_1 rfl (Nat.le_of_ble_eq_true rfl) rfl (rfl) ?_
  refine ep_aln t33_4 rfl ?_
  refine ep_get t33_5 rfl (Nat.le_of_ble_eq_true rfl) rfl ?_
  refine ep_val (b := nI i) (e3) ?_
  refine ep_aln t33_8 rfl ?_
  refine ep_getr (q := 4) t33_9 rfl (Nat.le_of_ble_eq_true rfl) rfl (rfl) ?_
  refine ep_iln t33_12 rfl ?_
  refine ep_aldN t33_13 rfl (Nat.le_of_ble_eq_true rfl) (Nat.ne_of_beq_eq_false rfl) (Nat.le_of_ble_eq_true rfl) (by omega) ?_
  refine ep_val (b := σ 4 x) (rfl) ?_
  refine ep_astN t33_14 rfl (Nat.le_of_ble_eq_true rfl) (Nat.le_of_ble_eq_true rfl) (by omega) ?_
  refine ep_aln t33_15 rfl ?_
  refine ep_getr (q := 9) t33_16 rfl (Nat.le_of_ble_eq_true rfl) rfl (rfl) ?_
  refine ep_aln t33_19 rfl ?_
  refine ep_get t33_20 rfl (Nat.le_of_ble_eq_true rfl) rfl ?_
  refine ep_val (b := nI i) (e3) ?_
  refine ep_iln t33_23 rfl ?_
  refine ep_k2 (w := nI 97) t33_24 rfl ?_
  refine ep_addN (a := x) (b := 97) t33_26 ?_
  refine ep_astN t33_27 rfl (Nat.le_of_ble_eq_true rfl) (Nat.le_of_ble_eq_true rfl) (by omega) ?_
  refine ep_aln t33_28 rfl ?_
  refine ep_getr (q := 10) t33_29 rfl (Nat.le_of_ble_eq_true rfl) rfl (rfl) ?_
  refine ep_aln t33_32 rfl ?_
  refine ep_get t33_33 rfl (Nat.le_of_ble_eq_true rfl) rfl ?_
  refine ep_val (b := nI i) (e3) ?_
  refine ep_aln t33_36 rfl ?_
  refine ep_getr (q := 5) t33_37 rfl (Nat.le_of_ble_eq_true rfl) rfl (rfl) ?_
  refine ep_iln t33_40 rfl ?_
  refine ep_aldN t33_41 rfl (Nat.le_of_ble_eq_true rfl) (Nat.ne_of_beq_eq_false rfl) (Nat.le_of_ble_eq_true rfl) (by omega) ?_
  refine ep_val (b := σ 5 x) (rfl) ?_
  refine ep_astN t33_42 rfl (Nat.le_of_ble_eq_true rfl) (Nat.le_of_ble_eq_true rfl) (by omega) ?_
  refine ep_aln t33_43 rfl ?_
  refine ep_getr (q := 11) t33_44 rfl (Nat.le_of_ble_eq_true rfl) rfl (rfl) ?_
  refine ep_aln t33_47 rfl ?_
  refine ep_get t33_48 rfl (Nat.le_of_ble_eq_true rfl) rfl ?_
  refine ep_val (b := nI i) (e3) ?_
  refine ep_aln t33_51 rfl ?_
  refine ep_getr (q := 6) t33_52 rfl (Nat.le_of_ble_eq_true rfl) rfl (rfl) ?_
  refine ep_iln t33_55 rfl ?_
  refine ep_aldN t33_56 rfl (Nat.le_of_ble_eq_true rfl) (Nat.ne_of_beq_eq_false rfl) (Nat.le_of_ble_eq_true rfl) (by omega) ?_
  refine ep_val (b := σ 6 x) (rfl) ?_
  refine ep_astN t33_57 rfl (Nat.le_of_ble_eq_true rfl) (Nat.le_of_ble_eq_true rfl) (by omega) ?_
  refine ep_aln t33_58 rfl ?_
  refine ep_dup t33_59 rfl ?_
  refine ep_get t33_60 rfl (Nat.le_of_ble_eq_true rfl) rfl ?_
  refine ep_val (b := nI C) (e4) ?_
  refine ep_aln t33_63 rfl ?_
  refine ep_get t33_64 rfl (Nat.le_of_ble_eq_true rfl) rfl ?_
  refine ep_val (b := nI bc) (d4) ?_
  refine ep_iln t33_67 rfl ?_
  refine ep_cs t33_68 (Nat.ne_of_beq_eq_false rfl) rfl (Nat.le_of_ble_eq_true rfl) (cl_B_bit (by omega) (by omega)) ?_
  refine ep_val (b := nI ((Nat.testBit bc x).toNat)) (bI_toNat _) ?_
  refine ep_aln t33_71 rfl ?_
  refine ep_get t33_72 rfl (Nat.le_of_ble_eq_true rfl) rfl ?_
  refine ep_val (b := nI i) (e3) ?_
  refine ep_shlN (a := (Nat.testBit bc x).toNat) (b := i) t33_75 (by omega) (sh_lt _ hi) ?_
  refine ep_orN (a := C) (b := ((Nat.testBit bc x).toNat) * 2 ^ i) t33_76 ?_
  refine ep_put t33_77 rfl (Nat.le_of_ble_eq_true rfl) rfl ?_
  refine ep_aln t33_80 rfl ?_
  refine ep_dup t33_81 rfl ?_
  refine ep_get t33_82 rfl (Nat.le_of_ble_eq_true rfl) rfl ?_
  refine ep_val (b := nI D) (e5) ?_
  refine ep_aln t33_85 rfl ?_
  refine ep_get t33_86 rfl (Nat.le_of_ble_eq_true rfl) rfl ?_
  refine ep_val (b := nI bl) (d5) ?_
  refine ep_iln t33_89 rfl ?_
  refine ep_cs t33_90 (Nat.ne_of_beq_eq_false rfl) rfl (Nat.le_of_ble_eq_true rfl) (cl_B_bit (by omega) (by omega)) ?_
  refine ep_val (b := nI ((Nat.testBit bl x).toNat)) (bI_toNat _) ?_
  refine ep_aln t33_93 rfl ?_
  refine ep_get t33_94 rfl (Nat.le_of_ble_eq_true rfl) rfl ?_
  refine ep_val (b := nI i) (e3) ?_
  refine ep_shlN (a := (Nat.testBit bl x).toNat) (b := i) t33_97 (by omega) (sh_lt _ hi) ?_
  refine ep_orN (a := D) (b := ((Nat.testBit bl x).toNat) * 2 ^ i) t33_98 ?_
  refine ep_put t33_99 rfl (Nat.le_of_ble_eq_true rfl) rfl ?_
  refine ep_aln t33_102 rfl ?_
  refine ep_dup t33_103 rfl ?_
  refine ep_get t33_104 rfl (Nat.le_of_ble_eq_true rfl) rfl ?_
  refine ep_val (b := nI i) (e3) ?_
  refine ep_k1 (w := nI 1) t33_107 rfl ?_
  refine ep_addN (a := i) (b := 1) t33_108 ?_
  refine ep_put t33_109 rfl (Nat.le_of_ble_eq_true rfl) rfl ?_
  refine ep_rv t33_112 ?_
  exact ⟨rfl, _, rfl, fun r a0 a1 a2 a3 a4 => by (repeat rw [g_up_ne (by assumption)]), ⟨rfl, rfl, rfl⟩, rfl, rfl, rfl, fun m => by (repeat rw [g_up_ne (by decide)]); rw [g_up_at]; (repeat rw [g_up_ne (by decide)]), fun m => by (repeat rw [g_up_ne (by decide)]); rw [g_up_at]; (repeat rw [g_up_ne (by decide)]), fun m => by (repeat rw [g_up_ne (by decide)]); rw [g_up_at]; (repeat rw [g_up_ne (by decide)]), fun m => by (repeat rw [g_up_ne (by decide)]); rw [g_up_at]; (repeat rw [g_up_ne (by decide)])⟩

theorem L_d2_7 {X : gX} {q : Bool} {σ : gT1} {T : Nat → Nat} {c l : Nat} {P : Option Value → gS → Prop} (hw : WFT T) (hd : DrC σ T c l) {κ : Nat} (hκ : κ < 3) (K : ∀ σ' : gT1, so_D 7 σ T c l (100 * κ + 97 + 26) σ' → EvP X 43 97 [some (.ref 7), some (.ref 3), some (.int (nI κ)), some (.int (nI 26))] [] (47, g_rho q, σ') P) : ∀ (d x : Nat) (σ' : gT1), x + d = 26 → so_D 7 σ T c l (100 * κ + 97 + x) σ' → EvP X 43 48 [some (.ref 7), some (.ref 3), some (.int (nI κ)), some (.int (nI x))] [] (47, g_rho q, σ') P
  | 0, x, σ', hk, hD => by
    obtain rfl : x = 26 := by omega
    refine ep_iln t43_48 rfl ?_
    refine ep_k2 (w := nI 26) t43_49 rfl ?_
    refine ep_ifP t43_51 (ic_ge (by omega) (by omega)) (fun (c51 : 26 ≤ 26) => ?_) (fun (c51 : ¬ (26 ≤ 26)) => (by omega))
    exact K σ' hD
  | d + 1, x, σ', hk, hD => by
    have hx26 : x < 26 := by omega
    have h8 := hw.2.2.1
    have hnl := nm_lt T
    obtain ⟨hf, _, h3, h4, h5, _⟩ := id hD
    refine ep_iln t43_48 rfl ?_
    refine ep_k2 (w := nI 26) t43_49 rfl ?_
    refine ep_ifP t43_51 (ic_ge (by omega) (by omega)) (fun (c51 : 26 ≤ x) => (by omega)) (fun (c51 : ¬ (26 ≤ x)) => ?_)
    refine ep_aln t43_54 rfl ?_
    refine ep_get t43_55 rfl (Nat.le_of_ble_eq_true rfl) rfl ?_
    refine ep_val (b := nI (nmM T)) ((congrFun (hf 3 (by decide) (by decide) (by decide) (by decide) (by decide)) 3).trans hd.1.2.2.2.1) ?_
    refine ep_iln t43_58 rfl ?_
    refine ep_cs t43_59 (Nat.ne_of_beq_eq_false rfl) rfl (Nat.le_of_ble_eq_true rfl) (cl_B_bit (by omega) (by omega)) ?_
    refine ep_k1 (w := nI 1) t43_62 rfl ?_
    refine ep_b1n t43_63 (fun (c63 : (Nat.testBit (nmM T) x) = false) => ?_) (fun (c63 : (Nat.testBit (nmM T) x) = true) => ?_)
    · refine ep_inc (b := nI (x + 1)) (L' := [some (.ref 7), some (.ref 3), some (.int (nI κ)), some (.int (nI (x + 1)))]) t43_91 rfl (nI_add x 1) rfl (Nat.le_of_ble_eq_true rfl) ?_
      refine ep_gt t43_94 ?_
      refine L_d2_7 hw hd hκ K d (x + 1) σ' (by omega) (hD.skip (so_stay (fun k hk z => ?_)))
      have y := so_ky_no hw hκ hx26 hk z
      first
      | exact absurd (c63.symm.trans (nm_bit.mpr ⟨hx26, k, hk, y.2⟩)) (by decide)
      | exact c73 (by rw [← name_inj hw hk hj (y.2.trans hjx.symm)]; exact y.1)
    · obtain ⟨_, j, hj, hjx⟩ := nm_bit.mp c63
      have hxx : T (12 + j) - 97 = x := by omega
      have z4 := hd.2 j hj
      rw [hxx] at z4
      rw [← congrFun (hf 4 (by decide) (by decide) (by decide) (by decide) (by decide)) x, ← congrFun (hf 5 (by decide) (by decide) (by decide) (by decide) (by decide)) x, ← congrFun (hf 6 (by decide) (by decide) (by decide) (by decide) (by decide)) x] at z4
      have hkd := (hw.2.2.2.1 j hj).1
      refine ep_aln t43_66 rfl ?_
      refine ep_getr (q := 4) t43_67 rfl (Nat.le_of_ble_eq_true rfl) rfl (rfl) ?_
      refine ep_iln t43_70 rfl ?_
      refine ep_aldN t43_71 rfl (Nat.le_of_ble_eq_true rfl) (Nat.ne_of_beq_eq_false rfl) (Nat.le_of_ble_eq_true rfl) (by omega) ?_
      refine ep_val (b := nI (T (4 + j))) (z4.1) ?_
      refine ep_iln t43_72 rfl ?_
      refine ep_ifP t43_73 (ic_ne (by omega) (by omega)) (fun (c73 : ¬ (T (4 + j)) = κ) => ?_) (fun (c73 : ¬ (¬ (T (4 + j)) = κ)) => ?_)
      · refine ep_inc (b := nI (x + 1)) (L' := [some (.ref 7), some (.ref 3), some (.int (nI κ)), some (.int (nI (x + 1)))]) t43_91 rfl (nI_add x 1) rfl (Nat.le_of_ble_eq_true rfl) ?_
        refine ep_gt t43_94 ?_
        refine L_d2_7 hw hd hκ K d (x + 1) σ' (by omega) (hD.skip (so_stay (fun k hk z => ?_)))
        have y := so_ky_no hw hκ hx26 hk z
        first
        | exact absurd (c63.symm.trans (nm_bit.mpr ⟨hx26, k, hk, y.2⟩)) (by decide)
        | exact c73 (by rw [← name_inj hw hk hj (y.2.trans hjx.symm)]; exact y.1)
      · have hkj : T (4 + j) = κ := Classical.byContradiction c73
        have hky : so_ky T j = 100 * κ + 97 + x := by
          unfold so_ky
          omega
        have hlt8 : so_cb T (100 * κ + 97 + x) (T 3) < 8 := by
          have z := so_rk_n hw hj
          unfold so_rk at z
          rw [hky] at z
          omega
        refine ep_aln t43_76 rfl ?_
        refine ep_get t43_77 rfl (Nat.le_of_ble_eq_true rfl) rfl ?_
        refine ep_val (b := nI (so_cb T (100 * κ + 97 + x) (T 3))) (h3) ?_
        refine ep_k2 (w := nI 8) t43_80 rfl ?_
        refine ep_ifP t43_82 (ic_ge (by omega) (by omega)) (fun (c82 : 8 ≤ (so_cb T (100 * κ + 97 + x) (T 3))) => (by omega)) (fun (c82 : ¬ (8 ≤ (so_cb T (100 * κ + 97 + x) (T 3)))) => ?_)
        refine ep_aln t43_85 rfl ?_
        refine ep_aln t43_86 rfl ?_
        refine ep_iln t43_87 rfl ?_
        obtain ⟨v9, g9, k9, rfl, σ1, rfl, f0, f1, f3, f4, f5, fa, fb, fc, fd⟩ := cl_Net_number_7 (X := X) (q := q) (σ := σ') (i := so_cb T (100 * κ + 97 + x) (T 3)) (x := x) hlt8 (by omega) h3 h4 h5 ((congrFun (hf 3 (by decide) (by decide) (by decide) (by decide) (by decide)) 4).trans hd.1.2.2.2.2.1) ((congrFun (hf 3 (by decide) (by decide) (by decide) (by decide) (by decide)) 5).trans hd.1.2.2.2.2.2) (by have := bn_lt T c; omega) (by have := bn_lt T l; omega)
        refine ep_cv t43_88 rfl rfl (Nat.le_of_ble_eq_true rfl) (Nat.le_of_ble_eq_true rfl) (k9) ?_
        refine ep_inc (b := nI (x + 1)) (L' := [some (.ref 7), some (.ref 3), some (.int (nI κ)), some (.int (nI (x + 1)))]) t43_91 rfl (nI_add x 1) rfl (Nat.le_of_ble_eq_true rfl) ?_
        refine ep_gt t43_94 ?_
        rw [so_bn hw hx26 hj hjx] at f4 f5
        refine L_d2_7 hw hd hκ K d (x + 1) σ1 (by omega) (so_D.add hw hD hj hky f0 f1 f3 f4 f5 (fun m => (fa m).trans (by rw [z4.1]; rfl)) (fun m => (fb m).trans (by rw [hjx, Nat.add_comm x 97]; rfl)) (fun m => (fc m).trans (by rw [z4.2.1]; rfl)) (fun m => (fd m).trans (by rw [z4.2.2]; rfl)))
theorem L_d1_7 {X : gX} {q : Bool} {σ : gT1} {T : Nat → Nat} {c l : Nat} {P : Option Value → gS → Prop} (hw : WFT T) (hd : DrC σ T c l) (K : ∀ (σ' : gT1) (o3 : Option Value), so_D 7 σ T c l 397 σ' → EvP X 43 103 [some (.ref 7), some (.ref 3), some (.int (nI 3)), o3] [] (47, g_rho q, σ') P) : ∀ (d κ : Nat) (σ' : gT1) (o3 : Option Value), κ + d = 3 → so_D 7 σ T c l (100 * κ + 97) σ' → EvP X 43 41 [some (.ref 7), some (.ref 3), some (.int (nI κ)), o3] [] (47, g_rho q, σ') P
  | 0, κ, σ', o3, hk, hD => by
    obtain rfl : κ = 3 := by omega
    refine ep_iln t43_41 rfl ?_
    refine ep_k1 (w := nI 3) t43_42 rfl ?_
    refine ep_ifP t43_43 (ic_ge (by omega) (by omega)) (fun (c43 : 3 ≤ 3) => ?_) (fun (c43 : ¬ (3 ≤ 3)) => (by omega))
    exact K σ' _ hD
  | d + 1, κ, σ', o3, hk, hD => by
    refine ep_iln t43_41 rfl ?_
    refine ep_k1 (w := nI 3) t43_42 rfl ?_
    refine ep_ifP t43_43 (ic_ge (by omega) (by omega)) (fun (c43 : 3 ≤ κ) => (by omega)) (fun (c43 : ¬ (3 ≤ κ)) => ?_)
    refine ep_k1 (w := nI 0) t43_46 rfl ?_
    refine ep_isn (L' := [some (.ref 7), some (.ref 3), some (.int (nI κ)), some (.int (nI 0))]) t43_47 rfl (Nat.le_of_ble_eq_true rfl) ?_
    refine L_d2_7 hw hd (by omega) (fun σ2 h2 => ?_) 26 0 σ' rfl hD
    refine ep_inc (b := nI (κ + 1)) (L' := [some (.ref 7), some (.ref 3), some (.int (nI (κ + 1))), some (.int (nI 26))]) t43_97 rfl (nI_add κ 1) rfl (Nat.le_of_ble_eq_true rfl) ?_
    refine ep_gt t43_100 ?_
    exact L_d1_7 hw hd K d (κ + 1) σ2 _ (by omega) (h2.skip (so_gap hw))
theorem cl_Net_draw_7 {X : gX} {q : Bool} {σ : gT1} {T : Nat → Nat} {c l : Nat} (hw : WFD T c l) (hd : DrC σ T c l) : ClP X 43 [.ref 7, .ref 3] (47, g_rho q, σ) (fun v g1 => v = none ∧ ∃ σ1, g1 = (47, g_rho q, σ1) ∧ (∀ r, (r < 7 ∨ 16 ≤ r) → σ1 r = σ r) ∧ NetC σ1 7 (so_T T) ∧ σ1 7 4 = nI (so_C T c) ∧ σ1 7 5 = nI (so_C T l)) := by
  refine ClP.of ⟨Nat.le_of_ble_eq_true rfl, rfl⟩ ?_
  show EvP X 43 0 [some (.ref 7), some (.ref 3), none, none] [] (47, g_rho q, σ) _
  refine ep_aln t43_0 rfl ?_
  refine ep_aln t43_1 rfl ?_
  refine ep_get t43_2 rfl (Nat.le_of_ble_eq_true rfl) rfl ?_
  refine ep_val (b := nI (T 0)) (hd.1.1) ?_
  refine ep_put t43_5 rfl (Nat.le_of_ble_eq_true rfl) rfl ?_
  refine ep_aln t43_8 rfl ?_
  refine ep_aln t43_9 rfl ?_
  refine ep_get t43_10 rfl (Nat.le_of_ble_eq_true rfl) rfl ?_
  refine ep_val (b := nI (T 1)) (hd.1.2.1) ?_
  refine ep_put t43_13 rfl (Nat.le_of_ble_eq_true rfl) rfl ?_
  refine ep_aln t43_16 rfl ?_
  refine ep_aln t43_17 rfl ?_
  refine ep_get t43_18 rfl (Nat.le_of_ble_eq_true rfl) rfl ?_
  refine ep_val (b := nI (T 2)) (hd.1.2.2.1) ?_
  refine ep_put t43_21 rfl (Nat.le_of_ble_eq_true rfl) rfl ?_
  refine ep_aln t43_24 rfl ?_
  refine ep_k1 (w := nI 0) t43_25 rfl ?_
  refine ep_put t43_26 rfl (Nat.le_of_ble_eq_true rfl) rfl ?_
  refine ep_aln t43_29 rfl ?_
  refine ep_k1 (w := nI 0) t43_30 rfl ?_
  refine ep_put t43_31 rfl (Nat.le_of_ble_eq_true rfl) rfl ?_
  refine ep_aln t43_34 rfl ?_
  refine ep_k1 (w := nI 0) t43_35 rfl ?_
  refine ep_put t43_36 rfl (Nat.le_of_ble_eq_true rfl) rfl ?_
  refine ep_k1 (w := nI 0) t43_39 rfl ?_
  refine ep_isn (L' := [some (.ref 7), some (.ref 3), some (.int (nI 0)), none]) t43_40 rfl (Nat.le_of_ble_eq_true rfl) ?_
  have e0 : so_cb T (100 * 0 + 97) (T 3) = 0 := so_cb_zero (T 3) (fun k hk => (so_ky_b hw.1 hk).1)
  have e1 : so_cb T 397 (T 3) = T 3 := so_cb_all (T 3) (fun k hk => Nat.lt_trans (so_ky_b hw.1 hk).2 (by decide))
  refine L_d1_7 hw.1 hd (fun σ' o3 hD => ?_) 3 0 _ none rfl ⟨fun r a _ _ _ _ => by (repeat rw [g_up_ne a]), ⟨rfl, rfl, rfl⟩, by rw [e0]; rfl, by rw [e0]; rfl, by rw [e0]; rfl, fun i hi => absurd hi (by rw [e0]; exact Nat.not_lt_zero i)⟩
  unfold so_D at hD
  rw [e1] at hD
  obtain ⟨h0, ⟨ha, hb, hc⟩, h3, h4, h5, h6⟩ := hD
  have hws := so_wf hw.1
  have hA : ((∀ j, j < 4 → σ' 7 j = nI (so_T T j)) ∧ ∀ k, k < so_T T 3 → σ' 8 k = nI (so_T T (4 + k)) ∧ σ' 9 k = nI (so_T T (12 + k)) ∧ σ' 10 k = nI (so_T T (20 + k)) ∧ σ' 11 k = sec (so_T T) k) := by
    refine ⟨fun j hj => ?_, fun k hk => ?_⟩
    · rw [so_T_lo hj]
      match j, hj with
      | 0, _ => exact ha
      | 1, _ => exact hb
      | 2, _ => exact hc
      | 3, _ => exact h3
    · rw [so_T3] at hk
      have s := so_T_k (T := T) (k := k) (Nat.lt_of_lt_of_le hk hw.1.2.2.1)
      rw [s.1, s.2.1, s.2.2.1, sec_eq (T := so_T T) (T' := T) (k := k) (k' := so_iv T k) s.1 s.2.2.2]
      exact h6 k hk
  refine ep_aln t43_103 rfl ?_
  obtain ⟨v1, g1, k1, rfl, σ1, rfl, j1, j2⟩ := cl_Net_measure_7 (X := X) (q := q) (σ := σ') (T := so_T T) hA hws.w0 (lt31 hws.2.1.1 (by have := hws.1.2; omega)) (lt31 hws.2.1.2 (by have := hws.1.2; omega))
  refine ep_cv t43_104 rfl rfl (Nat.le_of_ble_eq_true rfl) (Nat.le_of_ble_eq_true rfl) (k1) ?_
  refine ep_rv t43_107 ?_
  exact ⟨rfl, σ1, rfl, fun r hr => (j1 r (by omega) (by omega) (by omega) (by omega)).trans (h0 r (by omega) (by omega) (by omega) (by omega) (by omega)), j2, (congrFun (j1 7 (by decide) (by decide) (by decide) (by decide)) 4).trans h4, (congrFun (j1 7 (by decide) (by decide) (by decide) (by decide)) 5).trans h5⟩

theorem cl_Net_number_16 {X : gX} {q : Bool} {σ : gT1} {i x bc bl C D : Nat} (hi : i < 8) (hx : x < 26) (e3 : σ 16 3 = nI i) (e4 : σ 16 4 = nI C) (e5 : σ 16 5 = nI D) (d4 : σ 3 4 = nI bc) (d5 : σ 3 5 = nI bl) (hbc : bc < 2147483648) (hbl : bl < 2147483648) : ClP X 33 [.ref 16, .ref 3, .int (nI x)] (47, g_rho q, σ) (fun v g1 => v = none ∧ ∃ σ1, g1 = (47, g_rho q, σ1) ∧ (∀ r, r ≠ 16 → r ≠ 17 → r ≠ 18 → r ≠ 19 → r ≠ 20 → σ1 r = σ r) ∧ (σ1 16 0 = σ 16 0 ∧ σ1 16 1 = σ 16 1 ∧ σ1 16 2 = σ 16 2) ∧ σ1 16 3 = nI (i + 1) ∧ σ1 16 4 = nI (C ||| (bc.testBit x).toNat * 2 ^ i) ∧ σ1 16 5 = nI (D ||| (bl.testBit x).toNat * 2 ^ i) ∧ (∀ m, σ1 17 m = if m = i then σ 4 x else σ 17 m) ∧ (∀ m, σ1 18 m = if m = i then nI (x + 97) else σ 18 m) ∧ (∀ m, σ1 19 m = if m = i then σ 5 x else σ 19 m) ∧ ∀ m, σ1 20 m = if m = i then σ 6 x else σ 20 m) := by
  refine ClP.of ⟨Nat.le_of_ble_eq_true rfl, rfl⟩ ?_
  show EvP X 33 0 [some (.ref 16), some (.ref 3), some (.int (nI x))] [] (47, g_rho q, σ) _
  refine ep_aln t33_0 rfl ?_
  refine ep_getr (q := 17) t33_1 rfl (Nat.le_of_ble_eq_true rfl) rfl (rfl) ?_
  refine ep_aln t33_4 rfl ?_
  refine ep_get t33_5 rfl (Nat.le_of_ble_eq_true rfl) rfl ?_
  refine ep_val (b := nI i) (e3) ?_
  refine ep_aln t33_8 rfl ?_
  refine ep_getr (q := 4) t33_9 rfl (Nat.le_of_ble_eq_true rfl) rfl (rfl) ?_
  refine ep_iln t33_12 rfl ?_
  refine ep_aldN t33_13 rfl (Nat.le_of_ble_eq_true rfl) (Nat.ne_of_beq_eq_false rfl) (Nat.le_of_ble_eq_true rfl) (by omega) ?_
  refine ep_val (b := σ 4 x) (rfl) ?_
  refine ep_astN t33_14 rfl (Nat.le_of_ble_eq_true rfl) (Nat.le_of_ble_eq_true rfl) (by omega) ?_
  refine ep_aln t33_15 rfl ?_
  refine ep_getr (q := 18) t33_16 rfl (Nat.le_of_ble_eq_true rfl) rfl (rfl) ?_
  refine ep_aln t33_19 rfl ?_
  refine ep_get t33_20 rfl (Nat.le_of_ble_eq_true rfl) rfl ?_
  refine ep_val (b := nI i) (e3) ?_
  refine ep_iln t33_23 rfl ?_
  refine ep_k2 (w := nI 97) t33_24 rfl ?_
  refine ep_addN (a := x) (b := 97) t33_26 ?_
  refine ep_astN t33_27 rfl (Nat.le_of_ble_eq_true rfl) (Nat.le_of_ble_eq_true rfl) (by omega) ?_
  refine ep_aln t33_28 rfl ?_
  refine ep_getr (q := 19) t33_29 rfl (Nat.le_of_ble_eq_true rfl) rfl (rfl) ?_
  refine ep_aln t33_32 rfl ?_
  refine ep_get t33_33 rfl (Nat.le_of_ble_eq_true rfl) rfl ?_
  refine ep_val (b := nI i) (e3) ?_
  refine ep_aln t33_36 rfl ?_
  refine ep_getr (q := 5) t33_37 rfl (Nat.le_of_ble_eq_true rfl) rfl (rfl) ?_
  refine ep_iln t33_40 rfl ?_
  refine ep_aldN t33_41 rfl (Nat.le_of_ble_eq_true rfl) (Nat.ne_of_beq_eq_false rfl) (Nat.le_of_ble_eq_true rfl) (by omega) ?_
  refine ep_val (b := σ 5 x) (rfl) ?_
  refine ep_astN t33_42 rfl (Nat.le_of_ble_eq_true rfl) (Nat.le_of_ble_eq_true rfl) (by omega) ?_
  refine ep_aln t33_43 rfl ?_
  refine ep_getr (q := 20) t33_44 rfl (Nat.le_of_ble_eq_true rfl) rfl (rfl) ?_
  refine ep_aln t33_47 rfl ?_
  refine ep_get t33_48 rfl (Nat.le_of_ble_eq_true rfl) rfl ?_
  refine ep_val (b := nI i) (e3) ?_
  refine ep_aln t33_51 rfl ?_
  refine ep_getr (q := 6) t33_52 rfl (Nat.le_of_ble_eq_true rfl) rfl (rfl) ?_
  refine ep_iln t33_55 rfl ?_
  refine ep_aldN t33_56 rfl (Nat.le_of_ble_eq_true rfl) (Nat.ne_of_beq_eq_false rfl) (Nat.le_of_ble_eq_true rfl) (by omega) ?_
  refine ep_val (b := σ 6 x) (rfl) ?_
  refine ep_astN t33_57 rfl (Nat.le_of_ble_eq_true rfl) (Nat.le_of_ble_eq_true rfl) (by omega) ?_
  refine ep_aln t33_58 rfl ?_
  refine ep_dup t33_59 rfl ?_
  refine ep_get t33_60 rfl (Nat.le_of_ble_eq_true rfl) rfl ?_
  refine ep_val (b := nI C) (e4) ?_
  refine ep_aln t33_63 rfl ?_
  refine ep_get t33_64 rfl (Nat.le_of_ble_eq_true rfl) rfl ?_
  refine ep_val (b := nI bc) (d4) ?_
  refine ep_iln t33_67 rfl ?_
  refine ep_cs t33_68 (Nat.ne_of_beq_eq_false rfl) rfl (Nat.le_of_ble_eq_true rfl) (cl_B_bit (by omega) (by omega)) ?_
  refine ep_val (b := nI ((Nat.testBit bc x).toNat)) (bI_toNat _) ?_
  refine ep_aln t33_71 rfl ?_
  refine ep_get t33_72 rfl (Nat.le_of_ble_eq_true rfl) rfl ?_
  refine ep_val (b := nI i) (e3) ?_
  refine ep_shlN (a := (Nat.testBit bc x).toNat) (b := i) t33_75 (by omega) (sh_lt _ hi) ?_
  refine ep_orN (a := C) (b := ((Nat.testBit bc x).toNat) * 2 ^ i) t33_76 ?_
  refine ep_put t33_77 rfl (Nat.le_of_ble_eq_true rfl) rfl ?_
  refine ep_aln t33_80 rfl ?_
  refine ep_dup t33_81 rfl ?_
  refine ep_get t33_82 rfl (Nat.le_of_ble_eq_true rfl) rfl ?_
  refine ep_val (b := nI D) (e5) ?_
  refine ep_aln t33_85 rfl ?_
  refine ep_get t33_86 rfl (Nat.le_of_ble_eq_true rfl) rfl ?_
  refine ep_val (b := nI bl) (d5) ?_
  refine ep_iln t33_89 rfl ?_
  refine ep_cs t33_90 (Nat.ne_of_beq_eq_false rfl) rfl (Nat.le_of_ble_eq_true rfl) (cl_B_bit (by omega) (by omega)) ?_
  refine ep_val (b := nI ((Nat.testBit bl x).toNat)) (bI_toNat _) ?_
  refine ep_aln t33_93 rfl ?_
  refine ep_get t33_94 rfl (Nat.le_of_ble_eq_true rfl) rfl ?_
  refine ep_val (b := nI i) (e3) ?_
  refine ep_shlN (a := (Nat.testBit bl x).toNat) (b := i) t33_97 (by omega) (sh_lt _ hi) ?_
  refine ep_orN (a := D) (b := ((Nat.testBit bl x).toNat) * 2 ^ i) t33_98 ?_
  refine ep_put t33_99 rfl (Nat.le_of_ble_eq_true rfl) rfl ?_
  refine ep_aln t33_102 rfl ?_
  refine ep_dup t33_103 rfl ?_
  refine ep_get t33_104 rfl (Nat.le_of_ble_eq_true rfl) rfl ?_
  refine ep_val (b := nI i) (e3) ?_
  refine ep_k1 (w := nI 1) t33_107 rfl ?_
  refine ep_addN (a := i) (b := 1) t33_108 ?_
  refine ep_put t33_109 rfl (Nat.le_of_ble_eq_true rfl) rfl ?_
  refine ep_rv t33_112 ?_
  exact ⟨rfl, _, rfl, fun r a0 a1 a2 a3 a4 => by (repeat rw [g_up_ne (by assumption)]), ⟨rfl, rfl, rfl⟩, rfl, rfl, rfl, fun m => by (repeat rw [g_up_ne (by decide)]); rw [g_up_at]; (repeat rw [g_up_ne (by decide)]), fun m => by (repeat rw [g_up_ne (by decide)]); rw [g_up_at]; (repeat rw [g_up_ne (by decide)]), fun m => by (repeat rw [g_up_ne (by decide)]); rw [g_up_at]; (repeat rw [g_up_ne (by decide)]), fun m => by (repeat rw [g_up_ne (by decide)]); rw [g_up_at]; (repeat rw [g_up_ne (by decide)])⟩

theorem L_d2_16 {X : gX} {q : Bool} {σ : gT1} {T : Nat → Nat} {c l : Nat} {P : Option Value → gS → Prop} (hw : WFT T) (hd : DrC σ T c l) {κ : Nat} (hκ : κ < 3) (K : ∀ σ' : gT1, so_D 16 σ T c l (100 * κ + 97 + 26) σ' → EvP X 43 97 [some (.ref 16), some (.ref 3), some (.int (nI κ)), some (.int (nI 26))] [] (47, g_rho q, σ') P) : ∀ (d x : Nat) (σ' : gT1), x + d = 26 → so_D 16 σ T c l (100 * κ + 97 + x) σ' → EvP X 43 48 [some (.ref 16), some (.ref 3), some (.int (nI κ)), some (.int (nI x))] [] (47, g_rho q, σ') P
  | 0, x, σ', hk, hD => by
    obtain rfl : x = 26 := by omega
    refine ep_iln t43_48 rfl ?_
    refine ep_k2 (w := nI 26) t43_49 rfl ?_
    refine ep_ifP t43_51 (ic_ge (by omega) (by omega)) (fun (c51 : 26 ≤ 26) => ?_) (fun (c51 : ¬ (26 ≤ 26)) => (by omega))
    exact K σ' hD
  | d + 1, x, σ', hk, hD => by
    have hx26 : x < 26 := by omega
    have h8 := hw.2.2.1
    have hnl := nm_lt T
    obtain ⟨hf, _, h3, h4, h5, _⟩ := id hD
    refine ep_iln t43_48 rfl ?_
    refine ep_k2 (w := nI 26) t43_49 rfl ?_
    refine ep_ifP t43_51 (ic_ge (by omega) (by omega)) (fun (c51 : 26 ≤ x) => (by omega)) (fun (c51 : ¬ (26 ≤ x)) => ?_)
    refine ep_aln t43_54 rfl ?_
    refine ep_get t43_55 rfl (Nat.le_of_ble_eq_true rfl) rfl ?_
    refine ep_val (b := nI (nmM T)) ((congrFun (hf 3 (by decide) (by decide) (by decide) (by decide) (by decide)) 3).trans hd.1.2.2.2.1) ?_
    refine ep_iln t43_58 rfl ?_
    refine ep_cs t43_59 (Nat.ne_of_beq_eq_false rfl) rfl (Nat.le_of_ble_eq_true rfl) (cl_B_bit (by omega) (by omega)) ?_
    refine ep_k1 (w := nI 1) t43_62 rfl ?_
    refine ep_b1n t43_63 (fun (c63 : (Nat.testBit (nmM T) x) = false) => ?_) (fun (c63 : (Nat.testBit (nmM T) x) = true) => ?_)
    · refine ep_inc (b := nI (x + 1)) (L' := [some (.ref 16), some (.ref 3), some (.int (nI κ)), some (.int (nI (x + 1)))]) t43_91 rfl (nI_add x 1) rfl (Nat.le_of_ble_eq_true rfl) ?_
      refine ep_gt t43_94 ?_
      refine L_d2_16 hw hd hκ K d (x + 1) σ' (by omega) (hD.skip (so_stay (fun k hk z => ?_)))
      have y := so_ky_no hw hκ hx26 hk z
      first
      | exact absurd (c63.symm.trans (nm_bit.mpr ⟨hx26, k, hk, y.2⟩)) (by decide)
      | exact c73 (by rw [← name_inj hw hk hj (y.2.trans hjx.symm)]; exact y.1)
    · obtain ⟨_, j, hj, hjx⟩ := nm_bit.mp c63
      have hxx : T (12 + j) - 97 = x := by omega
      have z4 := hd.2 j hj
      rw [hxx] at z4
      rw [← congrFun (hf 4 (by decide) (by decide) (by decide) (by decide) (by decide)) x, ← congrFun (hf 5 (by decide) (by decide) (by decide) (by decide) (by decide)) x, ← congrFun (hf 6 (by decide) (by decide) (by decide) (by decide) (by decide)) x] at z4
      have hkd := (hw.2.2.2.1 j hj).1
      refine ep_aln t43_66 rfl ?_
      refine ep_getr (q := 4) t43_67 rfl (Nat.le_of_ble_eq_true rfl) rfl (rfl) ?_
      refine ep_iln t43_70 rfl ?_
      refine ep_aldN t43_71 rfl (Nat.le_of_ble_eq_true rfl) (Nat.ne_of_beq_eq_false rfl) (Nat.le_of_ble_eq_true rfl) (by omega) ?_
      refine ep_val (b := nI (T (4 + j))) (z4.1) ?_
      refine ep_iln t43_72 rfl ?_
      refine ep_ifP t43_73 (ic_ne (by omega) (by omega)) (fun (c73 : ¬ (T (4 + j)) = κ) => ?_) (fun (c73 : ¬ (¬ (T (4 + j)) = κ)) => ?_)
      · refine ep_inc (b := nI (x + 1)) (L' := [some (.ref 16), some (.ref 3), some (.int (nI κ)), some (.int (nI (x + 1)))]) t43_91 rfl (nI_add x 1) rfl (Nat.le_of_ble_eq_true rfl) ?_
        refine ep_gt t43_94 ?_
        refine L_d2_16 hw hd hκ K d (x + 1) σ' (by omega) (hD.skip (so_stay (fun k hk z => ?_)))
        have y := so_ky_no hw hκ hx26 hk z
        first
        | exact absurd (c63.symm.trans (nm_bit.mpr ⟨hx26, k, hk, y.2⟩)) (by decide)
        | exact c73 (by rw [← name_inj hw hk hj (y.2.trans hjx.symm)]; exact y.1)
      · have hkj : T (4 + j) = κ := Classical.byContradiction c73
        have hky : so_ky T j = 100 * κ + 97 + x := by
          unfold so_ky
          omega
        have hlt8 : so_cb T (100 * κ + 97 + x) (T 3) < 8 := by
          have z := so_rk_n hw hj
          unfold so_rk at z
          rw [hky] at z
          omega
        refine ep_aln t43_76 rfl ?_
        refine ep_get t43_77 rfl (Nat.le_of_ble_eq_true rfl) rfl ?_
        refine ep_val (b := nI (so_cb T (100 * κ + 97 + x) (T 3))) (h3) ?_
        refine ep_k2 (w := nI 8) t43_80 rfl ?_
        refine ep_ifP t43_82 (ic_ge (by omega) (by omega)) (fun (c82 : 8 ≤ (so_cb T (100 * κ + 97 + x) (T 3))) => (by omega)) (fun (c82 : ¬ (8 ≤ (so_cb T (100 * κ + 97 + x) (T 3)))) => ?_)
        refine ep_aln t43_85 rfl ?_
        refine ep_aln t43_86 rfl ?_
        refine ep_iln t43_87 rfl ?_
        obtain ⟨v9, g9, k9, rfl, σ1, rfl, f0, f1, f3, f4, f5, fa, fb, fc, fd⟩ := cl_Net_number_16 (X := X) (q := q) (σ := σ') (i := so_cb T (100 * κ + 97 + x) (T 3)) (x := x) hlt8 (by omega) h3 h4 h5 ((congrFun (hf 3 (by decide) (by decide) (by decide) (by decide) (by decide)) 4).trans hd.1.2.2.2.2.1) ((congrFun (hf 3 (by decide) (by decide) (by decide) (by decide) (by decide)) 5).trans hd.1.2.2.2.2.2) (by have := bn_lt T c; omega) (by have := bn_lt T l; omega)
        refine ep_cv t43_88 rfl rfl (Nat.le_of_ble_eq_true rfl) (Nat.le_of_ble_eq_true rfl) (k9) ?_
        refine ep_inc (b := nI (x + 1)) (L' := [some (.ref 16), some (.ref 3), some (.int (nI κ)), some (.int (nI (x + 1)))]) t43_91 rfl (nI_add x 1) rfl (Nat.le_of_ble_eq_true rfl) ?_
        refine ep_gt t43_94 ?_
        rw [so_bn hw hx26 hj hjx] at f4 f5
        refine L_d2_16 hw hd hκ K d (x + 1) σ1 (by omega) (so_D.add hw hD hj hky f0 f1 f3 f4 f5 (fun m => (fa m).trans (by rw [z4.1]; rfl)) (fun m => (fb m).trans (by rw [hjx, Nat.add_comm x 97]; rfl)) (fun m => (fc m).trans (by rw [z4.2.1]; rfl)) (fun m => (fd m).trans (by rw [z4.2.2]; rfl)))
theorem L_d1_16 {X : gX} {q : Bool} {σ : gT1} {T : Nat → Nat} {c l : Nat} {P : Option Value → gS → Prop} (hw : WFT T) (hd : DrC σ T c l) (K : ∀ (σ' : gT1) (o3 : Option Value), so_D 16 σ T c l 397 σ' → EvP X 43 103 [some (.ref 16), some (.ref 3), some (.int (nI 3)), o3] [] (47, g_rho q, σ') P) : ∀ (d κ : Nat) (σ' : gT1) (o3 : Option Value), κ + d = 3 → so_D 16 σ T c l (100 * κ + 97) σ' → EvP X 43 41 [some (.ref 16), some (.ref 3), some (.int (nI κ)), o3] [] (47, g_rho q, σ') P
  | 0, κ, σ', o3, hk, hD => by
    obtain rfl : κ = 3 := by omega
    refine ep_iln t43_41 rfl ?_
    refine ep_k1 (w := nI 3) t43_42 rfl ?_
    refine ep_ifP t43_43 (ic_ge (by omega) (by omega)) (fun (c43 : 3 ≤ 3) => ?_) (fun (c43 : ¬ (3 ≤ 3)) => (by omega))
    exact K σ' _ hD
  | d + 1, κ, σ', o3, hk, hD => by
    refine ep_iln t43_41 rfl ?_
    refine ep_k1 (w := nI 3) t43_42 rfl ?_
    refine ep_ifP t43_43 (ic_ge (by omega) (by omega)) (fun (c43 : 3 ≤ κ) => (by omega)) (fun (c43 : ¬ (3 ≤ κ)) => ?_)
    refine ep_k1 (w := nI 0) t43_46 rfl ?_
    refine ep_isn (L' := [some (.ref 16), some (.ref 3), some (.int (nI κ)), some (.int (nI 0))]) t43_47 rfl (Nat.le_of_ble_eq_true rfl) ?_
    refine L_d2_16 hw hd (by omega) (fun σ2 h2 => ?_) 26 0 σ' rfl hD
    refine ep_inc (b := nI (κ + 1)) (L' := [some (.ref 16), some (.ref 3), some (.int (nI (κ + 1))), some (.int (nI 26))]) t43_97 rfl (nI_add κ 1) rfl (Nat.le_of_ble_eq_true rfl) ?_
    refine ep_gt t43_100 ?_
    exact L_d1_16 hw hd K d (κ + 1) σ2 _ (by omega) (h2.skip (so_gap hw))
theorem cl_Net_draw_16 {X : gX} {q : Bool} {σ : gT1} {T : Nat → Nat} {c l : Nat} (hw : WFD T c l) (hd : DrC σ T c l) : ClP X 43 [.ref 16, .ref 3] (47, g_rho q, σ) (fun v g1 => v = none ∧ ∃ σ1, g1 = (47, g_rho q, σ1) ∧ (∀ r, (r < 16 ∨ 25 ≤ r) → σ1 r = σ r) ∧ NetC σ1 16 (so_T T) ∧ σ1 16 4 = nI (so_C T c) ∧ σ1 16 5 = nI (so_C T l)) := by
  refine ClP.of ⟨Nat.le_of_ble_eq_true rfl, rfl⟩ ?_
  show EvP X 43 0 [some (.ref 16), some (.ref 3), none, none] [] (47, g_rho q, σ) _
  refine ep_aln t43_0 rfl ?_
  refine ep_aln t43_1 rfl ?_
  refine ep_get t43_2 rfl (Nat.le_of_ble_eq_true rfl) rfl ?_
  refine ep_val (b := nI (T 0)) (hd.1.1) ?_
  refine ep_put t43_5 rfl (Nat.le_of_ble_eq_true rfl) rfl ?_
  refine ep_aln t43_8 rfl ?_
  refine ep_aln t43_9 rfl ?_
  refine ep_get t43_10 rfl (Nat.le_of_ble_eq_true rfl) rfl ?_
  refine ep_val (b := nI (T 1)) (hd.1.2.1) ?_
  refine ep_put t43_13 rfl (Nat.le_of_ble_eq_true rfl) rfl ?_
  refine ep_aln t43_16 rfl ?_
  refine ep_aln t43_17 rfl ?_
  refine ep_get t43_18 rfl (Nat.le_of_ble_eq_true rfl) rfl ?_
  refine ep_val (b := nI (T 2)) (hd.1.2.2.1) ?_
  refine ep_put t43_21 rfl (Nat.le_of_ble_eq_true rfl) rfl ?_
  refine ep_aln t43_24 rfl ?_
  refine ep_k1 (w := nI 0) t43_25 rfl ?_
  refine ep_put t43_26 rfl (Nat.le_of_ble_eq_true rfl) rfl ?_
  refine ep_aln t43_29 rfl ?_
  refine ep_k1 (w := nI 0) t43_30 rfl ?_
  refine ep_put t43_31 rfl (Nat.le_of_ble_eq_true rfl) rfl ?_
  refine ep_aln t43_34 rfl ?_
  refine ep_k1 (w := nI 0) t43_35 rfl ?_
  refine ep_put t43_36 rfl (Nat.le_of_ble_eq_true rfl) rfl ?_
  refine ep_k1 (w := nI 0) t43_39 rfl ?_
  refine ep_isn (L' := [some (.ref 16), some (.ref 3), some (.int (nI 0)), none]) t43_40 rfl (Nat.le_of_ble_eq_true rfl) ?_
  have e0 : so_cb T (100 * 0 + 97) (T 3) = 0 := so_cb_zero (T 3) (fun k hk => (so_ky_b hw.1 hk).1)
  have e1 : so_cb T 397 (T 3) = T 3 := so_cb_all (T 3) (fun k hk => Nat.lt_trans (so_ky_b hw.1 hk).2 (by decide))
  refine L_d1_16 hw.1 hd (fun σ' o3 hD => ?_) 3 0 _ none rfl ⟨fun r a _ _ _ _ => by (repeat rw [g_up_ne a]), ⟨rfl, rfl, rfl⟩, by rw [e0]; rfl, by rw [e0]; rfl, by rw [e0]; rfl, fun i hi => absurd hi (by rw [e0]; exact Nat.not_lt_zero i)⟩
  unfold so_D at hD
  rw [e1] at hD
  obtain ⟨h0, ⟨ha, hb, hc⟩, h3, h4, h5, h6⟩ := hD
  have hws := so_wf hw.1
  have hA : ((∀ j, j < 4 → σ' 16 j = nI (so_T T j)) ∧ ∀ k, k < so_T T 3 → σ' 17 k = nI (so_T T (4 + k)) ∧ σ' 18 k = nI (so_T T (12 + k)) ∧ σ' 19 k = nI (so_T T (20 + k)) ∧ σ' 20 k = sec (so_T T) k) := by
    refine ⟨fun j hj => ?_, fun k hk => ?_⟩
    · rw [so_T_lo hj]
      match j, hj with
      | 0, _ => exact ha
      | 1, _ => exact hb
      | 2, _ => exact hc
      | 3, _ => exact h3
    · rw [so_T3] at hk
      have s := so_T_k (T := T) (k := k) (Nat.lt_of_lt_of_le hk hw.1.2.2.1)
      rw [s.1, s.2.1, s.2.2.1, sec_eq (T := so_T T) (T' := T) (k := k) (k' := so_iv T k) s.1 s.2.2.2]
      exact h6 k hk
  refine ep_aln t43_103 rfl ?_
  obtain ⟨v1, g1, k1, rfl, σ1, rfl, j1, j2⟩ := cl_Net_measure_16 (X := X) (q := q) (σ := σ') (T := so_T T) hA hws.w0 (lt31 hws.2.1.1 (by have := hws.1.2; omega)) (lt31 hws.2.1.2 (by have := hws.1.2; omega))
  refine ep_cv t43_104 rfl rfl (Nat.le_of_ble_eq_true rfl) (Nat.le_of_ble_eq_true rfl) (k1) ?_
  refine ep_rv t43_107 ?_
  exact ⟨rfl, σ1, rfl, fun r hr => (j1 r (by omega) (by omega) (by omega) (by omega)).trans (h0 r (by omega) (by omega) (by omega) (by omega) (by omega)), j2, (congrFun (j1 16 (by decide) (by decide) (by decide) (by decide)) 4).trans h4, (congrFun (j1 16 (by decide) (by decide) (by decide) (by decide)) 5).trans h5⟩

