/-! The class: the steps of the cheapest row. -/
theorem nI_m9 {n : Nat} (h : n < 2147483648) : ¬ nI n = -9 := fun e => by
  have := congrArg Int32.toInt e
  rw [nI_toInt h] at this
  have h2 : (-9 : Int32).toInt = -9 := by decide
  omega
theorem ge_m1 {a : Int32} (h : (-1 : Int32) ≤ a) : a = -1 ∨ ∃ k, k < 2147483648 ∧ a = nI k := by
  rw [Int32.le_iff_toInt_le] at h
  have h2 : (-1 : Int32).toInt = -1 := by decide
  have h3 := Int32.toInt_lt a
  by_cases e : a.toInt = -1
  · exact Or.inl (Int32.toInt_inj.mp (e.trans h2.symm))
  · refine Or.inr ⟨a.toInt.toNat, by omega, Int32.toInt_inj.mp ?_⟩
    rw [nI_toInt (by omega)]
    omega
def TI (T pr : Nat → Nat) (l : Nat) (W : Nat → Prop) (c i x : Nat) : Prop := (trk (lw T l) (pcs T pr) W c i < 2 ^ T 3 ∧ sound T (trk (lw T l) (pcs T pr) W c i)) ∧ IsC (lw T l) (pcs T pr) W (trk (lw T l) (pcs T pr) W c i) x ∧ (∀ j, j < i → ¬ dst (lw T l) (pcs T pr) W (trk (lw T l) (pcs T pr) W c j) = some 0) ∧ i ≤ cnt (2 ^ T 3) (fun t => ∃ y, IsC (lw T l) (pcs T pr) W t y ∧ x < y)
theorem TI.z {T pr : Nat → Nat} {l c x : Nat} {W : Nat → Prop} (hc : c < 2 ^ T 3) (hs : sound T c) (hd : dst (lw T l) (pcs T pr) W c = some x) : TI T pr l W c 0 x := ⟨⟨hc, hs⟩, dst_some.mp hd, fun j hj => absurd hj (Nat.not_lt_zero j), Nat.zero_le _⟩
theorem TI.up {T pr : Nat → Nat} {l c i x e : Nat} {W : Nat → Prop} (hw : WF0 T) (hpr : ∀ i, i < 3 → 1 ≤ pr i ∧ pr i ≤ 9) (h : TI T pr l W c i x) (hx : x ≠ 0) (hs : St1 (lw T l) (pcs T pr) W (trk (lw T l) (pcs T pr) W c i) e) : ∃ y, TI T pr l W c (i + 1) y := by
  obtain ⟨⟨a1, a2⟩, a3, a4, a5⟩ := h
  obtain rfl := hs.isN
  obtain ⟨⟨b1, y, b2, b3⟩, -⟩ := hs
  have hx3 := dst_some.mpr a3
  rw [b3] at hx3
  have hxy := Option.some.inj hx3
  have hp := lw_p hw hpr _ _ b1
  refine ⟨y, ⟨lw_N _ _ b1 a1, lw_sd _ _ b1⟩, dst_some.mp b2, fun j hj hz => ?_, ?_⟩
  · by_cases e : j = i
    · subst e
      rw [b3] at hz
      have := Option.some.inj hz
      omega
    · exact a4 j (by omega) hz
  · have := cnt_more (P := fun t => ∃ z, IsC (lw T l) (pcs T pr) W t z ∧ x < z) (Q := fun t => ∃ z, IsC (lw T l) (pcs T pr) W t z ∧ y < z) (2 ^ T 3) (fun i _ ⟨z, g1, g2⟩ => ⟨z, g1, by omega⟩) a1 ⟨x, a3, by omega⟩ (fun ⟨z, g1, g2⟩ => by
      have := g1.one a3
      omega)
    omega
theorem TI.lt {T pr : Nat → Nat} {l c i x : Nat} {W : Nat → Prop} (hw : WF0 T) (h : TI T pr l W c i x) : i < 256 := by
  obtain ⟨⟨a1, a2⟩, a3, a4, a5⟩ := h
  have h1 := cnt_more (P := fun t => ∃ z, IsC (lw T l) (pcs T pr) W t z ∧ x < z) (Q := fun _ => True) (2 ^ T 3) (fun _ _ _ => trivial) a1 trivial (fun ⟨z, g1, g2⟩ => by
    have := g1.one a3
    omega)
  have h2 := cnt_le (fun _ : Nat => True) (2 ^ T 3)
  have h3 := pow_le_256 hw.2.1
  omega
theorem TI.ansZ {T pr : Nat → Nat} {l c i k x : Nat} {W : Nat → Prop} (h : TI T pr l W c i x) (hx : x = 0) (hk : i ≤ k) : ansK (lw T l) (pcs T pr) W c k = -9 := by
  unfold ansK
  rw [if_pos ⟨i, hk, by rw [dst_some.mpr h.2.1, hx]⟩]
theorem TI.ansS {T pr : Nat → Nat} {l c i x : Nat} {W : Nat → Prop} (h : TI T pr l W c i x) (hx : x ≠ 0) : ansK (lw T l) (pcs T pr) W c i = nI (nxt (lw T l) (pcs T pr) W (trk (lw T l) (pcs T pr) W c i)) := by
  unfold ansK
  rw [if_neg]
  rintro ⟨j, hj, hz⟩
  by_cases e : j = i
  · subst e
    rw [dst_some.mpr h.2.1] at hz
    exact hx (Option.some.inj hz)
  · exact h.2.2.1 j (by omega) hz
def a0 (o : Option Nat) : Int32 := match o with
  | some n => nI n
  | none => -9
def a1 (o : Option Nat) (v : Int32) : Int32 := match o with
  | some _ => v
  | none => -9
theorem L_st_7 {X : gX} {σ : gT1} {T pr : Nat → Nat} {l : Nat} {W : Nat → Prop} {s x : Nat} (hN : NetC σ 7 T) (hw : WF0 T) (hl : l < 2 ^ T 3) (e5 : σ 0 5 = nI l) (e25 : ∀ i, i < 3 → σ 25 i = nI (pr i)) (hpr : ∀ i, i < 3 → 1 ≤ pr i ∧ pr i ≤ 9) (h30 : ∀ s, s < 2 ^ T 3 → σ 30 s = oI (dS (lw T l) (pcs T pr) W (sound T) s)) (hs : s < 2 ^ T 3) (hsd : sound T s) (hd : dst (lw T l) (pcs T pr) W s = some x) (hx : x ≠ 0) : ∀ (d k : Nat), k + d = T 3 → (∀ j, j < k → ¬ Sq (lw T l) (pcs T pr) W s j) → EvP X 113 2 [some (.ref 0), some (.int (nI s)), some (.int (nI k))] [] (47, g_rho false, σ) (fun v g1 => ∃ e, v = some (.int (nI e)) ∧ g1 = (47, g_rho false, σ) ∧ St1 (lw T l) (pcs T pr) W s e ∧ e < T 3)
  | 0, k, hk, h2 => by
    obtain ⟨e, he⟩ := St1.ex hd hx
    exact absurd he (h2 e (by have := he.1.1; omega))
  | d + 1, k, hk, h2 => by
    have hk3 : k < T 3 := by omega
    have h38 := hw.2.1
    have hx8 := pow_le_256 h38
    have hx2 := (dst_some.mp hd).le (lw_p hw hpr) lw_N hx8 hs
    refine ep_iln t113_2 rfl ?_
    refine ep_aln t113_3 rfl ?_
    refine ep_getr (q := 7) t113_4 rfl (Nat.le_of_ble_eq_true rfl) rfl (rfl) ?_
    refine ep_get t113_7 rfl (Nat.le_of_ble_eq_true rfl) rfl ?_
    refine ep_val (b := nI (T 3)) (hN.1 3 (by decide)) ?_
    refine ep_ifP t113_10 (ic_ge (by have hy8 := why2_le T s k; omega) (by have hy8 := why2_le T s k; omega)) (fun (c10 : (T 3) ≤ k) => (by omega)) (fun (c10 : ¬ ((T 3) ≤ k)) => ?_)
    refine ep_aln t113_13 rfl ?_
    refine ep_get t113_14 rfl (Nat.le_of_ble_eq_true rfl) rfl ?_
    refine ep_val (b := nI l) (e5) ?_
    refine ep_iln t113_17 rfl ?_
    refine ep_cs t113_18 (Nat.ne_of_beq_eq_false rfl) rfl (Nat.le_of_ble_eq_true rfl) (cl_B_bit (by omega) (by omega)) ?_
    refine ep_bT t113_21 (fun (c21 : (Nat.testBit l k) = true) => ?_) (fun (c21 : (Nat.testBit l k) = false) => ?_)
    · refine ep_inc (b := nI (k + 1)) (L' := [some (.ref 0), some (.int (nI s)), some (.int (nI (k + 1)))]) t113_72 rfl (nI_add k 1) rfl (Nat.le_of_ble_eq_true rfl) ?_
      refine ep_gt t113_75 ?_
      refine L_st_7 hN hw hl e5 e25 hpr h30 hs hsd hd hx d (k + 1) (by omega) (fun j hj => ?_)
      by_cases e : j = k
      · subst e
        intro hq
        have hq1 := hq.1.2
        rw [why_eq hk3] at hq1
        first
        | (rw [if_pos c21] at hq1; exact absurd hq1 (by decide))
        | (rw [if_neg (by rw [c21]; decide)] at hq1; exact absurd hq1 c33)
        | (obtain ⟨y2, g1, g2⟩ := hq.2; rw [hy] at g1; rw [hd] at g2; have g3 := Option.some.inj g1; have g4 := Option.some.inj g2; exact c67 (by omega))
      · exact h2 j (by omega)
    · refine ep_aln t113_24 rfl ?_
      refine ep_getr (q := 7) t113_25 rfl (Nat.le_of_ble_eq_true rfl) rfl (rfl) ?_
      refine ep_iln t113_28 rfl ?_
      refine ep_iln t113_29 rfl ?_
      refine ep_cv t113_30 rfl rfl (Nat.le_of_ble_eq_true rfl) (Nat.le_of_ble_eq_true rfl) (cl_Net_whyNot_7 (T := T) hN hw.1 hw.2.1 hs hk3) ?_
      refine ep_if0P t113_33 (ic0_ne (by have hy8 := why2_le T s k; omega)) (fun (c33 : ¬ (why2 T s k) = 0) => ?_) (fun (c33 : ¬ (¬ (why2 T s k) = 0)) => ?_)
      · refine ep_inc (b := nI (k + 1)) (L' := [some (.ref 0), some (.int (nI s)), some (.int (nI (k + 1)))]) t113_72 rfl (nI_add k 1) rfl (Nat.le_of_ble_eq_true rfl) ?_
        refine ep_gt t113_75 ?_
        refine L_st_7 hN hw hl e5 e25 hpr h30 hs hsd hd hx d (k + 1) (by omega) (fun j hj => ?_)
        by_cases e : j = k
        · subst e
          intro hq
          have hq1 := hq.1.2
          rw [why_eq hk3] at hq1
          first
          | (rw [if_pos c21] at hq1; exact absurd hq1 (by decide))
          | (rw [if_neg (by rw [c21]; decide)] at hq1; exact absurd hq1 c33)
          | (obtain ⟨y2, g1, g2⟩ := hq.2; rw [hy] at g1; rw [hd] at g2; have g3 := Option.some.inj g1; have g4 := Option.some.inj g2; exact c67 (by omega))
        · exact h2 j (by omega)
      · have hok : lw T l s k := ⟨hk3, by rw [why_eq hk3, if_neg (by rw [c21]; decide)]; exact Classical.byContradiction c33⟩
        have hsk := xor_lt hs hk3
        have hpk := lw_p hw hpr s k hok
        have hkd := hw.2.2.2 k hk3
        obtain ⟨y, hy, -⟩ := dst_of (Co_step (lw_sy s k hsd hok) (by rw [xx]; exact (dst_some.mp hd).1))
        have hy2 := (dst_some.mp hy).le (lw_p hw hpr) lw_N hx8 hsk
        refine ep_aln t113_36 rfl ?_
        refine ep_getr (q := 30) t113_37 rfl (Nat.le_of_ble_eq_true rfl) rfl (rfl) ?_
        refine ep_iln t113_40 rfl ?_
        refine ep_k1 (w := nI 1) t113_41 rfl ?_
        refine ep_iln t113_42 rfl ?_
        refine ep_oneN (b := k) t113_43 (by have hy8 := why2_le T s k; omega) ?_
        refine ep_xorN (a := s) (b := 2 ^ k) t113_44 ?_
        refine ep_aldN t113_45 rfl (Nat.le_of_ble_eq_true rfl) (Nat.ne_of_beq_eq_false rfl) (Nat.le_of_ble_eq_true rfl) (by have hy8 := why2_le T s k; omega) ?_
        refine ep_val (b := nI y) ((h30 _ hsk).trans (by rw [dS_yes (lw_sd s k hok), hy]; rfl)) ?_
        refine ep_aln t113_46 rfl ?_
        refine ep_getr (q := 25) t113_47 rfl (Nat.le_of_ble_eq_true rfl) rfl (rfl) ?_
        refine ep_aln t113_50 rfl ?_
        refine ep_getr (q := 7) t113_51 rfl (Nat.le_of_ble_eq_true rfl) rfl (rfl) ?_
        refine ep_getr (q := 8) t113_54 rfl (Nat.le_of_ble_eq_true rfl) rfl (rfl) ?_
        refine ep_iln t113_57 rfl ?_
        refine ep_aldN t113_58 rfl (Nat.le_of_ble_eq_true rfl) (Nat.ne_of_beq_eq_false rfl) (Nat.le_of_ble_eq_true rfl) (by have hy8 := why2_le T s k; omega) ?_
        refine ep_val (b := nI (T (4 + k))) ((hN.2.1 k hk3).1) ?_
        refine ep_aldN t113_59 rfl (Nat.le_of_ble_eq_true rfl) (Nat.ne_of_beq_eq_false rfl) (Nat.le_of_ble_eq_true rfl) (by have hy8 := why2_le T s k; omega) ?_
        refine ep_val (b := nI (pcs T pr k)) (e25 _ (hw.2.2.2 k hk3)) ?_
        refine ep_addN (a := y) (b := pcs T pr k) t113_60 ?_
        refine ep_aln t113_61 rfl ?_
        refine ep_getr (q := 30) t113_62 rfl (Nat.le_of_ble_eq_true rfl) rfl (rfl) ?_
        refine ep_iln t113_65 rfl ?_
        refine ep_aldN t113_66 rfl (Nat.le_of_ble_eq_true rfl) (Nat.ne_of_beq_eq_false rfl) (Nat.le_of_ble_eq_true rfl) (by have hy8 := why2_le T s k; omega) ?_
        refine ep_val (b := nI x) ((h30 s hs).trans (by rw [dS_yes hsd, hd]; rfl)) ?_
        refine ep_ifP t113_67 (ic_ne (by have hy8 := why2_le T s k; omega) (by have hy8 := why2_le T s k; omega)) (fun (c67 : ¬ (y + (pcs T pr k)) = x) => ?_) (fun (c67 : ¬ (¬ (y + (pcs T pr k)) = x)) => ?_)
        · refine ep_inc (b := nI (k + 1)) (L' := [some (.ref 0), some (.int (nI s)), some (.int (nI (k + 1)))]) t113_72 rfl (nI_add k 1) rfl (Nat.le_of_ble_eq_true rfl) ?_
          refine ep_gt t113_75 ?_
          refine L_st_7 hN hw hl e5 e25 hpr h30 hs hsd hd hx d (k + 1) (by omega) (fun j hj => ?_)
          by_cases e : j = k
          · subst e
            intro hq
            have hq1 := hq.1.2
            rw [why_eq hk3] at hq1
            first
            | (rw [if_pos c21] at hq1; exact absurd hq1 (by decide))
            | (rw [if_neg (by rw [c21]; decide)] at hq1; exact absurd hq1 c33)
            | (obtain ⟨y2, g1, g2⟩ := hq.2; rw [hy] at g1; rw [hd] at g2; have g3 := Option.some.inj g1; have g4 := Option.some.inj g2; exact c67 (by omega))
          · exact h2 j (by omega)
        · refine ep_iln t113_70 rfl ?_
          refine ep_ri t113_71 (fun h => absurd h (by decide)) ?_
          have hS1 : St1 (lw T l) (pcs T pr) W s k := ⟨⟨hok, y, hy, by rw [hd, Classical.byContradiction c67]⟩, h2⟩
          exact ⟨k, rfl, rfl, hS1, hk3⟩
theorem cl_B_stepFrom_7 {X : gX} {σ : gT1} {T pr : Nat → Nat} {l : Nat} {W : Nat → Prop} {s x : Nat} (hN : NetC σ 7 T) (hw : WF0 T) (hl : l < 2 ^ T 3) (e5 : σ 0 5 = nI l) (e25 : ∀ i, i < 3 → σ 25 i = nI (pr i)) (hpr : ∀ i, i < 3 → 1 ≤ pr i ∧ pr i ≤ 9) (h30 : ∀ s, s < 2 ^ T 3 → σ 30 s = oI (dS (lw T l) (pcs T pr) W (sound T) s)) (hs : s < 2 ^ T 3) (hsd : sound T s) (hd : dst (lw T l) (pcs T pr) W s = some x) (hx : x ≠ 0)  : ClP X 113 [.ref 0, .int (nI s)] (47, g_rho false, σ) (fun v g1 => ∃ e, v = some (.int (nI e)) ∧ g1 = (47, g_rho false, σ) ∧ St1 (lw T l) (pcs T pr) W s e ∧ e < T 3) := by
  refine ClP.of ⟨Nat.le_of_ble_eq_true rfl, rfl⟩ ?_
  show EvP X 113 0 [some (.ref 0), some (.int (nI s)), none] [] (47, g_rho false, σ) _
  refine ep_k1 (w := nI 0) t113_0 rfl ?_
  refine ep_isn (L' := [some (.ref 0), some (.int (nI s)), some (.int (nI 0))]) t113_1 rfl (Nat.le_of_ble_eq_true rfl) ?_
  exact L_st_7 hN hw hl e5 e25 hpr h30 hs hsd hd hx (T 3) 0 (by omega) (fun j hj => absurd hj (Nat.not_lt_zero j))

theorem L_ch_7 {X : gX} {σ : gT1} {T pr : Nat → Nat} {l : Nat} {W : Nat → Prop} {c k : Nat} (hN : NetC σ 7 T) (hw : WF0 T) (hl : l < 2 ^ T 3) (e5 : σ 0 5 = nI l) (e25 : ∀ i, i < 3 → σ 25 i = nI (pr i)) (hpr : ∀ i, i < 3 → 1 ≤ pr i ∧ pr i ≤ 9) (h30 : ∀ s, s < 2 ^ T 3 → σ 30 s = oI (dS (lw T l) (pcs T pr) W (sound T) s)) (hk : k < 2147483648) : ∀ (d i x : Nat) (o2 o5 : Option Value), i + d = 256 → i ≤ k → TI T pr l W c i x → EvP X 114 32 [some (.ref 0), some (.int (nI k)), o2, some (.int (nI (trk (lw T l) (pcs T pr) W c i))), some (.int (nI i)), o5] [] (47, g_rho false, σ) (fun v g1 => v = some (.int (ansK (lw T l) (pcs T pr) W c k)) ∧ g1 = (47, g_rho false, σ))
  | 0, i, x, o2, o5, hd, hi, ht => by
    have := ht.lt hw
    omega
  | d + 1, i, x, o2, o5, hd, hi, ht => by
    have h38 := hw.2.1
    have hx2 := ht.2.1.le (lw_p hw hpr) lw_N (pow_le_256 h38) ht.1.1
    have hx8 := pow_le_256 h38
    have ht1 := ht.1.1
    refine ep_il t114_32 rfl ?_
    refine ep_k3 (w := nI 256) t114_34 rfl ?_
    refine ep_ifP t114_37 (ic_ge (by omega) (by omega)) (fun (c37 : 256 ≤ i) => (by omega)) (fun (c37 : ¬ (256 ≤ i)) => ?_)
    refine ep_il t114_40 rfl ?_
    refine ep_iln t114_42 rfl ?_
    refine ep_ifP t114_43 (ic_gt (by omega) (by omega)) (fun (c43 : k < i) => (by omega)) (fun (c43 : ¬ (k < i)) => ?_)
    refine ep_aln t114_46 rfl ?_
    refine ep_getr (q := 30) t114_47 rfl (Nat.le_of_ble_eq_true rfl) rfl (rfl) ?_
    refine ep_iln t114_50 rfl ?_
    refine ep_aldN t114_51 rfl (Nat.le_of_ble_eq_true rfl) (Nat.ne_of_beq_eq_false rfl) (Nat.le_of_ble_eq_true rfl) (by omega) ?_
    refine ep_val (b := nI x) ((h30 _ ht.1.1).trans (by rw [dS_yes ht.1.2, dst_some.mpr ht.2.1]; rfl)) ?_
    refine ep_if0P t114_52 (ic0_le (by omega)) (fun (c52 : x ≤ 0) => ?_) (fun (c52 : ¬ (x ≤ 0)) => ?_)
    · refine ep_k2 (w := (-9)) t114_94 rfl ?_
      refine ep_ri t114_96 (fun h => absurd h (by decide)) ?_
      rw [ht.ansZ (by omega) hi]
      exact ⟨rfl, rfl⟩
    · refine ep_aln t114_55 rfl ?_
      refine ep_iln t114_56 rfl ?_
      have hx0 : x ≠ 0 := by omega
      obtain ⟨v9, g9, hm9, e, rfl, rfl, hS1, he3⟩ := cl_B_stepFrom_7 (X := X) hN hw hl e5 e25 hpr h30 ht.1.1 ht.1.2 (dst_some.mpr ht.2.1) hx0
      obtain ⟨y, hty⟩ := ht.up hw hpr hx0 hS1
      have hen := hS1.isN
      refine ep_cv t114_57 rfl rfl (Nat.le_of_ble_eq_true rfl) (Nat.le_of_ble_eq_true rfl) (hm9) ?_
      refine ep_is (L' := [some (.ref 0), some (.int (nI k)), o2, some (.int (nI (trk (lw T l) (pcs T pr) W c i))), some (.int (nI i)), some (.int (nI e))]) t114_60 rfl (Nat.le_of_ble_eq_true rfl) ?_
      refine ep_il t114_62 rfl ?_
      refine ep_k2 (w := (-9)) t114_64 rfl ?_
      refine ep_if t114_66 (fun (c66 : ¬ (nI e) = ((-9))) => ?_) (fun (c66 : ¬ (¬ (nI e) = ((-9)))) => (by exact absurd (Classical.byContradiction c66) (nI_m9 (by omega))))
      refine ep_il t114_72 rfl ?_
      refine ep_iln t114_74 rfl ?_
      refine ep_ifP t114_75 (ic_ne (by omega) (by omega)) (fun (c75 : ¬ i = k) => ?_) (fun (c75 : ¬ (¬ i = k)) => ?_)
      · refine ep_iln t114_81 rfl ?_
        refine ep_k1 (w := nI 1) t114_82 rfl ?_
        refine ep_il t114_83 rfl ?_
        refine ep_oneN (b := e) t114_85 (by omega) ?_
        refine ep_xorN (a := trk (lw T l) (pcs T pr) W c i) (b := 2 ^ e) t114_86 ?_
        refine ep_isn (L' := [some (.ref 0), some (.int (nI k)), o2, some (.int (nI ((trk (lw T l) (pcs T pr) W c i) ^^^ (2 ^ e)))), some (.int (nI i)), some (.int (nI e))]) t114_87 rfl (Nat.le_of_ble_eq_true rfl) ?_
        refine ep_inc (b := nI (i + 1)) (L' := [some (.ref 0), some (.int (nI k)), o2, some (.int (nI ((trk (lw T l) (pcs T pr) W c i) ^^^ (2 ^ e)))), some (.int (nI (i + 1))), some (.int (nI e))]) t114_88 rfl (nI_add i 1) rfl (Nat.le_of_ble_eq_true rfl) ?_
        refine ep_gt t114_91 ?_
        rw [hen]
        exact L_ch_7 hN hw hl e5 e25 hpr h30 hk d (i + 1) y _ _ (by omega) (by omega) hty
      · refine ep_il t114_78 rfl ?_
        refine ep_ri t114_80 (fun h => absurd h (by decide)) ?_
        have hik : i = k := Classical.byContradiction c75
        rw [hen, ← hik, ht.ansS hx0]
        exact ⟨rfl, rfl⟩
theorem cl_B_cheap_m_7 {X : gX} {σ : gT1} {T pr : Nat → Nat} {l : Nat} {W : Nat → Prop} {c : Nat} (hN : NetC σ 7 T) (hw : WF0 T) (hl : l < 2 ^ T 3) (e5 : σ 0 5 = nI l) (e25 : ∀ i, i < 3 → σ 25 i = nI (pr i)) (hpr : ∀ i, i < 3 → 1 ≤ pr i ∧ pr i ≤ 9) (h30 : ∀ s, s < 2 ^ T 3 → σ 30 s = oI (dS (lw T l) (pcs T pr) W (sound T) s)) (hc : c < 2 ^ T 3) (hsc : sound T c) (e4 : σ 0 4 = nI c) : Cl X 114 [.ref 0, .int ((-1))] (47, g_rho false, σ) (some (.int (a0 (dst (lw T l) (pcs T pr) W c)))) (47, g_rho false, σ) := by
  refine Cl.of ⟨Nat.le_of_ble_eq_true rfl, rfl⟩ ?_
  show EvP X 114 0 [some (.ref 0), some (.int ((-1))), none, none, none, none] [] (47, g_rho false, σ) _
  cases hd : dst (lw T l) (pcs T pr) W c with
  | none =>
    refine ep_aln t114_0 rfl ?_
    refine ep_getr (q := 30) t114_1 rfl (Nat.le_of_ble_eq_true rfl) rfl (rfl) ?_
    refine ep_aln t114_4 rfl ?_
    refine ep_get t114_5 rfl (Nat.le_of_ble_eq_true rfl) rfl ?_
    refine ep_val (b := nI c) (e4) ?_
    refine ep_aldN t114_8 rfl (Nat.le_of_ble_eq_true rfl) (Nat.ne_of_beq_eq_false rfl) (Nat.le_of_ble_eq_true rfl) (by have := pow_le_256 hw.2.1; omega) ?_
    refine ep_val (b := (-1 : Int32)) ((h30 c hc).trans (by rw [dS_yes hsc, hd]; rfl)) ?_
    refine ep_isn (L' := [some (.ref 0), some (.int ((-1))), some (.int ((-1 : Int32))), none, none, none]) t114_9 rfl (Nat.le_of_ble_eq_true rfl) ?_
    refine ep_iln t114_10 rfl ?_
    refine ep_k1 (w := (-1)) t114_11 rfl ?_
    refine ep_if t114_12 (fun (c12 : ¬ ((-1 : Int32)) = ((-1))) => (by exact absurd rfl c12)) (fun (c12 : ¬ (¬ ((-1 : Int32)) = ((-1)))) => ?_)
    refine ep_k2 (w := (-9)) t114_15 rfl ?_
    refine ep_ri t114_17 (fun h => absurd h (by decide)) ?_
    exact ⟨rfl, rfl⟩
  | some n =>
    have hx2 := (dst_some.mp hd).le (lw_p hw hpr) lw_N (pow_le_256 hw.2.1) hc
    refine ep_aln t114_0 rfl ?_
    refine ep_getr (q := 30) t114_1 rfl (Nat.le_of_ble_eq_true rfl) rfl (rfl) ?_
    refine ep_aln t114_4 rfl ?_
    refine ep_get t114_5 rfl (Nat.le_of_ble_eq_true rfl) rfl ?_
    refine ep_val (b := nI c) (e4) ?_
    refine ep_aldN t114_8 rfl (Nat.le_of_ble_eq_true rfl) (Nat.ne_of_beq_eq_false rfl) (Nat.le_of_ble_eq_true rfl) (by have := pow_le_256 hw.2.1; omega) ?_
    refine ep_val (b := nI n) ((h30 c hc).trans (by rw [dS_yes hsc, hd]; rfl)) ?_
    refine ep_isn (L' := [some (.ref 0), some (.int ((-1))), some (.int (nI n)), none, none, none]) t114_9 rfl (Nat.le_of_ble_eq_true rfl) ?_
    refine ep_iln t114_10 rfl ?_
    refine ep_k1 (w := (-1)) t114_11 rfl ?_
    refine ep_if t114_12 (fun (c12 : ¬ (nI n) = ((-1))) => ?_) (fun (c12 : ¬ (¬ (nI n) = ((-1)))) => (by exact absurd (Classical.byContradiction c12) (nI_m1 (by omega))))
    refine ep_iln t114_18 rfl ?_
    refine ep_if0 t114_19 (fun (c19 : 0 ≤ ((-1))) => (by exact absurd c19 (by decide))) (fun (c19 : ¬ (0 ≤ ((-1)))) => ?_)
    refine ep_iln t114_22 rfl ?_
    refine ep_ri t114_23 (fun h => absurd h (by decide)) ?_
    exact ⟨rfl, rfl⟩
theorem cl_B_cheap_n_7 {X : gX} {σ : gT1} {T pr : Nat → Nat} {l : Nat} {W : Nat → Prop} {c : Nat} {k : Nat} (hN : NetC σ 7 T) (hw : WF0 T) (hl : l < 2 ^ T 3) (e5 : σ 0 5 = nI l) (e25 : ∀ i, i < 3 → σ 25 i = nI (pr i)) (hpr : ∀ i, i < 3 → 1 ≤ pr i ∧ pr i ≤ 9) (h30 : ∀ s, s < 2 ^ T 3 → σ 30 s = oI (dS (lw T l) (pcs T pr) W (sound T) s)) (hc : c < 2 ^ T 3) (hsc : sound T c) (e4 : σ 0 4 = nI c) (hk : k < 2147483648) : Cl X 114 [.ref 0, .int (nI k)] (47, g_rho false, σ) (some (.int (a1 (dst (lw T l) (pcs T pr) W c) (ansK (lw T l) (pcs T pr) W c k)))) (47, g_rho false, σ) := by
  refine Cl.of ⟨Nat.le_of_ble_eq_true rfl, rfl⟩ ?_
  show EvP X 114 0 [some (.ref 0), some (.int (nI k)), none, none, none, none] [] (47, g_rho false, σ) _
  cases hd : dst (lw T l) (pcs T pr) W c with
  | none =>
    refine ep_aln t114_0 rfl ?_
    refine ep_getr (q := 30) t114_1 rfl (Nat.le_of_ble_eq_true rfl) rfl (rfl) ?_
    refine ep_aln t114_4 rfl ?_
    refine ep_get t114_5 rfl (Nat.le_of_ble_eq_true rfl) rfl ?_
    refine ep_val (b := nI c) (e4) ?_
    refine ep_aldN t114_8 rfl (Nat.le_of_ble_eq_true rfl) (Nat.ne_of_beq_eq_false rfl) (Nat.le_of_ble_eq_true rfl) (by have := pow_le_256 hw.2.1; omega) ?_
    refine ep_val (b := (-1 : Int32)) ((h30 c hc).trans (by rw [dS_yes hsc, hd]; rfl)) ?_
    refine ep_isn (L' := [some (.ref 0), some (.int (nI k)), some (.int ((-1 : Int32))), none, none, none]) t114_9 rfl (Nat.le_of_ble_eq_true rfl) ?_
    refine ep_iln t114_10 rfl ?_
    refine ep_k1 (w := (-1)) t114_11 rfl ?_
    refine ep_if t114_12 (fun (c12 : ¬ ((-1 : Int32)) = ((-1))) => (by exact absurd rfl c12)) (fun (c12 : ¬ (¬ ((-1 : Int32)) = ((-1)))) => ?_)
    refine ep_k2 (w := (-9)) t114_15 rfl ?_
    refine ep_ri t114_17 (fun h => absurd h (by decide)) ?_
    exact ⟨rfl, rfl⟩
  | some n =>
    have hx2 := (dst_some.mp hd).le (lw_p hw hpr) lw_N (pow_le_256 hw.2.1) hc
    refine ep_aln t114_0 rfl ?_
    refine ep_getr (q := 30) t114_1 rfl (Nat.le_of_ble_eq_true rfl) rfl (rfl) ?_
    refine ep_aln t114_4 rfl ?_
    refine ep_get t114_5 rfl (Nat.le_of_ble_eq_true rfl) rfl ?_
    refine ep_val (b := nI c) (e4) ?_
    refine ep_aldN t114_8 rfl (Nat.le_of_ble_eq_true rfl) (Nat.ne_of_beq_eq_false rfl) (Nat.le_of_ble_eq_true rfl) (by have := pow_le_256 hw.2.1; omega) ?_
    refine ep_val (b := nI n) ((h30 c hc).trans (by rw [dS_yes hsc, hd]; rfl)) ?_
    refine ep_isn (L' := [some (.ref 0), some (.int (nI k)), some (.int (nI n)), none, none, none]) t114_9 rfl (Nat.le_of_ble_eq_true rfl) ?_
    refine ep_iln t114_10 rfl ?_
    refine ep_k1 (w := (-1)) t114_11 rfl ?_
    refine ep_if t114_12 (fun (c12 : ¬ (nI n) = ((-1))) => ?_) (fun (c12 : ¬ (¬ (nI n) = ((-1)))) => (by exact absurd (Classical.byContradiction c12) (nI_m1 (by omega))))
    refine ep_iln t114_18 rfl ?_
    refine ep_if0P t114_19 (ic0_ge (by have := pow_le_256 hw.2.1; omega)) (fun (c19 : 0 ≤ k) => ?_) (fun (c19 : ¬ (0 ≤ k)) => (by omega))
    refine ep_aln t114_24 rfl ?_
    refine ep_get t114_25 rfl (Nat.le_of_ble_eq_true rfl) rfl ?_
    refine ep_val (b := nI c) (e4) ?_
    refine ep_isn (L' := [some (.ref 0), some (.int (nI k)), some (.int (nI n)), some (.int (nI c)), none, none]) t114_28 rfl (Nat.le_of_ble_eq_true rfl) ?_
    refine ep_k1 (w := nI 0) t114_29 rfl ?_
    refine ep_is (L' := [some (.ref 0), some (.int (nI k)), some (.int (nI n)), some (.int (nI c)), some (.int (nI 0)), none]) t114_30 rfl (Nat.le_of_ble_eq_true rfl) ?_
    exact L_ch_7 hN hw hl e5 e25 hpr h30 hk 256 0 n _ _ (by omega) (by omega) (TI.z hc hsc hd)
theorem L_st_16 {X : gX} {σ : gT1} {T pr : Nat → Nat} {l : Nat} {W : Nat → Prop} {s x : Nat} (hN : NetC σ 16 T) (hw : WF0 T) (hl : l < 2 ^ T 3) (e5 : σ 0 5 = nI l) (e25 : ∀ i, i < 3 → σ 25 i = nI (pr i)) (hpr : ∀ i, i < 3 → 1 ≤ pr i ∧ pr i ≤ 9) (h30 : ∀ s, s < 2 ^ T 3 → σ 30 s = oI (dS (lw T l) (pcs T pr) W (sound T) s)) (hs : s < 2 ^ T 3) (hsd : sound T s) (hd : dst (lw T l) (pcs T pr) W s = some x) (hx : x ≠ 0) : ∀ (d k : Nat), k + d = T 3 → (∀ j, j < k → ¬ Sq (lw T l) (pcs T pr) W s j) → EvP X 113 2 [some (.ref 0), some (.int (nI s)), some (.int (nI k))] [] (47, g_rho true, σ) (fun v g1 => ∃ e, v = some (.int (nI e)) ∧ g1 = (47, g_rho true, σ) ∧ St1 (lw T l) (pcs T pr) W s e ∧ e < T 3)
  | 0, k, hk, h2 => by
    obtain ⟨e, he⟩ := St1.ex hd hx
    exact absurd he (h2 e (by have := he.1.1; omega))
  | d + 1, k, hk, h2 => by
    have hk3 : k < T 3 := by omega
    have h38 := hw.2.1
    have hx8 := pow_le_256 h38
    have hx2 := (dst_some.mp hd).le (lw_p hw hpr) lw_N hx8 hs
    refine ep_iln t113_2 rfl ?_
    refine ep_aln t113_3 rfl ?_
    refine ep_getr (q := 16) t113_4 rfl (Nat.le_of_ble_eq_true rfl) rfl (rfl) ?_
    refine ep_get t113_7 rfl (Nat.le_of_ble_eq_true rfl) rfl ?_
    refine ep_val (b := nI (T 3)) (hN.1 3 (by decide)) ?_
    refine ep_ifP t113_10 (ic_ge (by have hy8 := why2_le T s k; omega) (by have hy8 := why2_le T s k; omega)) (fun (c10 : (T 3) ≤ k) => (by omega)) (fun (c10 : ¬ ((T 3) ≤ k)) => ?_)
    refine ep_aln t113_13 rfl ?_
    refine ep_get t113_14 rfl (Nat.le_of_ble_eq_true rfl) rfl ?_
    refine ep_val (b := nI l) (e5) ?_
    refine ep_iln t113_17 rfl ?_
    refine ep_cs t113_18 (Nat.ne_of_beq_eq_false rfl) rfl (Nat.le_of_ble_eq_true rfl) (cl_B_bit (by omega) (by omega)) ?_
    refine ep_bT t113_21 (fun (c21 : (Nat.testBit l k) = true) => ?_) (fun (c21 : (Nat.testBit l k) = false) => ?_)
    · refine ep_inc (b := nI (k + 1)) (L' := [some (.ref 0), some (.int (nI s)), some (.int (nI (k + 1)))]) t113_72 rfl (nI_add k 1) rfl (Nat.le_of_ble_eq_true rfl) ?_
      refine ep_gt t113_75 ?_
      refine L_st_16 hN hw hl e5 e25 hpr h30 hs hsd hd hx d (k + 1) (by omega) (fun j hj => ?_)
      by_cases e : j = k
      · subst e
        intro hq
        have hq1 := hq.1.2
        rw [why_eq hk3] at hq1
        first
        | (rw [if_pos c21] at hq1; exact absurd hq1 (by decide))
        | (rw [if_neg (by rw [c21]; decide)] at hq1; exact absurd hq1 c33)
        | (obtain ⟨y2, g1, g2⟩ := hq.2; rw [hy] at g1; rw [hd] at g2; have g3 := Option.some.inj g1; have g4 := Option.some.inj g2; exact c67 (by omega))
      · exact h2 j (by omega)
    · refine ep_aln t113_24 rfl ?_
      refine ep_getr (q := 16) t113_25 rfl (Nat.le_of_ble_eq_true rfl) rfl (rfl) ?_
      refine ep_iln t113_28 rfl ?_
      refine ep_iln t113_29 rfl ?_
      refine ep_cv t113_30 rfl rfl (Nat.le_of_ble_eq_true rfl) (Nat.le_of_ble_eq_true rfl) (cl_Net_whyNot_16 (T := T) hN hw.1 hw.2.1 hs hk3) ?_
      refine ep_if0P t113_33 (ic0_ne (by have hy8 := why2_le T s k; omega)) (fun (c33 : ¬ (why2 T s k) = 0) => ?_) (fun (c33 : ¬ (¬ (why2 T s k) = 0)) => ?_)
      · refine ep_inc (b := nI (k + 1)) (L' := [some (.ref 0), some (.int (nI s)), some (.int (nI (k + 1)))]) t113_72 rfl (nI_add k 1) rfl (Nat.le_of_ble_eq_true rfl) ?_
        refine ep_gt t113_75 ?_
        refine L_st_16 hN hw hl e5 e25 hpr h30 hs hsd hd hx d (k + 1) (by omega) (fun j hj => ?_)
        by_cases e : j = k
        · subst e
          intro hq
          have hq1 := hq.1.2
          rw [why_eq hk3] at hq1
          first
          | (rw [if_pos c21] at hq1; exact absurd hq1 (by decide))
          | (rw [if_neg (by rw [c21]; decide)] at hq1; exact absurd hq1 c33)
          | (obtain ⟨y2, g1, g2⟩ := hq.2; rw [hy] at g1; rw [hd] at g2; have g3 := Option.some.inj g1; have g4 := Option.some.inj g2; exact c67 (by omega))
        · exact h2 j (by omega)
      · have hok : lw T l s k := ⟨hk3, by rw [why_eq hk3, if_neg (by rw [c21]; decide)]; exact Classical.byContradiction c33⟩
        have hsk := xor_lt hs hk3
        have hpk := lw_p hw hpr s k hok
        have hkd := hw.2.2.2 k hk3
        obtain ⟨y, hy, -⟩ := dst_of (Co_step (lw_sy s k hsd hok) (by rw [xx]; exact (dst_some.mp hd).1))
        have hy2 := (dst_some.mp hy).le (lw_p hw hpr) lw_N hx8 hsk
        refine ep_aln t113_36 rfl ?_
        refine ep_getr (q := 30) t113_37 rfl (Nat.le_of_ble_eq_true rfl) rfl (rfl) ?_
        refine ep_iln t113_40 rfl ?_
        refine ep_k1 (w := nI 1) t113_41 rfl ?_
        refine ep_iln t113_42 rfl ?_
        refine ep_oneN (b := k) t113_43 (by have hy8 := why2_le T s k; omega) ?_
        refine ep_xorN (a := s) (b := 2 ^ k) t113_44 ?_
        refine ep_aldN t113_45 rfl (Nat.le_of_ble_eq_true rfl) (Nat.ne_of_beq_eq_false rfl) (Nat.le_of_ble_eq_true rfl) (by have hy8 := why2_le T s k; omega) ?_
        refine ep_val (b := nI y) ((h30 _ hsk).trans (by rw [dS_yes (lw_sd s k hok), hy]; rfl)) ?_
        refine ep_aln t113_46 rfl ?_
        refine ep_getr (q := 25) t113_47 rfl (Nat.le_of_ble_eq_true rfl) rfl (rfl) ?_
        refine ep_aln t113_50 rfl ?_
        refine ep_getr (q := 16) t113_51 rfl (Nat.le_of_ble_eq_true rfl) rfl (rfl) ?_
        refine ep_getr (q := 17) t113_54 rfl (Nat.le_of_ble_eq_true rfl) rfl (rfl) ?_
        refine ep_iln t113_57 rfl ?_
        refine ep_aldN t113_58 rfl (Nat.le_of_ble_eq_true rfl) (Nat.ne_of_beq_eq_false rfl) (Nat.le_of_ble_eq_true rfl) (by have hy8 := why2_le T s k; omega) ?_
        refine ep_val (b := nI (T (4 + k))) ((hN.2.1 k hk3).1) ?_
        refine ep_aldN t113_59 rfl (Nat.le_of_ble_eq_true rfl) (Nat.ne_of_beq_eq_false rfl) (Nat.le_of_ble_eq_true rfl) (by have hy8 := why2_le T s k; omega) ?_
        refine ep_val (b := nI (pcs T pr k)) (e25 _ (hw.2.2.2 k hk3)) ?_
        refine ep_addN (a := y) (b := pcs T pr k) t113_60 ?_
        refine ep_aln t113_61 rfl ?_
        refine ep_getr (q := 30) t113_62 rfl (Nat.le_of_ble_eq_true rfl) rfl (rfl) ?_
        refine ep_iln t113_65 rfl ?_
        refine ep_aldN t113_66 rfl (Nat.le_of_ble_eq_true rfl) (Nat.ne_of_beq_eq_false rfl) (Nat.le_of_ble_eq_true rfl) (by have hy8 := why2_le T s k; omega) ?_
        refine ep_val (b := nI x) ((h30 s hs).trans (by rw [dS_yes hsd, hd]; rfl)) ?_
        refine ep_ifP t113_67 (ic_ne (by have hy8 := why2_le T s k; omega) (by have hy8 := why2_le T s k; omega)) (fun (c67 : ¬ (y + (pcs T pr k)) = x) => ?_) (fun (c67 : ¬ (¬ (y + (pcs T pr k)) = x)) => ?_)
        · refine ep_inc (b := nI (k + 1)) (L' := [some (.ref 0), some (.int (nI s)), some (.int (nI (k + 1)))]) t113_72 rfl (nI_add k 1) rfl (Nat.le_of_ble_eq_true rfl) ?_
          refine ep_gt t113_75 ?_
          refine L_st_16 hN hw hl e5 e25 hpr h30 hs hsd hd hx d (k + 1) (by omega) (fun j hj => ?_)
          by_cases e : j = k
          · subst e
            intro hq
            have hq1 := hq.1.2
            rw [why_eq hk3] at hq1
            first
            | (rw [if_pos c21] at hq1; exact absurd hq1 (by decide))
            | (rw [if_neg (by rw [c21]; decide)] at hq1; exact absurd hq1 c33)
            | (obtain ⟨y2, g1, g2⟩ := hq.2; rw [hy] at g1; rw [hd] at g2; have g3 := Option.some.inj g1; have g4 := Option.some.inj g2; exact c67 (by omega))
          · exact h2 j (by omega)
        · refine ep_iln t113_70 rfl ?_
          refine ep_ri t113_71 (fun h => absurd h (by decide)) ?_
          have hS1 : St1 (lw T l) (pcs T pr) W s k := ⟨⟨hok, y, hy, by rw [hd, Classical.byContradiction c67]⟩, h2⟩
          exact ⟨k, rfl, rfl, hS1, hk3⟩
theorem cl_B_stepFrom_16 {X : gX} {σ : gT1} {T pr : Nat → Nat} {l : Nat} {W : Nat → Prop} {s x : Nat} (hN : NetC σ 16 T) (hw : WF0 T) (hl : l < 2 ^ T 3) (e5 : σ 0 5 = nI l) (e25 : ∀ i, i < 3 → σ 25 i = nI (pr i)) (hpr : ∀ i, i < 3 → 1 ≤ pr i ∧ pr i ≤ 9) (h30 : ∀ s, s < 2 ^ T 3 → σ 30 s = oI (dS (lw T l) (pcs T pr) W (sound T) s)) (hs : s < 2 ^ T 3) (hsd : sound T s) (hd : dst (lw T l) (pcs T pr) W s = some x) (hx : x ≠ 0)  : ClP X 113 [.ref 0, .int (nI s)] (47, g_rho true, σ) (fun v g1 => ∃ e, v = some (.int (nI e)) ∧ g1 = (47, g_rho true, σ) ∧ St1 (lw T l) (pcs T pr) W s e ∧ e < T 3) := by
  refine ClP.of ⟨Nat.le_of_ble_eq_true rfl, rfl⟩ ?_
  show EvP X 113 0 [some (.ref 0), some (.int (nI s)), none] [] (47, g_rho true, σ) _
  refine ep_k1 (w := nI 0) t113_0 rfl ?_
  refine ep_isn (L' := [some (.ref 0), some (.int (nI s)), some (.int (nI 0))]) t113_1 rfl (Nat.le_of_ble_eq_true rfl) ?_
  exact L_st_16 hN hw hl e5 e25 hpr h30 hs hsd hd hx (T 3) 0 (by omega) (fun j hj => absurd hj (Nat.not_lt_zero j))

theorem L_ch_16 {X : gX} {σ : gT1} {T pr : Nat → Nat} {l : Nat} {W : Nat → Prop} {c k : Nat} (hN : NetC σ 16 T) (hw : WF0 T) (hl : l < 2 ^ T 3) (e5 : σ 0 5 = nI l) (e25 : ∀ i, i < 3 → σ 25 i = nI (pr i)) (hpr : ∀ i, i < 3 → 1 ≤ pr i ∧ pr i ≤ 9) (h30 : ∀ s, s < 2 ^ T 3 → σ 30 s = oI (dS (lw T l) (pcs T pr) W (sound T) s)) (hk : k < 2147483648) : ∀ (d i x : Nat) (o2 o5 : Option Value), i + d = 256 → i ≤ k → TI T pr l W c i x → EvP X 114 32 [some (.ref 0), some (.int (nI k)), o2, some (.int (nI (trk (lw T l) (pcs T pr) W c i))), some (.int (nI i)), o5] [] (47, g_rho true, σ) (fun v g1 => v = some (.int (ansK (lw T l) (pcs T pr) W c k)) ∧ g1 = (47, g_rho true, σ))
  | 0, i, x, o2, o5, hd, hi, ht => by
    have := ht.lt hw
    omega
  | d + 1, i, x, o2, o5, hd, hi, ht => by
    have h38 := hw.2.1
    have hx2 := ht.2.1.le (lw_p hw hpr) lw_N (pow_le_256 h38) ht.1.1
    have hx8 := pow_le_256 h38
    have ht1 := ht.1.1
    refine ep_il t114_32 rfl ?_
    refine ep_k3 (w := nI 256) t114_34 rfl ?_
    refine ep_ifP t114_37 (ic_ge (by omega) (by omega)) (fun (c37 : 256 ≤ i) => (by omega)) (fun (c37 : ¬ (256 ≤ i)) => ?_)
    refine ep_il t114_40 rfl ?_
    refine ep_iln t114_42 rfl ?_
    refine ep_ifP t114_43 (ic_gt (by omega) (by omega)) (fun (c43 : k < i) => (by omega)) (fun (c43 : ¬ (k < i)) => ?_)
    refine ep_aln t114_46 rfl ?_
    refine ep_getr (q := 30) t114_47 rfl (Nat.le_of_ble_eq_true rfl) rfl (rfl) ?_
    refine ep_iln t114_50 rfl ?_
    refine ep_aldN t114_51 rfl (Nat.le_of_ble_eq_true rfl) (Nat.ne_of_beq_eq_false rfl) (Nat.le_of_ble_eq_true rfl) (by omega) ?_
    refine ep_val (b := nI x) ((h30 _ ht.1.1).trans (by rw [dS_yes ht.1.2, dst_some.mpr ht.2.1]; rfl)) ?_
    refine ep_if0P t114_52 (ic0_le (by omega)) (fun (c52 : x ≤ 0) => ?_) (fun (c52 : ¬ (x ≤ 0)) => ?_)
    · refine ep_k2 (w := (-9)) t114_94 rfl ?_
      refine ep_ri t114_96 (fun h => absurd h (by decide)) ?_
      rw [ht.ansZ (by omega) hi]
      exact ⟨rfl, rfl⟩
    · refine ep_aln t114_55 rfl ?_
      refine ep_iln t114_56 rfl ?_
      have hx0 : x ≠ 0 := by omega
      obtain ⟨v9, g9, hm9, e, rfl, rfl, hS1, he3⟩ := cl_B_stepFrom_16 (X := X) hN hw hl e5 e25 hpr h30 ht.1.1 ht.1.2 (dst_some.mpr ht.2.1) hx0
      obtain ⟨y, hty⟩ := ht.up hw hpr hx0 hS1
      have hen := hS1.isN
      refine ep_cv t114_57 rfl rfl (Nat.le_of_ble_eq_true rfl) (Nat.le_of_ble_eq_true rfl) (hm9) ?_
      refine ep_is (L' := [some (.ref 0), some (.int (nI k)), o2, some (.int (nI (trk (lw T l) (pcs T pr) W c i))), some (.int (nI i)), some (.int (nI e))]) t114_60 rfl (Nat.le_of_ble_eq_true rfl) ?_
      refine ep_il t114_62 rfl ?_
      refine ep_k2 (w := (-9)) t114_64 rfl ?_
      refine ep_if t114_66 (fun (c66 : ¬ (nI e) = ((-9))) => ?_) (fun (c66 : ¬ (¬ (nI e) = ((-9)))) => (by exact absurd (Classical.byContradiction c66) (nI_m9 (by omega))))
      refine ep_il t114_72 rfl ?_
      refine ep_iln t114_74 rfl ?_
      refine ep_ifP t114_75 (ic_ne (by omega) (by omega)) (fun (c75 : ¬ i = k) => ?_) (fun (c75 : ¬ (¬ i = k)) => ?_)
      · refine ep_iln t114_81 rfl ?_
        refine ep_k1 (w := nI 1) t114_82 rfl ?_
        refine ep_il t114_83 rfl ?_
        refine ep_oneN (b := e) t114_85 (by omega) ?_
        refine ep_xorN (a := trk (lw T l) (pcs T pr) W c i) (b := 2 ^ e) t114_86 ?_
        refine ep_isn (L' := [some (.ref 0), some (.int (nI k)), o2, some (.int (nI ((trk (lw T l) (pcs T pr) W c i) ^^^ (2 ^ e)))), some (.int (nI i)), some (.int (nI e))]) t114_87 rfl (Nat.le_of_ble_eq_true rfl) ?_
        refine ep_inc (b := nI (i + 1)) (L' := [some (.ref 0), some (.int (nI k)), o2, some (.int (nI ((trk (lw T l) (pcs T pr) W c i) ^^^ (2 ^ e)))), some (.int (nI (i + 1))), some (.int (nI e))]) t114_88 rfl (nI_add i 1) rfl (Nat.le_of_ble_eq_true rfl) ?_
        refine ep_gt t114_91 ?_
        rw [hen]
        exact L_ch_16 hN hw hl e5 e25 hpr h30 hk d (i + 1) y _ _ (by omega) (by omega) hty
      · refine ep_il t114_78 rfl ?_
        refine ep_ri t114_80 (fun h => absurd h (by decide)) ?_
        have hik : i = k := Classical.byContradiction c75
        rw [hen, ← hik, ht.ansS hx0]
        exact ⟨rfl, rfl⟩
theorem cl_B_cheap_m_16 {X : gX} {σ : gT1} {T pr : Nat → Nat} {l : Nat} {W : Nat → Prop} {c : Nat} (hN : NetC σ 16 T) (hw : WF0 T) (hl : l < 2 ^ T 3) (e5 : σ 0 5 = nI l) (e25 : ∀ i, i < 3 → σ 25 i = nI (pr i)) (hpr : ∀ i, i < 3 → 1 ≤ pr i ∧ pr i ≤ 9) (h30 : ∀ s, s < 2 ^ T 3 → σ 30 s = oI (dS (lw T l) (pcs T pr) W (sound T) s)) (hc : c < 2 ^ T 3) (hsc : sound T c) (e4 : σ 0 4 = nI c) : Cl X 114 [.ref 0, .int ((-1))] (47, g_rho true, σ) (some (.int (a0 (dst (lw T l) (pcs T pr) W c)))) (47, g_rho true, σ) := by
  refine Cl.of ⟨Nat.le_of_ble_eq_true rfl, rfl⟩ ?_
  show EvP X 114 0 [some (.ref 0), some (.int ((-1))), none, none, none, none] [] (47, g_rho true, σ) _
  cases hd : dst (lw T l) (pcs T pr) W c with
  | none =>
    refine ep_aln t114_0 rfl ?_
    refine ep_getr (q := 30) t114_1 rfl (Nat.le_of_ble_eq_true rfl) rfl (rfl) ?_
    refine ep_aln t114_4 rfl ?_
    refine ep_get t114_5 rfl (Nat.le_of_ble_eq_true rfl) rfl ?_
    refine ep_val (b := nI c) (e4) ?_
    refine ep_aldN t114_8 rfl (Nat.le_of_ble_eq_true rfl) (Nat.ne_of_beq_eq_false rfl) (Nat.le_of_ble_eq_true rfl) (by have := pow_le_256 hw.2.1; omega) ?_
    refine ep_val (b := (-1 : Int32)) ((h30 c hc).trans (by rw [dS_yes hsc, hd]; rfl)) ?_
    refine ep_isn (L' := [some (.ref 0), some (.int ((-1))), some (.int ((-1 : Int32))), none, none, none]) t114_9 rfl (Nat.le_of_ble_eq_true rfl) ?_
    refine ep_iln t114_10 rfl ?_
    refine ep_k1 (w := (-1)) t114_11 rfl ?_
    refine ep_if t114_12 (fun (c12 : ¬ ((-1 : Int32)) = ((-1))) => (by exact absurd rfl c12)) (fun (c12 : ¬ (¬ ((-1 : Int32)) = ((-1)))) => ?_)
    refine ep_k2 (w := (-9)) t114_15 rfl ?_
    refine ep_ri t114_17 (fun h => absurd h (by decide)) ?_
    exact ⟨rfl, rfl⟩
  | some n =>
    have hx2 := (dst_some.mp hd).le (lw_p hw hpr) lw_N (pow_le_256 hw.2.1) hc
    refine ep_aln t114_0 rfl ?_
    refine ep_getr (q := 30) t114_1 rfl (Nat.le_of_ble_eq_true rfl) rfl (rfl) ?_
    refine ep_aln t114_4 rfl ?_
    refine ep_get t114_5 rfl (Nat.le_of_ble_eq_true rfl) rfl ?_
    refine ep_val (b := nI c) (e4) ?_
    refine ep_aldN t114_8 rfl (Nat.le_of_ble_eq_true rfl) (Nat.ne_of_beq_eq_false rfl) (Nat.le_of_ble_eq_true rfl) (by have := pow_le_256 hw.2.1; omega) ?_
    refine ep_val (b := nI n) ((h30 c hc).trans (by rw [dS_yes hsc, hd]; rfl)) ?_
    refine ep_isn (L' := [some (.ref 0), some (.int ((-1))), some (.int (nI n)), none, none, none]) t114_9 rfl (Nat.le_of_ble_eq_true rfl) ?_
    refine ep_iln t114_10 rfl ?_
    refine ep_k1 (w := (-1)) t114_11 rfl ?_
    refine ep_if t114_12 (fun (c12 : ¬ (nI n) = ((-1))) => ?_) (fun (c12 : ¬ (¬ (nI n) = ((-1)))) => (by exact absurd (Classical.byContradiction c12) (nI_m1 (by omega))))
    refine ep_iln t114_18 rfl ?_
    refine ep_if0 t114_19 (fun (c19 : 0 ≤ ((-1))) => (by exact absurd c19 (by decide))) (fun (c19 : ¬ (0 ≤ ((-1)))) => ?_)
    refine ep_iln t114_22 rfl ?_
    refine ep_ri t114_23 (fun h => absurd h (by decide)) ?_
    exact ⟨rfl, rfl⟩
theorem cl_B_cheap_n_16 {X : gX} {σ : gT1} {T pr : Nat → Nat} {l : Nat} {W : Nat → Prop} {c : Nat} {k : Nat} (hN : NetC σ 16 T) (hw : WF0 T) (hl : l < 2 ^ T 3) (e5 : σ 0 5 = nI l) (e25 : ∀ i, i < 3 → σ 25 i = nI (pr i)) (hpr : ∀ i, i < 3 → 1 ≤ pr i ∧ pr i ≤ 9) (h30 : ∀ s, s < 2 ^ T 3 → σ 30 s = oI (dS (lw T l) (pcs T pr) W (sound T) s)) (hc : c < 2 ^ T 3) (hsc : sound T c) (e4 : σ 0 4 = nI c) (hk : k < 2147483648) : Cl X 114 [.ref 0, .int (nI k)] (47, g_rho true, σ) (some (.int (a1 (dst (lw T l) (pcs T pr) W c) (ansK (lw T l) (pcs T pr) W c k)))) (47, g_rho true, σ) := by
  refine Cl.of ⟨Nat.le_of_ble_eq_true rfl, rfl⟩ ?_
  show EvP X 114 0 [some (.ref 0), some (.int (nI k)), none, none, none, none] [] (47, g_rho true, σ) _
  cases hd : dst (lw T l) (pcs T pr) W c with
  | none =>
    refine ep_aln t114_0 rfl ?_
    refine ep_getr (q := 30) t114_1 rfl (Nat.le_of_ble_eq_true rfl) rfl (rfl) ?_
    refine ep_aln t114_4 rfl ?_
    refine ep_get t114_5 rfl (Nat.le_of_ble_eq_true rfl) rfl ?_
    refine ep_val (b := nI c) (e4) ?_
    refine ep_aldN t114_8 rfl (Nat.le_of_ble_eq_true rfl) (Nat.ne_of_beq_eq_false rfl) (Nat.le_of_ble_eq_true rfl) (by have := pow_le_256 hw.2.1; omega) ?_
    refine ep_val (b := (-1 : Int32)) ((h30 c hc).trans (by rw [dS_yes hsc, hd]; rfl)) ?_
    refine ep_isn (L' := [some (.ref 0), some (.int (nI k)), some (.int ((-1 : Int32))), none, none, none]) t114_9 rfl (Nat.le_of_ble_eq_true rfl) ?_
    refine ep_iln t114_10 rfl ?_
    refine ep_k1 (w := (-1)) t114_11 rfl ?_
    refine ep_if t114_12 (fun (c12 : ¬ ((-1 : Int32)) = ((-1))) => (by exact absurd rfl c12)) (fun (c12 : ¬ (¬ ((-1 : Int32)) = ((-1)))) => ?_)
    refine ep_k2 (w := (-9)) t114_15 rfl ?_
    refine ep_ri t114_17 (fun h => absurd h (by decide)) ?_
    exact ⟨rfl, rfl⟩
  | some n =>
    have hx2 := (dst_some.mp hd).le (lw_p hw hpr) lw_N (pow_le_256 hw.2.1) hc
    refine ep_aln t114_0 rfl ?_
    refine ep_getr (q := 30) t114_1 rfl (Nat.le_of_ble_eq_true rfl) rfl (rfl) ?_
    refine ep_aln t114_4 rfl ?_
    refine ep_get t114_5 rfl (Nat.le_of_ble_eq_true rfl) rfl ?_
    refine ep_val (b := nI c) (e4) ?_
    refine ep_aldN t114_8 rfl (Nat.le_of_ble_eq_true rfl) (Nat.ne_of_beq_eq_false rfl) (Nat.le_of_ble_eq_true rfl) (by have := pow_le_256 hw.2.1; omega) ?_
    refine ep_val (b := nI n) ((h30 c hc).trans (by rw [dS_yes hsc, hd]; rfl)) ?_
    refine ep_isn (L' := [some (.ref 0), some (.int (nI k)), some (.int (nI n)), none, none, none]) t114_9 rfl (Nat.le_of_ble_eq_true rfl) ?_
    refine ep_iln t114_10 rfl ?_
    refine ep_k1 (w := (-1)) t114_11 rfl ?_
    refine ep_if t114_12 (fun (c12 : ¬ (nI n) = ((-1))) => ?_) (fun (c12 : ¬ (¬ (nI n) = ((-1)))) => (by exact absurd (Classical.byContradiction c12) (nI_m1 (by omega))))
    refine ep_iln t114_18 rfl ?_
    refine ep_if0P t114_19 (ic0_ge (by have := pow_le_256 hw.2.1; omega)) (fun (c19 : 0 ≤ k) => ?_) (fun (c19 : ¬ (0 ≤ k)) => (by omega))
    refine ep_aln t114_24 rfl ?_
    refine ep_get t114_25 rfl (Nat.le_of_ble_eq_true rfl) rfl ?_
    refine ep_val (b := nI c) (e4) ?_
    refine ep_isn (L' := [some (.ref 0), some (.int (nI k)), some (.int (nI n)), some (.int (nI c)), none, none]) t114_28 rfl (Nat.le_of_ble_eq_true rfl) ?_
    refine ep_k1 (w := nI 0) t114_29 rfl ?_
    refine ep_is (L' := [some (.ref 0), some (.int (nI k)), some (.int (nI n)), some (.int (nI c)), some (.int (nI 0)), none]) t114_30 rfl (Nat.le_of_ble_eq_true rfl) ?_
    exact L_ch_16 hN hw hl e5 e25 hpr h30 hk 256 0 n _ _ (by omega) (by omega) (TI.z hc hsc hd)
