/-! The model tells the cheapest row; pairs plan, work, supply. -/
theorem fI_le {T pr : Nat → Nat} {l t : Nat} {W : Nat → Prop} (hw : WF0 T) (hpr : ∀ i, i < 3 → 1 ≤ pr i ∧ pr i ≤ 9) (ht : t < 2 ^ T 3) : fI (dst (lw T l) (pcs T pr) W t) ≤ 99999 := by
  cases h : dst (lw T l) (pcs T pr) W t with
  | none => exact Nat.le_refl _
  | some n =>
    have := (dst_some.mp h).le (lw_p hw hpr) lw_N (pow_le_256 hw.2.1) ht
    show n ≤ 99999
    omega
theorem sub_of {b : Int32} {s n : Nat} (hn : n ≤ 30) (hs : s < 2 ^ n) (h : b &&& (nI s ^^^ (-1)) = 0) : ∃ w, w < 2 ^ n ∧ b = nI w ∧ andN w s = 0 := by
  have hb : b = nI b.toBitVec.toNat := by
    apply Int32.toBitVec_inj.mp
    show b.toBitVec = BitVec.ofNat 32 b.toBitVec.toNat
    rw [BitVec.ofNat_toNat, BitVec.setWidth_eq]
  have h2 := h
  rw [hb, and_notG] at h2
  have hl : andN b.toBitVec.toNat s < 2 ^ 32 := andN_le _ _ b.toBitVec.isLt
  have h3 : andN b.toBitVec.toNat s = 0 := by
    have := congrArg (fun x : Int32 => x.toBitVec.toNat) h2
    change (BitVec.ofNat 32 (andN b.toBitVec.toNat s)).toNat = 0 at this
    rw [BitVec.toNat_ofNat, Nat.mod_eq_of_lt hl] at this
    exact this
  refine ⟨b.toBitVec.toNat, lt_of_bits (fun i hi => ?_), hb, h3⟩
  have h4 : (andN b.toBitVec.toNat s).testBit i = false := by rw [h3]; exact Nat.zero_testBit i
  rw [andN_bit, hi, Bool.true_and] at h4
  cases h5 : s.testBit i with
  | false => rw [h5] at h4; exact absurd h4 (by decide)
  | true => exact lt_bit hs h5
theorem andN_all {s n : Nat} (h : s < 2 ^ n) : andN s (2 ^ n - 1) = 0 := by
  apply Nat.eq_of_testBit_eq
  intro i
  rw [andN_bit, Nat.testBit_two_pow_sub_one, Nat.zero_testBit]
  cases hb : s.testBit i with
  | false => rfl
  | true => rw [decide_eq_true (lt_bit h hb)]; rfl
theorem inB_pred {a : Int32} {n : Nat} (h : 0 < n) : inB a 0 (n - 1) = inR a n := by
  unfold inB inR
  congr 1
  apply propext
  omega
theorem m1_le {k : Nat} (h : k < 2147483648) : (-1 : Int32) ≤ nI k := by
  rw [Int32.le_iff_toInt_le, nI_toInt h]
  have h2 : (-1 : Int32).toInt = -1 := by decide
  omega
theorem and_pow {x u : Nat} : x &&& 2 ^ u = 2 ^ u ↔ x.testBit u = true := by
  constructor
  · intro h
    have := congrArg (fun a => Nat.testBit a u) h
    simp only [Nat.testBit_and, Nat.testBit_two_pow_self, Bool.and_true] at this
    exact this
  · intro h
    apply Nat.eq_of_testBit_eq
    intro i
    rw [Nat.testBit_and, Nat.testBit_two_pow]
    by_cases e : u = i
    · subst e; simp [h]
    · simp [e]
theorem andN_sub {x y : Nat} : andN x y = 0 ↔ y &&& x = x := by
  constructor
  · intro h
    apply Nat.eq_of_testBit_eq
    intro i
    have := congrArg (fun a => Nat.testBit a i) h
    simp only [andN_bit, Nat.zero_testBit] at this
    rw [Nat.testBit_and]
    cases hx : x.testBit i <;> cases hy : y.testBit i <;> simp_all
  · intro h
    apply Nat.eq_of_testBit_eq
    intro i
    have := congrArg (fun a => Nat.testBit a i) h
    simp only [Nat.testBit_and] at this
    rw [andN_bit, Nat.zero_testBit]
    cases hx : x.testBit i <;> cases hy : y.testBit i <;> simp_all
theorem L_te2 {X : gX} {s x : Nat} {o1 o3 o4 : Option Value} {P : Option Value → gS → Prop} {q : Bool} {σ : gT1} {T pr : Nat → Nat} {l : Nat} {W : Nat → Prop} (hT : ToldM (σ 33) T) (hw : WF0 T) (ep2 : ∀ i, i < 3 → σ 36 (2 + i) = nI (pr i)) (hpr : ∀ i, i < 3 → 1 ≤ pr i ∧ pr i ≤ 9) (h44 : ∀ s, s < 2 ^ T 3 → σ 44 s = nI (fI (dst (lw T l) (pcs T pr) W s))) (hla : LAWS σ T l) (hs : s < 2 ^ T 3) (hd : dst (lw T l) (pcs T pr) W s = some x) (hx : x ≠ 0) (K : ∀ e, St1 (lw T l) (pcs T pr) W s e → e < T 3 → EvP X 117 104 [some (.ref 31), o1, some (.int (nI s)), o3, o4, some (.int (nI e))] [] (47, g_rho q, σ) P) : ∀ (d e : Nat), e + d = T 3 → (∀ j, j < e → ¬ Sq (lw T l) (pcs T pr) W s j) → EvP X 117 56 [some (.ref 31), o1, some (.int (nI s)), o3, o4, some (.int (nI e))] [] (47, g_rho q, σ) P
  | 0, e, hk, h2 => by
    obtain ⟨e2, he⟩ := St1.ex hd hx
    exact absurd he (h2 e2 (by have := he.1.1; omega))
  | d + 1, e, hk, h2 => by
    have he3 : e < T 3 := by omega
    have h38 := hw.2.1
    have hx8 := pow_le_256 h38
    have hse := xor_lt hs he3
    have hx2 := (dst_some.mp hd).le (lw_p hw hpr) lw_N hx8 hs
    have hf := fI_le (l := l) (W := W) hw hpr hse
    have hpk : 1 ≤ pcs T pr e ∧ pcs T pr e ≤ 9 := hpr _ (hw.2.2.2 e he3)
    refine ep_aln t117_56 rfl ?_
    refine ep_getr (q := 46) t117_57 rfl (Nat.le_of_ble_eq_true rfl) rfl (rfl) ?_
    refine ep_k2 (w := nI 8) t117_60 rfl ?_
    refine ep_iln t117_62 rfl ?_
    refine ep_mulN (a := 8) (b := s) t117_63 ?_
    refine ep_il t117_64 rfl ?_
    refine ep_addN (a := 8 * s) (b := e) t117_66 ?_
    refine ep_bldN t117_67 rfl (Nat.le_of_ble_eq_true rfl) (Nat.ne_of_beq_eq_false rfl) (Nat.le_of_ble_eq_true rfl) (by omega) ?_
    refine ep_val (b := bI (decide (why T l s e = 0))) (hla s e hs he3) ?_
    refine ep_bF t117_68 (fun (c68 : (decide (why T l s e = 0)) = false) => ?_) (fun (c68 : (decide (why T l s e = 0)) = true) => ?_)
    · refine ep_inc (b := nI (e + 1)) (L' := [some (.ref 31), o1, some (.int (nI s)), o3, o4, some (.int (nI (e + 1)))]) t117_98 rfl (nI_add e 1) rfl (Nat.le_of_ble_eq_true rfl) ?_
      refine ep_gt t117_101 ?_
      refine L_te2 hT hw ep2 hpr h44 hla hs hd hx K d (e + 1) (by omega) (fun j hj => ?_)
      by_cases g : j = e
      · subst g
        rintro ⟨hq1, y, hq2, hq3⟩
        first
        | exact absurd hq1.2 (of_decide_eq_false c68)
        | (rw [hd] at hq3; have hq4 := Option.some.inj hq3; apply c95; rw [hq2, hq4]; rfl)
      · exact h2 j (by omega)
    · refine ep_aln t117_71 rfl ?_
      refine ep_getr (q := 44) t117_72 rfl (Nat.le_of_ble_eq_true rfl) rfl (rfl) ?_
      refine ep_iln t117_75 rfl ?_
      refine ep_k1 (w := nI 1) t117_76 rfl ?_
      refine ep_il t117_77 rfl ?_
      refine ep_oneN (b := e) t117_79 (by omega) ?_
      refine ep_xorN (a := s) (b := 2 ^ e) t117_80 ?_
      refine ep_aldN t117_81 rfl (Nat.le_of_ble_eq_true rfl) (Nat.ne_of_beq_eq_false rfl) (Nat.le_of_ble_eq_true rfl) (by omega) ?_
      refine ep_val (b := nI (fI (dst (lw T l) (pcs T pr) W (s ^^^ 2 ^ e)))) (h44 _ hse) ?_
      refine ep_aln t117_82 rfl ?_
      refine ep_il t117_83 rfl ?_
      refine ep_cv t117_85 rfl rfl (Nat.le_of_ble_eq_true rfl) (Nat.le_of_ble_eq_true rfl) (cl_M_priceOf (T := T) (pr := pr) hT hw ep2 he3) ?_
      refine ep_addN (a := fI (dst (lw T l) (pcs T pr) W (s ^^^ 2 ^ e))) (b := pcs T pr e) t117_88 ?_
      refine ep_aln t117_89 rfl ?_
      refine ep_getr (q := 44) t117_90 rfl (Nat.le_of_ble_eq_true rfl) rfl (rfl) ?_
      refine ep_iln t117_93 rfl ?_
      refine ep_aldN t117_94 rfl (Nat.le_of_ble_eq_true rfl) (Nat.ne_of_beq_eq_false rfl) (Nat.le_of_ble_eq_true rfl) (by omega) ?_
      refine ep_val (b := nI x) ((h44 s hs).trans (by rw [hd]; rfl)) ?_
      refine ep_ifP t117_95 (ic_eq (by omega) (by omega)) (fun (c95 : ((fI (dst (lw T l) (pcs T pr) W (s ^^^ 2 ^ e))) + (pcs T pr e)) = x) => ?_) (fun (c95 : ¬ (((fI (dst (lw T l) (pcs T pr) W (s ^^^ 2 ^ e))) + (pcs T pr e)) = x)) => ?_)
      · have hok : lw T l s e := ⟨he3, of_decide_eq_true c68⟩
        refine K e ⟨⟨hok, ?_⟩, h2⟩ he3
        cases hq : dst (lw T l) (pcs T pr) W (s ^^^ 2 ^ e) with
        | none =>
          rw [hq] at c95
          have h9 : fI none = 99999 := rfl
          omega
        | some y =>
          rw [hq] at c95
          refine ⟨y, rfl, ?_⟩
          rw [hd, ← c95]
          rfl
      · refine ep_inc (b := nI (e + 1)) (L' := [some (.ref 31), o1, some (.int (nI s)), o3, o4, some (.int (nI (e + 1)))]) t117_98 rfl (nI_add e 1) rfl (Nat.le_of_ble_eq_true rfl) ?_
        refine ep_gt t117_101 ?_
        refine L_te2 hT hw ep2 hpr h44 hla hs hd hx K d (e + 1) (by omega) (fun j hj => ?_)
        by_cases g : j = e
        · subst g
          rintro ⟨hq1, y, hq2, hq3⟩
          first
          | exact absurd hq1.2 (of_decide_eq_false c68)
          | (rw [hd] at hq3; have hq4 := Option.some.inj hq3; apply c95; rw [hq2, hq4]; rfl)
        · exact h2 j (by omega)
theorem L_te1 {X : gX} {c k : Nat} {q : Bool} {σ : gT1} {T pr : Nat → Nat} {l : Nat} {W : Nat → Prop} (hT : ToldM (σ 33) T) (hw : WF0 T) (ep2 : ∀ i, i < 3 → σ 36 (2 + i) = nI (pr i)) (hpr : ∀ i, i < 3 → 1 ≤ pr i ∧ pr i ≤ 9) (h44 : ∀ s, s < 2 ^ T 3 → σ 44 s = nI (fI (dst (lw T l) (pcs T pr) W s))) (hla : LAWS σ T l) (hk : k < 2147483648) : ∀ (d n x : Nat) (lv : Int32) (o5 : Option Value), n + d = 256 → n ≤ k + 1 → (n = k + 1 → lv = ansK (lw T l) (pcs T pr) W c k) → TI T pr l W c n x → EvP X 117 35 [some (.ref 31), some (.int (nI k)), some (.int (nI (trk (lw T l) (pcs T pr) W c n))), some (.int lv), some (.int (nI n)), o5] [] (47, g_rho q, σ) (fun v g1 => v = some (.int (ansK (lw T l) (pcs T pr) W c k)) ∧ g1 = (47, g_rho q, σ))
  | 0, n, x, lv, o5, hd, hn, hlv, ht => by
    have := ht.lt hw
    omega
  | d + 1, n, x, lv, o5, hd, hn, hlv, ht => by
    have h38 := hw.2.1
    have hx8 := pow_le_256 h38
    have hx2 := ht.2.1.le (lw_p hw hpr) lw_N hx8 ht.1.1
    have ht1 := ht.1.1
    refine ep_il t117_35 rfl ?_
    refine ep_iln t117_37 rfl ?_
    refine ep_ifP t117_38 (ic_gt (by omega) (by omega)) (fun (c38 : k < n) => ?_) (fun (c38 : ¬ (k < n)) => ?_)
    · refine ep_iln t117_120 rfl ?_
      refine ep_ri t117_121 (fun h => absurd h (by decide)) ?_
      rw [hlv (by omega)]
      exact ⟨rfl, rfl⟩
    · refine ep_aln t117_41 rfl ?_
      refine ep_getr (q := 44) t117_42 rfl (Nat.le_of_ble_eq_true rfl) rfl (rfl) ?_
      refine ep_iln t117_45 rfl ?_
      refine ep_aldN t117_46 rfl (Nat.le_of_ble_eq_true rfl) (Nat.ne_of_beq_eq_false rfl) (Nat.le_of_ble_eq_true rfl) (by omega) ?_
      refine ep_val (b := nI x) ((h44 _ ht.1.1).trans (by rw [dst_some.mpr ht.2.1]; rfl)) ?_
      refine ep_if0P t117_47 (ic0_ne (by omega)) (fun (c47 : ¬ x = 0) => ?_) (fun (c47 : ¬ (¬ x = 0)) => ?_)
      · refine ep_k1 (w := nI 0) t117_53 rfl ?_
        refine ep_is (L' := [some (.ref 31), some (.int (nI k)), some (.int (nI (trk (lw T l) (pcs T pr) W c n))), some (.int lv), some (.int (nI n)), some (.int (nI 0))]) t117_54 rfl (Nat.le_of_ble_eq_true rfl) ?_
        refine L_te2 hT hw ep2 hpr h44 hla ht.1.1 (dst_some.mpr ht.2.1) c47 (fun e hS1 he3 => ?_) (T 3) 0 (by omega) (fun j hj => absurd hj (Nat.not_lt_zero j))
        obtain ⟨y, hty⟩ := ht.up hw hpr c47 hS1
        have hen := hS1.isN
        refine ep_iln t117_104 rfl ?_
        refine ep_k1 (w := nI 1) t117_105 rfl ?_
        refine ep_il t117_106 rfl ?_
        refine ep_oneN (b := e) t117_108 (by omega) ?_
        refine ep_xorN (a := trk (lw T l) (pcs T pr) W c n) (b := 2 ^ e) t117_109 ?_
        refine ep_isn (L' := [some (.ref 31), some (.int (nI k)), some (.int (nI ((trk (lw T l) (pcs T pr) W c n) ^^^ (2 ^ e)))), some (.int lv), some (.int (nI n)), some (.int (nI e))]) t117_110 rfl (Nat.le_of_ble_eq_true rfl) ?_
        refine ep_il t117_111 rfl ?_
        refine ep_isn (L' := [some (.ref 31), some (.int (nI k)), some (.int (nI ((trk (lw T l) (pcs T pr) W c n) ^^^ (2 ^ e)))), some (.int (nI e)), some (.int (nI n)), some (.int (nI e))]) t117_113 rfl (Nat.le_of_ble_eq_true rfl) ?_
        refine ep_inc (b := nI (n + 1)) (L' := [some (.ref 31), some (.int (nI k)), some (.int (nI ((trk (lw T l) (pcs T pr) W c n) ^^^ (2 ^ e)))), some (.int (nI e)), some (.int (nI (n + 1))), some (.int (nI e))]) t117_114 rfl (nI_add n 1) rfl (Nat.le_of_ble_eq_true rfl) ?_
        refine ep_gt t117_117 ?_
        subst hen
        exact L_te1 hT hw ep2 hpr h44 hla hk d (n + 1) y (nI (nxt (lw T l) (pcs T pr) W (trk (lw T l) (pcs T pr) W c n))) _ (by omega) (by omega) (fun h9 => by rw [← ht.ansS c47, show k = n by omega]) hty
      · refine ep_k2 (w := (-9)) t117_50 rfl ?_
        refine ep_ri t117_52 (fun h => absurd h (by decide)) ?_
        rw [ht.ansZ (by omega) (by omega)]
        exact ⟨rfl, rfl⟩
theorem cl_M_tells_m {X : gX} {q : Bool} {σ : gT1} {T pr : Nat → Nat} {l c : Nat} {W : Nat → Prop} {wb : Nat → Bool} (hT : ToldM (σ 33) T) (hw : WF0 T) (h31 : T 1 < 2147483648) (h32 : T 2 < 2147483648) (e1 : σ 36 1 = nI l) (hl : l < 2147483648) (ep2 : ∀ i, i < 3 → σ 36 (2 + i) = nI (pr i)) (hpr : ∀ i, i < 3 → 1 ≤ pr i ∧ pr i ≤ 9) (h45 : ∀ s, s < 2 ^ T 3 → σ 45 s = bI (wb s)) (hwb : ∀ s, s < 2 ^ T 3 → (wb s = true ↔ W s)) (hc : c < 2 ^ T 3) (hsc : sound T c) (e0 : σ 36 0 = nI c)  : ClP X 117 [.ref 31, .int ((-1))] (47, g_rho q, σ) (fun v g1 => ∃ σ', v = some (.int (a0 (dst (lw T l) (pcs T pr) W c))) ∧ g1 = (47, g_rho q, σ') ∧ ∀ r, r ≠ 43 → r ≠ 44 → r ≠ 46 → σ' r = σ r) := by
  refine ClP.of ⟨Nat.le_of_ble_eq_true rfl, rfl⟩ ?_
  show EvP X 117 0 [some (.ref 31), some (.int ((-1))), none, none, none, none] [] (47, g_rho q, σ) _
  obtain ⟨v9, g9, hm9, rfl, σ2, rfl, b1, b2, b3⟩ := cl_M_reckons (X := X) (q := q) (σ := σ) (T := T) (pr := pr) (l := l) (W := W) (wb := wb) hT hw h31 h32 e1 hl ep2 hpr h45 hwb
  have hT2 : ToldM (σ2 33) T := by rw [b1 33 (by decide) (by decide) (by decide)]; exact hT
  have ep3 : ∀ i, i < 3 → σ2 36 (2 + i) = nI (pr i) := fun i hi => (congrFun (b1 36 (by decide) (by decide) (by decide)) _).trans (ep2 i hi)
  have hx8 := pow_le_256 hw.2.1
  cases hd : dst (lw T l) (pcs T pr) W c with
  | none =>
    refine ep_aln t117_0 rfl ?_
    refine ep_cv t117_1 rfl rfl (Nat.le_of_ble_eq_true rfl) (Nat.le_of_ble_eq_true rfl) (hm9) ?_
    refine ep_aln t117_4 rfl ?_
    refine ep_getr (q := 36) t117_5 rfl (Nat.le_of_ble_eq_true rfl) rfl (rfl) ?_
    refine ep_k1 (w := nI 0) t117_8 rfl ?_
    refine ep_aldN t117_9 rfl (Nat.le_of_ble_eq_true rfl) (Nat.ne_of_beq_eq_false rfl) (Nat.le_of_ble_eq_true rfl) (by omega) ?_
    refine ep_val (b := nI c) ((congrFun (b1 36 (by decide) (by decide) (by decide)) 0).trans e0) ?_
    refine ep_isn (L' := [some (.ref 31), some (.int ((-1))), some (.int (nI c)), none, none, none]) t117_10 rfl (Nat.le_of_ble_eq_true rfl) ?_
    refine ep_aln t117_11 rfl ?_
    refine ep_getr (q := 44) t117_12 rfl (Nat.le_of_ble_eq_true rfl) rfl (rfl) ?_
    refine ep_iln t117_15 rfl ?_
    refine ep_aldN t117_16 rfl (Nat.le_of_ble_eq_true rfl) (Nat.ne_of_beq_eq_false rfl) (Nat.le_of_ble_eq_true rfl) (by omega) ?_
    refine ep_val (b := nI 99999) ((b2 c hc).trans (by rw [hd]; rfl)) ?_
    refine ep_k4 (w := nI 99999) t117_17 rfl ?_
    refine ep_ifP t117_19 (ic_lt (by omega) (by omega)) (fun (c19 : 99999 < 99999) => (by omega)) (fun (c19 : ¬ (99999 < 99999)) => ?_)
    refine ep_k2 (w := (-9)) t117_22 rfl ?_
    refine ep_ri t117_24 (fun h => absurd h (by decide)) ?_
    exact ⟨σ2, rfl, rfl, b1⟩
  | some n =>
    have hx2 := (dst_some.mp hd).le (lw_p hw hpr) lw_N (pow_le_256 hw.2.1) hc
    refine ep_aln t117_0 rfl ?_
    refine ep_cv t117_1 rfl rfl (Nat.le_of_ble_eq_true rfl) (Nat.le_of_ble_eq_true rfl) (hm9) ?_
    refine ep_aln t117_4 rfl ?_
    refine ep_getr (q := 36) t117_5 rfl (Nat.le_of_ble_eq_true rfl) rfl (rfl) ?_
    refine ep_k1 (w := nI 0) t117_8 rfl ?_
    refine ep_aldN t117_9 rfl (Nat.le_of_ble_eq_true rfl) (Nat.ne_of_beq_eq_false rfl) (Nat.le_of_ble_eq_true rfl) (by omega) ?_
    refine ep_val (b := nI c) ((congrFun (b1 36 (by decide) (by decide) (by decide)) 0).trans e0) ?_
    refine ep_isn (L' := [some (.ref 31), some (.int ((-1))), some (.int (nI c)), none, none, none]) t117_10 rfl (Nat.le_of_ble_eq_true rfl) ?_
    refine ep_aln t117_11 rfl ?_
    refine ep_getr (q := 44) t117_12 rfl (Nat.le_of_ble_eq_true rfl) rfl (rfl) ?_
    refine ep_iln t117_15 rfl ?_
    refine ep_aldN t117_16 rfl (Nat.le_of_ble_eq_true rfl) (Nat.ne_of_beq_eq_false rfl) (Nat.le_of_ble_eq_true rfl) (by omega) ?_
    refine ep_val (b := nI n) ((b2 c hc).trans (by rw [hd]; rfl)) ?_
    refine ep_k4 (w := nI 99999) t117_17 rfl ?_
    refine ep_ifP t117_19 (ic_lt (by omega) (by omega)) (fun (c19 : n < 99999) => ?_) (fun (c19 : ¬ (n < 99999)) => (by omega))
    refine ep_aln t117_25 rfl ?_
    refine ep_getr (q := 44) t117_26 rfl (Nat.le_of_ble_eq_true rfl) rfl (rfl) ?_
    refine ep_iln t117_29 rfl ?_
    refine ep_aldN t117_30 rfl (Nat.le_of_ble_eq_true rfl) (Nat.ne_of_beq_eq_false rfl) (Nat.le_of_ble_eq_true rfl) (by omega) ?_
    refine ep_val (b := nI n) ((b2 c hc).trans (by rw [hd]; rfl)) ?_
    refine ep_isn (L' := [some (.ref 31), some (.int ((-1))), some (.int (nI c)), some (.int (nI n)), none, none]) t117_31 rfl (Nat.le_of_ble_eq_true rfl) ?_
    refine ep_k1 (w := nI 0) t117_32 rfl ?_
    refine ep_is (L' := [some (.ref 31), some (.int ((-1))), some (.int (nI c)), some (.int (nI n)), some (.int (nI 0)), none]) t117_33 rfl (Nat.le_of_ble_eq_true rfl) ?_
    refine ep_il t117_35 rfl ?_
    refine ep_iln t117_37 rfl ?_
    refine ep_if t117_38 (fun (c38 : ((-1)) < (nI 0)) => ?_) (fun (c38 : ¬ (((-1)) < (nI 0))) => (by exact absurd (by decide) c38))
    refine ep_iln t117_120 rfl ?_
    refine ep_ri t117_121 (fun h => absurd h (by decide)) ?_
    exact ⟨σ2, rfl, rfl, b1⟩

theorem cl_M_tells_n {X : gX} {q : Bool} {σ : gT1} {T pr : Nat → Nat} {l c k : Nat} {W : Nat → Prop} {wb : Nat → Bool} (hT : ToldM (σ 33) T) (hw : WF0 T) (h31 : T 1 < 2147483648) (h32 : T 2 < 2147483648) (e1 : σ 36 1 = nI l) (hl : l < 2147483648) (ep2 : ∀ i, i < 3 → σ 36 (2 + i) = nI (pr i)) (hpr : ∀ i, i < 3 → 1 ≤ pr i ∧ pr i ≤ 9) (h45 : ∀ s, s < 2 ^ T 3 → σ 45 s = bI (wb s)) (hwb : ∀ s, s < 2 ^ T 3 → (wb s = true ↔ W s)) (hc : c < 2 ^ T 3) (hsc : sound T c) (e0 : σ 36 0 = nI c) (hk : k < 2147483648)  : ClP X 117 [.ref 31, .int (nI k)] (47, g_rho q, σ) (fun v g1 => ∃ σ', v = some (.int (a1 (dst (lw T l) (pcs T pr) W c) (ansK (lw T l) (pcs T pr) W c k))) ∧ g1 = (47, g_rho q, σ') ∧ ∀ r, r ≠ 43 → r ≠ 44 → r ≠ 46 → σ' r = σ r) := by
  refine ClP.of ⟨Nat.le_of_ble_eq_true rfl, rfl⟩ ?_
  show EvP X 117 0 [some (.ref 31), some (.int (nI k)), none, none, none, none] [] (47, g_rho q, σ) _
  obtain ⟨v9, g9, hm9, rfl, σ2, rfl, b1, b2, b3⟩ := cl_M_reckons (X := X) (q := q) (σ := σ) (T := T) (pr := pr) (l := l) (W := W) (wb := wb) hT hw h31 h32 e1 hl ep2 hpr h45 hwb
  have hT2 : ToldM (σ2 33) T := by rw [b1 33 (by decide) (by decide) (by decide)]; exact hT
  have ep3 : ∀ i, i < 3 → σ2 36 (2 + i) = nI (pr i) := fun i hi => (congrFun (b1 36 (by decide) (by decide) (by decide)) _).trans (ep2 i hi)
  have hx8 := pow_le_256 hw.2.1
  cases hd : dst (lw T l) (pcs T pr) W c with
  | none =>
    refine ep_aln t117_0 rfl ?_
    refine ep_cv t117_1 rfl rfl (Nat.le_of_ble_eq_true rfl) (Nat.le_of_ble_eq_true rfl) (hm9) ?_
    refine ep_aln t117_4 rfl ?_
    refine ep_getr (q := 36) t117_5 rfl (Nat.le_of_ble_eq_true rfl) rfl (rfl) ?_
    refine ep_k1 (w := nI 0) t117_8 rfl ?_
    refine ep_aldN t117_9 rfl (Nat.le_of_ble_eq_true rfl) (Nat.ne_of_beq_eq_false rfl) (Nat.le_of_ble_eq_true rfl) (by omega) ?_
    refine ep_val (b := nI c) ((congrFun (b1 36 (by decide) (by decide) (by decide)) 0).trans e0) ?_
    refine ep_isn (L' := [some (.ref 31), some (.int (nI k)), some (.int (nI c)), none, none, none]) t117_10 rfl (Nat.le_of_ble_eq_true rfl) ?_
    refine ep_aln t117_11 rfl ?_
    refine ep_getr (q := 44) t117_12 rfl (Nat.le_of_ble_eq_true rfl) rfl (rfl) ?_
    refine ep_iln t117_15 rfl ?_
    refine ep_aldN t117_16 rfl (Nat.le_of_ble_eq_true rfl) (Nat.ne_of_beq_eq_false rfl) (Nat.le_of_ble_eq_true rfl) (by omega) ?_
    refine ep_val (b := nI 99999) ((b2 c hc).trans (by rw [hd]; rfl)) ?_
    refine ep_k4 (w := nI 99999) t117_17 rfl ?_
    refine ep_ifP t117_19 (ic_lt (by omega) (by omega)) (fun (c19 : 99999 < 99999) => (by omega)) (fun (c19 : ¬ (99999 < 99999)) => ?_)
    refine ep_k2 (w := (-9)) t117_22 rfl ?_
    refine ep_ri t117_24 (fun h => absurd h (by decide)) ?_
    exact ⟨σ2, rfl, rfl, b1⟩
  | some n =>
    have hx2 := (dst_some.mp hd).le (lw_p hw hpr) lw_N (pow_le_256 hw.2.1) hc
    refine ep_aln t117_0 rfl ?_
    refine ep_cv t117_1 rfl rfl (Nat.le_of_ble_eq_true rfl) (Nat.le_of_ble_eq_true rfl) (hm9) ?_
    refine ep_aln t117_4 rfl ?_
    refine ep_getr (q := 36) t117_5 rfl (Nat.le_of_ble_eq_true rfl) rfl (rfl) ?_
    refine ep_k1 (w := nI 0) t117_8 rfl ?_
    refine ep_aldN t117_9 rfl (Nat.le_of_ble_eq_true rfl) (Nat.ne_of_beq_eq_false rfl) (Nat.le_of_ble_eq_true rfl) (by omega) ?_
    refine ep_val (b := nI c) ((congrFun (b1 36 (by decide) (by decide) (by decide)) 0).trans e0) ?_
    refine ep_isn (L' := [some (.ref 31), some (.int (nI k)), some (.int (nI c)), none, none, none]) t117_10 rfl (Nat.le_of_ble_eq_true rfl) ?_
    refine ep_aln t117_11 rfl ?_
    refine ep_getr (q := 44) t117_12 rfl (Nat.le_of_ble_eq_true rfl) rfl (rfl) ?_
    refine ep_iln t117_15 rfl ?_
    refine ep_aldN t117_16 rfl (Nat.le_of_ble_eq_true rfl) (Nat.ne_of_beq_eq_false rfl) (Nat.le_of_ble_eq_true rfl) (by omega) ?_
    refine ep_val (b := nI n) ((b2 c hc).trans (by rw [hd]; rfl)) ?_
    refine ep_k4 (w := nI 99999) t117_17 rfl ?_
    refine ep_ifP t117_19 (ic_lt (by omega) (by omega)) (fun (c19 : n < 99999) => ?_) (fun (c19 : ¬ (n < 99999)) => (by omega))
    refine ep_aln t117_25 rfl ?_
    refine ep_getr (q := 44) t117_26 rfl (Nat.le_of_ble_eq_true rfl) rfl (rfl) ?_
    refine ep_iln t117_29 rfl ?_
    refine ep_aldN t117_30 rfl (Nat.le_of_ble_eq_true rfl) (Nat.ne_of_beq_eq_false rfl) (Nat.le_of_ble_eq_true rfl) (by omega) ?_
    refine ep_val (b := nI n) ((b2 c hc).trans (by rw [hd]; rfl)) ?_
    refine ep_isn (L' := [some (.ref 31), some (.int (nI k)), some (.int (nI c)), some (.int (nI n)), none, none]) t117_31 rfl (Nat.le_of_ble_eq_true rfl) ?_
    refine ep_k1 (w := nI 0) t117_32 rfl ?_
    refine ep_is (L' := [some (.ref 31), some (.int (nI k)), some (.int (nI c)), some (.int (nI n)), some (.int (nI 0)), none]) t117_33 rfl (Nat.le_of_ble_eq_true rfl) ?_
    refine (L_te1 (σ := σ2) hT2 hw ep3 hpr b2 b3 hk 256 0 n (nI n) none (by omega) (by omega) (fun h => absurd h (by omega)) (TI.z hc hsc hd)).mono (fun v g1 h => ?_)
    exact ⟨σ2, h.1, h.2, b1⟩

