/-! Leaves. -/
def inR (a : Int32) (n : Nat) : Bool := decide (0 ≤ a.toInt ∧ a.toInt < n)
theorem inR_lt0 {a : Int32} {n : Nat} (h : a < 0) : inR a n = false := by
  rw [Int32.lt_iff_toInt_lt] at h
  have h0 : (0 : Int32).toInt = 0 := rfl
  simp only [inR, decide_eq_false_iff_not]
  omega
theorem inR_ge {a : Int32} {n : Nat} (hn : n < 2147483648) (h : nI n ≤ a) : inR a n = false := by
  rw [Int32.le_iff_toInt_le, nI_toInt hn] at h
  simp only [inR, decide_eq_false_iff_not]
  omega
theorem inR_ok {a : Int32} {n : Nat} (hn : n < 2147483648) (h : ¬ a < 0) (h2 : ¬ nI n ≤ a) : inR a n = true := by
  rw [Int32.lt_iff_toInt_lt] at h
  rw [Int32.le_iff_toInt_le, nI_toInt hn] at h2
  have h0 : (0 : Int32).toInt = 0 := rfl
  simp only [inR, decide_eq_true_eq]
  omega
theorem inR_M {a : Int32} {n : Nat} (hn : n < 1000000) : (decide (nI 0 ≤ a) && decide (a ≤ nI n - nI 1)) = inR a n := by
  have h1 : (nI n - nI 1).toInt = (n : Int) - 1 := pk_sub_toInt (by omega) (by omega)
  have h0 : (nI 0).toInt = 0 := rfl
  unfold inR
  rw [← Bool.decide_and]
  apply decide_eq_decide.mpr
  rw [Int32.le_iff_toInt_le, Int32.le_iff_toInt_le, h1, h0]
  omega
theorem inR_of {a : Int32} {n : Nat} (hn : n < 2147483648) (h : inR a n = true) : ∃ j, j < n ∧ a = nI j := by
  simp only [inR, decide_eq_true_eq] at h
  obtain ⟨j, hj, e⟩ := nI_of (x := a) (by rw [Int32.lt_iff_toInt_lt]; have h0 : (0 : Int32).toInt = 0 := rfl; omega)
  subst e
  rw [nI_toInt hj] at h
  exact ⟨j, by omega, rfl⟩
theorem inR_nI {j n : Nat} (h : j < n) (hn : n < 2147483648) : inR (nI j) n = true := by
  simp only [inR, decide_eq_true_eq]
  rw [nI_toInt (by omega)]
  omega
/-- a letter from a to b -/
def inB (a : Int32) (x y : Nat) : Bool := decide ((x : Int) ≤ a.toInt ∧ a.toInt ≤ y)
theorem inB_M {a : Int32} {x y : Nat} (hx : x < 2147483648) (hy : y < 2147483648) : (decide (nI x ≤ a) && decide (a ≤ nI y)) = inB a x y := by
  unfold inB
  rw [← Bool.decide_and]
  apply decide_eq_decide.mpr
  rw [Int32.le_iff_toInt_le, Int32.le_iff_toInt_le, nI_toInt hx, nI_toInt hy]
theorem inB_lt {a : Int32} {x y : Nat} (hx : x < 2147483648) (h : a < nI x) : inB a x y = false := by
  rw [Int32.lt_iff_toInt_lt, nI_toInt hx] at h
  simp only [inB, decide_eq_false_iff_not]
  omega
theorem inB_gt {a : Int32} {x y : Nat} (hy : y < 2147483648) (h : nI y < a) : inB a x y = false := by
  rw [Int32.lt_iff_toInt_lt, nI_toInt hy] at h
  simp only [inB, decide_eq_false_iff_not]
  omega
theorem inB_ok {a : Int32} {x y : Nat} (hx : x < 2147483648) (hy : y < 2147483648) (h : ¬ a < nI x) (h2 : ¬ nI y < a) : inB a x y = true := by
  rw [Int32.lt_iff_toInt_lt, nI_toInt hx] at h
  rw [Int32.lt_iff_toInt_lt, nI_toInt hy] at h2
  simp only [inB, decide_eq_true_eq]
  omega
theorem inB_of {a : Int32} {x y : Nat} (h : inB a x y = true) : ∃ j, (x ≤ j ∧ j ≤ y) ∧ a = nI j := by
  simp only [inB, decide_eq_true_eq] at h
  obtain ⟨j, hj, e⟩ := nI_of (x := a) (by rw [Int32.lt_iff_toInt_lt]; have h0 : (0 : Int32).toInt = 0 := rfl; omega)
  subst e
  rw [nI_toInt hj] at h
  exact ⟨j, by omega, rfl⟩
theorem inB_nI {j x y : Nat} (hj : j < 2147483648) : inB (nI j) x y = decide (x ≤ j ∧ j ≤ y) := by
  unfold inB
  rw [nI_toInt hj]
  apply decide_eq_decide.mpr
  omega
theorem bitN {a k : Nat} : a / 2 ^ k % 2 = (a.testBit k).toNat := by
  rw [Nat.testBit_eq_decide_div_mod_eq]
  by_cases h : a / 2 ^ k % 2 = 1
  · simp [h]
  · have : a / 2 ^ k % 2 = 0 := by omega
    simp [this]
theorem bI_bit {a k : Nat} : nI (a / 2 ^ k % 2) = bI (a.testBit k) := by
  rw [bitN]
  cases a.testBit k <;> rfl
theorem cl_M_in {X : gX} {g : gS} (a b c : Int32) : Cl X 10 [.int a, .int b, .int c] g (some (.int (bI (decide (b ≤ a) && decide (a ≤ c))))) g := by
  refine Cl.of ⟨Nat.le_of_ble_eq_true rfl, rfl⟩ ?_
  show EvP X 10 0 [some (.int a), some (.int b), some (.int c)] [] g _
  refine ep_iln t10_0 rfl ?_
  refine ep_iln t10_1 rfl ?_
  refine ep_if t10_2 (fun (c2 : a < b) => ?_) (fun (c2 : ¬ (a < b)) => ?_)
  · refine ep_k1 (w := nI 0) t10_14 rfl ?_
    refine ep_ri t10_15 (fun _ => rfl) ?_
    exact ⟨by first | (rw [decide_eq_false (Int32.not_le.mpr c2)]; rfl) | (rw [decide_eq_false (Int32.not_le.mpr c7), Bool.and_false]; rfl) | (rw [decide_eq_true (Int32.not_lt.mp c2), decide_eq_true (Int32.not_lt.mp c7)]; rfl), rfl⟩
  · refine ep_iln t10_5 rfl ?_
    refine ep_iln t10_6 rfl ?_
    refine ep_if t10_7 (fun (c7 : c < a) => ?_) (fun (c7 : ¬ (c < a)) => ?_)
    · refine ep_k1 (w := nI 0) t10_14 rfl ?_
      refine ep_ri t10_15 (fun _ => rfl) ?_
      exact ⟨by first | (rw [decide_eq_false (Int32.not_le.mpr c2)]; rfl) | (rw [decide_eq_false (Int32.not_le.mpr c7), Bool.and_false]; rfl) | (rw [decide_eq_true (Int32.not_lt.mp c2), decide_eq_true (Int32.not_lt.mp c7)]; rfl), rfl⟩
    · refine ep_k1 (w := nI 1) t10_10 rfl ?_
      refine ep_gt t10_11 ?_
      refine ep_ri t10_15 (fun _ => rfl) ?_
      exact ⟨by first | (rw [decide_eq_false (Int32.not_le.mpr c2)]; rfl) | (rw [decide_eq_false (Int32.not_le.mpr c7), Bool.and_false]; rfl) | (rw [decide_eq_true (Int32.not_lt.mp c2), decide_eq_true (Int32.not_lt.mp c7)]; rfl), rfl⟩

theorem cl_B_bit {X : gX} {g : gS} {a k : Nat} (ha : a < 2147483648) (hk : k < 31) : Cl X 19 [.int (nI a), .int (nI k)] g (some (.int (bI (a.testBit k)))) g := by
  refine Cl.of ⟨Nat.le_of_ble_eq_true rfl, rfl⟩ ?_
  show EvP X 19 0 [some (.int (nI a)), some (.int (nI k))] [] g _
  refine ep_iln t19_0 rfl ?_
  refine ep_iln t19_1 rfl ?_
  refine ep_shrN (a := a) (b := k) t19_2 (by omega) (by omega) ?_
  refine ep_k1 (w := nI 1) t19_3 rfl ?_
  refine ep_andN (a := a / 2 ^ k) (b := 1) t19_4 ?_
  refine ep_ri t19_5 (fun h => absurd h (by decide)) ?_
  exact ⟨by rw [Nat.and_one_is_mod, bI_bit], rfl⟩

theorem cl_M_has {X : gX} {g : gS} {a k : Nat} (ha : a < 2147483648) (hk : k < 31) : Cl X 53 [.int (nI a), .int (nI k)] g (some (.int (bI (a.testBit k)))) g := by
  refine Cl.of ⟨Nat.le_of_ble_eq_true rfl, rfl⟩ ?_
  show EvP X 53 0 [some (.int (nI a)), some (.int (nI k))] [] g _
  refine ep_iln t53_0 rfl ?_
  refine ep_iln t53_1 rfl ?_
  refine ep_shrN (a := a) (b := k) t53_2 (by omega) (by omega) ?_
  refine ep_k1 (w := nI 1) t53_3 rfl ?_
  refine ep_andN (a := a / 2 ^ k) (b := 1) t53_4 ?_
  refine ep_val (b := nI (a / 2 ^ k % 2)) (by rw [Nat.and_one_is_mod]) ?_
  refine ep_k1 (w := nI 1) t53_5 rfl ?_
  refine ep_ifP t53_6 (ic_ne (by omega) (by omega)) (fun (c6 : ¬ (a / 2 ^ k % 2) = 1) => ?_) (fun (c6 : ¬ (¬ (a / 2 ^ k % 2) = 1)) => ?_)
  · refine ep_k1 (w := nI 0) t53_13 rfl ?_
    refine ep_ri t53_14 (fun _ => rfl) ?_
    exact ⟨by rw [Nat.testBit_eq_decide_div_mod_eq]; simp_all [bI, nI], rfl⟩
  · refine ep_k1 (w := nI 1) t53_9 rfl ?_
    refine ep_gt t53_10 ?_
    refine ep_ri t53_14 (fun _ => rfl) ?_
    exact ⟨by rw [Nat.testBit_eq_decide_div_mod_eq]; simp_all [bI, nI], rfl⟩

theorem cl_B_isSwitch_7 {X : gX} {σ : gT1} {n : Nat} (a : Int32) (hn : n < 1000000) (h : σ 7 3 = nI n) : Cl X 64 [.ref 0, .int a] (47, g_rho false, σ) (some (.int (bI (inR a n)))) (47, g_rho false, σ) := by
  refine Cl.of ⟨Nat.le_of_ble_eq_true rfl, rfl⟩ ?_
  show EvP X 64 0 [some (.ref 0), some (.int a)] [] (47, g_rho false, σ) _
  refine ep_iln t64_0 rfl ?_
  refine ep_if0 t64_1 (fun (c1 : a < 0) => ?_) (fun (c1 : ¬ (a < 0)) => ?_)
  · refine ep_k1 (w := nI 0) t64_19 rfl ?_
    refine ep_ri t64_20 (fun _ => rfl) ?_
    exact ⟨by first | rw [inR_lt0 c1]; rfl | rw [inR_ge (by omega) c12]; rfl | rw [inR_ok (by omega) c1 c12]; rfl, rfl⟩
  · refine ep_iln t64_4 rfl ?_
    refine ep_aln t64_5 rfl ?_
    refine ep_getr (q := 7) t64_6 rfl (Nat.le_of_ble_eq_true rfl) rfl (rfl) ?_
    refine ep_get t64_9 rfl (Nat.le_of_ble_eq_true rfl) rfl ?_
    refine ep_val (b := nI n) (h) ?_
    refine ep_if t64_12 (fun (c12 : (nI n) ≤ a) => ?_) (fun (c12 : ¬ ((nI n) ≤ a)) => ?_)
    · refine ep_k1 (w := nI 0) t64_19 rfl ?_
      refine ep_ri t64_20 (fun _ => rfl) ?_
      exact ⟨by first | rw [inR_lt0 c1]; rfl | rw [inR_ge (by omega) c12]; rfl | rw [inR_ok (by omega) c1 c12]; rfl, rfl⟩
    · refine ep_k1 (w := nI 1) t64_15 rfl ?_
      refine ep_gt t64_16 ?_
      refine ep_ri t64_20 (fun _ => rfl) ?_
      exact ⟨by first | rw [inR_lt0 c1]; rfl | rw [inR_ge (by omega) c12]; rfl | rw [inR_ok (by omega) c1 c12]; rfl, rfl⟩

theorem cl_B_isSwitch_16 {X : gX} {σ : gT1} {n : Nat} (a : Int32) (hn : n < 1000000) (h : σ 16 3 = nI n) : Cl X 64 [.ref 0, .int a] (47, g_rho true, σ) (some (.int (bI (inR a n)))) (47, g_rho true, σ) := by
  refine Cl.of ⟨Nat.le_of_ble_eq_true rfl, rfl⟩ ?_
  show EvP X 64 0 [some (.ref 0), some (.int a)] [] (47, g_rho true, σ) _
  refine ep_iln t64_0 rfl ?_
  refine ep_if0 t64_1 (fun (c1 : a < 0) => ?_) (fun (c1 : ¬ (a < 0)) => ?_)
  · refine ep_k1 (w := nI 0) t64_19 rfl ?_
    refine ep_ri t64_20 (fun _ => rfl) ?_
    exact ⟨by first | rw [inR_lt0 c1]; rfl | rw [inR_ge (by omega) c12]; rfl | rw [inR_ok (by omega) c1 c12]; rfl, rfl⟩
  · refine ep_iln t64_4 rfl ?_
    refine ep_aln t64_5 rfl ?_
    refine ep_getr (q := 16) t64_6 rfl (Nat.le_of_ble_eq_true rfl) rfl (rfl) ?_
    refine ep_get t64_9 rfl (Nat.le_of_ble_eq_true rfl) rfl ?_
    refine ep_val (b := nI n) (h) ?_
    refine ep_if t64_12 (fun (c12 : (nI n) ≤ a) => ?_) (fun (c12 : ¬ ((nI n) ≤ a)) => ?_)
    · refine ep_k1 (w := nI 0) t64_19 rfl ?_
      refine ep_ri t64_20 (fun _ => rfl) ?_
      exact ⟨by first | rw [inR_lt0 c1]; rfl | rw [inR_ge (by omega) c12]; rfl | rw [inR_ok (by omega) c1 c12]; rfl, rfl⟩
    · refine ep_k1 (w := nI 1) t64_15 rfl ?_
      refine ep_gt t64_16 ?_
      refine ep_ri t64_20 (fun _ => rfl) ?_
      exact ⟨by first | rw [inR_lt0 c1]; rfl | rw [inR_ge (by omega) c12]; rfl | rw [inR_ok (by omega) c1 c12]; rfl, rfl⟩

theorem cl_B_isSwitch {X : gX} {q : Bool} {σ : gT1} {n : Nat} (a : Int32) (hn : n < 1000000) (h : σ (np q) 3 = nI n) : Cl X 64 [.ref 0, .int a] (47, g_rho q, σ) (some (.int (bI (inR a n)))) (47, g_rho q, σ) := by
  cases q
  · exact cl_B_isSwitch_7 a hn h
  · exact cl_B_isSwitch_16 a hn h
theorem cl_M_isSwitch {X : gX} {q : Bool} {σ : gT1} {n : Nat} (a : Int32) (hn : n < 1000000) (h : σ 33 3 = nI n) : Cl X 68 [.ref 31, .int a] (47, g_rho q, σ) (some (.int (bI (inR a n)))) (47, g_rho q, σ) := by
  refine Cl.of ⟨Nat.le_of_ble_eq_true rfl, rfl⟩ ?_
  show EvP X 68 0 [some (.ref 31), some (.int a)] [] (47, g_rho q, σ) _
  refine ep_iln t68_0 rfl ?_
  refine ep_k1 (w := nI 0) t68_1 rfl ?_
  refine ep_aln t68_2 rfl ?_
  refine ep_getr (q := 33) t68_3 rfl (Nat.le_of_ble_eq_true rfl) rfl (rfl) ?_
  refine ep_k1 (w := nI 3) t68_6 rfl ?_
  refine ep_aldN t68_7 rfl (Nat.le_of_ble_eq_true rfl) (Nat.ne_of_beq_eq_false rfl) (Nat.le_of_ble_eq_true rfl) (by omega) ?_
  refine ep_val (b := nI n) (h) ?_
  refine ep_k1 (w := nI 1) t68_8 rfl ?_
  refine ep_sub t68_9 ?_
  refine ep_cs t68_10 (Nat.ne_of_beq_eq_false rfl) rfl (Nat.le_of_ble_eq_true rfl) (cl_M_in _ _ _) ?_
  refine ep_ri t68_13 (fun _ => bI_and _) ?_
  exact ⟨by rw [inR_M hn], rfl⟩

theorem cl_B_isNode_7 {X : gX} {σ : gT1} {n : Nat} (a : Int32) (hn : n < 1000000) (h : σ 7 0 = nI n) : Cl X 74 [.ref 0, .int a] (47, g_rho false, σ) (some (.int (bI (inR a n)))) (47, g_rho false, σ) := by
  refine Cl.of ⟨Nat.le_of_ble_eq_true rfl, rfl⟩ ?_
  show EvP X 74 0 [some (.ref 0), some (.int a)] [] (47, g_rho false, σ) _
  refine ep_iln t74_0 rfl ?_
  refine ep_if0 t74_1 (fun (c1 : a < 0) => ?_) (fun (c1 : ¬ (a < 0)) => ?_)
  · refine ep_k1 (w := nI 0) t74_19 rfl ?_
    refine ep_ri t74_20 (fun _ => rfl) ?_
    exact ⟨by first | rw [inR_lt0 c1]; rfl | rw [inR_ge (by omega) c12]; rfl | rw [inR_ok (by omega) c1 c12]; rfl, rfl⟩
  · refine ep_iln t74_4 rfl ?_
    refine ep_aln t74_5 rfl ?_
    refine ep_getr (q := 7) t74_6 rfl (Nat.le_of_ble_eq_true rfl) rfl (rfl) ?_
    refine ep_get t74_9 rfl (Nat.le_of_ble_eq_true rfl) rfl ?_
    refine ep_val (b := nI n) (h) ?_
    refine ep_if t74_12 (fun (c12 : (nI n) ≤ a) => ?_) (fun (c12 : ¬ ((nI n) ≤ a)) => ?_)
    · refine ep_k1 (w := nI 0) t74_19 rfl ?_
      refine ep_ri t74_20 (fun _ => rfl) ?_
      exact ⟨by first | rw [inR_lt0 c1]; rfl | rw [inR_ge (by omega) c12]; rfl | rw [inR_ok (by omega) c1 c12]; rfl, rfl⟩
    · refine ep_k1 (w := nI 1) t74_15 rfl ?_
      refine ep_gt t74_16 ?_
      refine ep_ri t74_20 (fun _ => rfl) ?_
      exact ⟨by first | rw [inR_lt0 c1]; rfl | rw [inR_ge (by omega) c12]; rfl | rw [inR_ok (by omega) c1 c12]; rfl, rfl⟩

theorem cl_B_isNode_16 {X : gX} {σ : gT1} {n : Nat} (a : Int32) (hn : n < 1000000) (h : σ 16 0 = nI n) : Cl X 74 [.ref 0, .int a] (47, g_rho true, σ) (some (.int (bI (inR a n)))) (47, g_rho true, σ) := by
  refine Cl.of ⟨Nat.le_of_ble_eq_true rfl, rfl⟩ ?_
  show EvP X 74 0 [some (.ref 0), some (.int a)] [] (47, g_rho true, σ) _
  refine ep_iln t74_0 rfl ?_
  refine ep_if0 t74_1 (fun (c1 : a < 0) => ?_) (fun (c1 : ¬ (a < 0)) => ?_)
  · refine ep_k1 (w := nI 0) t74_19 rfl ?_
    refine ep_ri t74_20 (fun _ => rfl) ?_
    exact ⟨by first | rw [inR_lt0 c1]; rfl | rw [inR_ge (by omega) c12]; rfl | rw [inR_ok (by omega) c1 c12]; rfl, rfl⟩
  · refine ep_iln t74_4 rfl ?_
    refine ep_aln t74_5 rfl ?_
    refine ep_getr (q := 16) t74_6 rfl (Nat.le_of_ble_eq_true rfl) rfl (rfl) ?_
    refine ep_get t74_9 rfl (Nat.le_of_ble_eq_true rfl) rfl ?_
    refine ep_val (b := nI n) (h) ?_
    refine ep_if t74_12 (fun (c12 : (nI n) ≤ a) => ?_) (fun (c12 : ¬ ((nI n) ≤ a)) => ?_)
    · refine ep_k1 (w := nI 0) t74_19 rfl ?_
      refine ep_ri t74_20 (fun _ => rfl) ?_
      exact ⟨by first | rw [inR_lt0 c1]; rfl | rw [inR_ge (by omega) c12]; rfl | rw [inR_ok (by omega) c1 c12]; rfl, rfl⟩
    · refine ep_k1 (w := nI 1) t74_15 rfl ?_
      refine ep_gt t74_16 ?_
      refine ep_ri t74_20 (fun _ => rfl) ?_
      exact ⟨by first | rw [inR_lt0 c1]; rfl | rw [inR_ge (by omega) c12]; rfl | rw [inR_ok (by omega) c1 c12]; rfl, rfl⟩

theorem cl_B_isNode {X : gX} {q : Bool} {σ : gT1} {n : Nat} (a : Int32) (hn : n < 1000000) (h : σ (np q) 0 = nI n) : Cl X 74 [.ref 0, .int a] (47, g_rho q, σ) (some (.int (bI (inR a n)))) (47, g_rho q, σ) := by
  cases q
  · exact cl_B_isNode_7 a hn h
  · exact cl_B_isNode_16 a hn h
theorem cl_M_isNode {X : gX} {q : Bool} {σ : gT1} {n : Nat} (a : Int32) (hn : n < 1000000) (h : σ 33 0 = nI n) : Cl X 77 [.ref 31, .int a] (47, g_rho q, σ) (some (.int (bI (inR a n)))) (47, g_rho q, σ) := by
  refine Cl.of ⟨Nat.le_of_ble_eq_true rfl, rfl⟩ ?_
  show EvP X 77 0 [some (.ref 31), some (.int a)] [] (47, g_rho q, σ) _
  refine ep_iln t77_0 rfl ?_
  refine ep_k1 (w := nI 0) t77_1 rfl ?_
  refine ep_aln t77_2 rfl ?_
  refine ep_getr (q := 33) t77_3 rfl (Nat.le_of_ble_eq_true rfl) rfl (rfl) ?_
  refine ep_k1 (w := nI 0) t77_6 rfl ?_
  refine ep_aldN t77_7 rfl (Nat.le_of_ble_eq_true rfl) (Nat.ne_of_beq_eq_false rfl) (Nat.le_of_ble_eq_true rfl) (by omega) ?_
  refine ep_val (b := nI n) (h) ?_
  refine ep_k1 (w := nI 1) t77_8 rfl ?_
  refine ep_sub t77_9 ?_
  refine ep_cs t77_10 (Nat.ne_of_beq_eq_false rfl) rfl (Nat.le_of_ble_eq_true rfl) (cl_M_in _ _ _) ?_
  refine ep_ri t77_13 (fun _ => bI_and _) ?_
  exact ⟨by rw [inR_M hn], rfl⟩

theorem cl_B_isName {X : gX} {g : gS} (a : Int32) : Cl X 17 [.int a] g (some (.int (bI (inB a 97 122)))) g := by
  refine Cl.of ⟨Nat.le_of_ble_eq_true rfl, rfl⟩ ?_
  show EvP X 17 0 [some (.int a)] [] g _
  refine ep_iln t17_0 rfl ?_
  refine ep_k2 (w := nI 97) t17_1 rfl ?_
  refine ep_if t17_3 (fun (c3 : a < (nI 97)) => ?_) (fun (c3 : ¬ (a < (nI 97))) => ?_)
  · refine ep_k1 (w := nI 0) t17_16 rfl ?_
    refine ep_ri t17_17 (fun _ => rfl) ?_
    exact ⟨by first | (rw [inB_lt (by decide) c3]; rfl) | (rw [inB_gt (by decide) c9]; rfl) | (rw [inB_ok (by decide) (by decide) c3 c9]; rfl), rfl⟩
  · refine ep_iln t17_6 rfl ?_
    refine ep_k2 (w := nI 122) t17_7 rfl ?_
    refine ep_if t17_9 (fun (c9 : (nI 122) < a) => ?_) (fun (c9 : ¬ ((nI 122) < a)) => ?_)
    · refine ep_k1 (w := nI 0) t17_16 rfl ?_
      refine ep_ri t17_17 (fun _ => rfl) ?_
      exact ⟨by first | (rw [inB_lt (by decide) c3]; rfl) | (rw [inB_gt (by decide) c9]; rfl) | (rw [inB_ok (by decide) (by decide) c3 c9]; rfl), rfl⟩
    · refine ep_k1 (w := nI 1) t17_12 rfl ?_
      refine ep_gt t17_13 ?_
      refine ep_ri t17_17 (fun _ => rfl) ?_
      exact ⟨by first | (rw [inB_lt (by decide) c3]; rfl) | (rw [inB_gt (by decide) c9]; rfl) | (rw [inB_ok (by decide) (by decide) c3 c9]; rfl), rfl⟩

theorem cl_B_isPrice {X : gX} {g : gS} (a : Int32) : Cl X 101 [.int a] g (some (.int (bI (inB a 1 9)))) g := by
  refine Cl.of ⟨Nat.le_of_ble_eq_true rfl, rfl⟩ ?_
  show EvP X 101 0 [some (.int a)] [] g _
  refine ep_iln t101_0 rfl ?_
  refine ep_k1 (w := nI 1) t101_1 rfl ?_
  refine ep_if t101_2 (fun (c2 : a < (nI 1)) => ?_) (fun (c2 : ¬ (a < (nI 1))) => ?_)
  · refine ep_k1 (w := nI 0) t101_15 rfl ?_
    refine ep_ri t101_16 (fun _ => rfl) ?_
    exact ⟨by first | (rw [inB_lt (by decide) c2]; rfl) | (rw [inB_gt (by decide) c8]; rfl) | (rw [inB_ok (by decide) (by decide) c2 c8]; rfl), rfl⟩
  · refine ep_iln t101_5 rfl ?_
    refine ep_k2 (w := nI 9) t101_6 rfl ?_
    refine ep_if t101_8 (fun (c8 : (nI 9) < a) => ?_) (fun (c8 : ¬ ((nI 9) < a)) => ?_)
    · refine ep_k1 (w := nI 0) t101_15 rfl ?_
      refine ep_ri t101_16 (fun _ => rfl) ?_
      exact ⟨by first | (rw [inB_lt (by decide) c2]; rfl) | (rw [inB_gt (by decide) c8]; rfl) | (rw [inB_ok (by decide) (by decide) c2 c8]; rfl), rfl⟩
    · refine ep_k1 (w := nI 1) t101_11 rfl ?_
      refine ep_gt t101_12 ?_
      refine ep_ri t101_16 (fun _ => rfl) ?_
      exact ⟨by first | (rw [inB_lt (by decide) c2]; rfl) | (rw [inB_gt (by decide) c8]; rfl) | (rw [inB_ok (by decide) (by decide) c2 c8]; rfl), rfl⟩

theorem cl_B_isImage {X : gX} {g : gS} (a : Int32) : Cl X 142 [.int a] g (some (.int (bI (inR a 2)))) g := by
  refine Cl.of ⟨Nat.le_of_ble_eq_true rfl, rfl⟩ ?_
  show EvP X 142 0 [some (.int a)] [] g _
  refine ep_iln t142_0 rfl ?_
  refine ep_if0 t142_1 (fun (c1 : a < 0) => ?_) (fun (c1 : ¬ (a < 0)) => ?_)
  · refine ep_k1 (w := nI 0) t142_13 rfl ?_
    refine ep_ri t142_14 (fun _ => rfl) ?_
    exact ⟨by first | (rw [inR_lt0 c1]; rfl) | (rw [inR_ge (by decide) c6]; rfl) | (rw [inR_ok (by decide) c1 c6]; rfl), rfl⟩
  · refine ep_iln t142_4 rfl ?_
    refine ep_k1 (w := nI 2) t142_5 rfl ?_
    refine ep_if t142_6 (fun (c6 : (nI 2) ≤ a) => ?_) (fun (c6 : ¬ ((nI 2) ≤ a)) => ?_)
    · refine ep_k1 (w := nI 0) t142_13 rfl ?_
      refine ep_ri t142_14 (fun _ => rfl) ?_
      exact ⟨by first | (rw [inR_lt0 c1]; rfl) | (rw [inR_ge (by decide) c6]; rfl) | (rw [inR_ok (by decide) c1 c6]; rfl), rfl⟩
    · refine ep_k1 (w := nI 1) t142_9 rfl ?_
      refine ep_gt t142_10 ?_
      refine ep_ri t142_14 (fun _ => rfl) ?_
      exact ⟨by first | (rw [inR_lt0 c1]; rfl) | (rw [inR_ge (by decide) c6]; rfl) | (rw [inR_ok (by decide) c1 c6]; rfl), rfl⟩

theorem cl_M_inB {X : gX} {g : gS} (a : Int32) {x y : Nat} (hx : x < 2147483648) (hy : y < 2147483648) : Cl X 10 [.int a, .int (nI x), .int (nI y)] g (some (.int (bI (inB a x y)))) g := by
  rw [← inB_M hx hy]
  exact cl_M_in _ _ _
theorem tgt_out {pc : Nat} {d lo hi : Int} {offs : Array Int} {a : Int32} (h : ¬ (lo ≤ a.toInt ∧ a.toInt ≤ hi)) : g_tgt pc d lo hi offs a = ((pc : Int) + d).toNat := by
  unfold g_tgt
  rw [if_pos (by omega)]
theorem inB_F {a : Int32} {x y : Nat} (h : inB a x y = false) : ¬ ((x : Int) ≤ a.toInt ∧ a.toInt ≤ (y : Int)) := by simpa [inB] using h
