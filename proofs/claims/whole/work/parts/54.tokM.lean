/-! The model's tokens. -/
theorem TxM.fr {σ σ' : gT1} {a : Nat → Nat} {n : Nat} (h : TxM σ a n) (e1 : σ' 31 2 = σ 31 2) (e2 : σ' 32 = σ 32) : TxM σ' a n := ⟨e1.trans h.1, fun j hj => (congrFun e2 j).trans (h.2 j hj)⟩
theorem g_up4 {σ : Nat → Nat → Int32} {x y z w : Int32} : g_up (g_up (g_up (g_up σ 31 6 x) 31 3 y) 31 6 z) 31 3 w = g_up (g_up σ 31 6 z) 31 3 w := by
  rw [g_up_sw (p := 31) (k := 3) (j := 6) (by decide), g_up_up, g_up_up]
theorem m1_ne (j : Nat) (h : j < 2147483648) : ¬ (-1 : Int32) = nI j := fun e => nI_m1 h e.symm
theorem inB_m1 (x y : Nat) : inB (-1) x y = false := by
  have h : (-1 : Int32).toInt = -1 := rfl
  simp only [inB, decide_eq_false_iff_not, h]
  omega
theorem cl_M_let_in {X : gX} {q : Bool} {σ : gT1} {a : Nat → Nat} {n j : Nat} (hn : n ≤ 120) (hx : TxM σ a n) (h31 : j < 2147483648) (hj : j < n) : Cl X 46 [.ref 31, .int (nI j)] (47, g_rho q, σ) (some (.int (nI (a j)))) (47, g_rho q, σ) := by
  refine Cl.of ⟨Nat.le_of_ble_eq_true rfl, rfl⟩ ?_
  show EvP X 46 0 [some (.ref 31), some (.int (nI j))] [] (47, g_rho q, σ) _
  refine ep_iln t46_0 rfl ?_
  refine ep_aln t46_1 rfl ?_
  refine ep_get t46_2 rfl (Nat.le_of_ble_eq_true rfl) rfl ?_
  refine ep_val (b := nI n) (hx.1) ?_
  refine ep_ifP t46_5 (ic_ge (by omega) (by omega)) (fun (c5 : n ≤ j) => (by omega)) (fun (c5 : ¬ (n ≤ j)) => ?_)
  refine ep_aln t46_8 rfl ?_
  refine ep_getr (q := 32) t46_9 rfl (Nat.le_of_ble_eq_true rfl) rfl (rfl) ?_
  refine ep_iln t46_12 rfl ?_
  refine ep_aldN t46_13 rfl (Nat.le_of_ble_eq_true rfl) (Nat.ne_of_beq_eq_false rfl) (Nat.le_of_ble_eq_true rfl) (by omega) ?_
  refine ep_val (b := nI (a j)) (hx.2 j hj) ?_
  refine ep_gt t46_14 ?_
  refine ep_ri t46_18 (fun h => absurd h (by decide)) ?_
  exact ⟨rfl, rfl⟩

theorem cl_M_let_out {X : gX} {q : Bool} {σ : gT1} {a : Nat → Nat} {n j : Nat} (hn : n ≤ 120) (hx : TxM σ a n) (h31 : j < 2147483648) (hj : ¬ j < n) : Cl X 46 [.ref 31, .int (nI j)] (47, g_rho q, σ) (some (.int (-1))) (47, g_rho q, σ) := by
  refine Cl.of ⟨Nat.le_of_ble_eq_true rfl, rfl⟩ ?_
  show EvP X 46 0 [some (.ref 31), some (.int (nI j))] [] (47, g_rho q, σ) _
  refine ep_iln t46_0 rfl ?_
  refine ep_aln t46_1 rfl ?_
  refine ep_get t46_2 rfl (Nat.le_of_ble_eq_true rfl) rfl ?_
  refine ep_val (b := nI n) (hx.1) ?_
  refine ep_ifP t46_5 (ic_ge (by omega) (by omega)) (fun (c5 : n ≤ j) => ?_) (fun (c5 : ¬ (n ≤ j)) => (by omega))
  refine ep_k1 (w := (-1)) t46_17 rfl ?_
  refine ep_ri t46_18 (fun h => absurd h (by decide)) ?_
  exact ⟨rfl, rfl⟩

theorem L_msk {X : gX} {P : Option Value → gS → Prop} {q : Bool} {σ : gT1} {a : Nat → Nat} {n : Nat} (ha : ∀ j, a j < 256) (hn : n ≤ 120) (hx : TxM σ a n) {o1 : Option Value} : ∀ (d p : Nat), p + d = n → EvP X 47 26 [some (.ref 31), o1] [] (47, g_rho q, g_up σ 31 3 (nI (skp a n d p))) P → EvP X 47 0 [some (.ref 31), o1] [] (47, g_rho q, g_up σ 31 3 (nI p)) P
  | 0, p, hk, K => by
    refine ep_aln t47_0 rfl ?_
    refine ep_aln t47_1 rfl ?_
    refine ep_get t47_2 rfl (Nat.le_of_ble_eq_true rfl) rfl ?_
    refine ep_val (b := nI p) (rfl) ?_
    refine ep_cv t47_5 rfl rfl (Nat.le_of_ble_eq_true rfl) (Nat.le_of_ble_eq_true rfl) (cl_M_let_out hn (hx.fr rfl rfl) (by omega) (by omega)) ?_
    refine ep_k2 (w := nI 32) t47_8 rfl ?_
    refine ep_if t47_10 (fun (c10 : ¬ ((-1)) = (nI 32)) => ?_) (fun (c10 : ¬ (¬ ((-1)) = (nI 32))) => (by exact absurd (m1_ne 32 (by decide)) c10))
    exact K
  | d + 1, p, hk, K => by
    refine ep_aln t47_0 rfl ?_
    refine ep_aln t47_1 rfl ?_
    refine ep_get t47_2 rfl (Nat.le_of_ble_eq_true rfl) rfl ?_
    refine ep_val (b := nI p) (rfl) ?_
    refine ep_cv t47_5 rfl rfl (Nat.le_of_ble_eq_true rfl) (Nat.le_of_ble_eq_true rfl) (cl_M_let_in hn (hx.fr rfl rfl) (by omega) (by omega)) ?_
    refine ep_k2 (w := nI 32) t47_8 rfl ?_
    refine ep_ifP t47_10 (ic_ne (by have := ha p; omega) (by have := ha p; omega)) (fun (c10 : ¬ (a p) = 32) => ?_) (fun (c10 : ¬ (¬ (a p) = 32)) => ?_)
    · rw [skp_no (fun h => c10 h.2)] at K
      exact K
    · refine ep_aln t47_13 rfl ?_
      refine ep_dup t47_14 rfl ?_
      refine ep_get t47_15 rfl (Nat.le_of_ble_eq_true rfl) rfl ?_
      refine ep_val (b := nI p) (rfl) ?_
      refine ep_k1 (w := nI 1) t47_18 rfl ?_
      refine ep_addN (a := p) (b := 1) t47_19 ?_
      refine ep_put t47_20 rfl (Nat.le_of_ble_eq_true rfl) rfl ?_
      refine ep_gt t47_23 ?_
      rw [g_up_up]
      rw [skp_yes (by omega) (Classical.byContradiction c10)] at K
      exact L_msk ha hn hx d (p + 1) (by omega) K
theorem L_dgm {X : gX} {P : Option Value → gS → Prop} {q : Bool} {σ : gT1} {a : Nat → Nat} {n : Nat} (ha : ∀ j, a j < 256) (hn : n ≤ 120) (hx : TxM σ a n) {o1 : Option Value} : ∀ (d p v : Nat), p + d = n → v ≤ 999 → EvP X 47 141 [some (.ref 31), o1] [] (47, g_rho q, g_up (g_up σ 31 6 (nI (dgs a n d p v).2)) 31 3 (nI (dgs a n d p v).1)) P → EvP X 47 71 [some (.ref 31), o1] [] (47, g_rho q, g_up (g_up σ 31 6 (nI v)) 31 3 (nI p)) P
  | 0, p, v, hk, hv, K => by
    refine ep_aln t47_71 rfl ?_
    refine ep_aln t47_72 rfl ?_
    refine ep_get t47_73 rfl (Nat.le_of_ble_eq_true rfl) rfl ?_
    refine ep_val (b := nI p) (rfl) ?_
    refine ep_cv t47_76 rfl rfl (Nat.le_of_ble_eq_true rfl) (Nat.le_of_ble_eq_true rfl) (cl_M_let_out hn (hx.fr rfl rfl) (by omega) (by omega)) ?_
    refine ep_k2 (w := nI 48) t47_79 rfl ?_
    refine ep_k2 (w := nI 57) t47_81 rfl ?_
    refine ep_cs t47_83 (Nat.ne_of_beq_eq_false rfl) rfl (Nat.le_of_ble_eq_true rfl) (cl_M_inB _ (by decide) (by decide)) ?_
    refine ep_bF t47_86 (fun (c86 : (inB ((-1)) 48 57) = false) => ?_) (fun (c86 : (inB ((-1)) 48 57) = true) => (by exact absurd c86 (by rw [inB_m1]; decide)))
    exact K
  | d + 1, p, v, hk, hv, K => by
    refine ep_aln t47_71 rfl ?_
    refine ep_aln t47_72 rfl ?_
    refine ep_get t47_73 rfl (Nat.le_of_ble_eq_true rfl) rfl ?_
    refine ep_val (b := nI p) (rfl) ?_
    refine ep_cv t47_76 rfl rfl (Nat.le_of_ble_eq_true rfl) (Nat.le_of_ble_eq_true rfl) (cl_M_let_in hn (hx.fr rfl rfl) (by omega) (by omega)) ?_
    refine ep_k2 (w := nI 48) t47_79 rfl ?_
    refine ep_k2 (w := nI 57) t47_81 rfl ?_
    refine ep_cs t47_83 (Nat.ne_of_beq_eq_false rfl) rfl (Nat.le_of_ble_eq_true rfl) (cl_M_inB _ (by decide) (by decide)) ?_
    refine ep_bF t47_86 (fun (c86 : (inB (nI (a p)) 48 57) = false) => ?_) (fun (c86 : (inB (nI (a p)) 48 57) = true) => ?_)
    · have hq : ¬ (48 ≤ a p ∧ a p ≤ 57) := by rw [inB_nI (by have := ha p; omega)] at c86; exact of_decide_eq_false c86
      rw [dgs_no (fun h => hq h.2)] at K
      exact K
    · have hq : 48 ≤ a p ∧ a p ≤ 57 := by rw [inB_nI (by have := ha p; omega)] at c86; exact of_decide_eq_true c86
      refine ep_aln t47_89 rfl ?_
      refine ep_aln t47_90 rfl ?_
      refine ep_get t47_91 rfl (Nat.le_of_ble_eq_true rfl) rfl ?_
      refine ep_val (b := nI v) (rfl) ?_
      refine ep_k2 (w := nI 99) t47_94 rfl ?_
      refine ep_ifP t47_96 (ic_le (by have := ha p; omega) (by have := ha p; omega)) (fun (c96 : v ≤ 99) => ?_) (fun (c96 : ¬ (v ≤ 99)) => ?_)
      · refine ep_k2 (w := nI 10) t47_106 rfl ?_
        refine ep_aln t47_108 rfl ?_
        refine ep_get t47_109 rfl (Nat.le_of_ble_eq_true rfl) rfl ?_
        refine ep_val (b := nI v) (rfl) ?_
        refine ep_mulN (a := 10) (b := v) t47_112 ?_
        refine ep_aln t47_113 rfl ?_
        refine ep_aln t47_114 rfl ?_
        refine ep_get t47_115 rfl (Nat.le_of_ble_eq_true rfl) rfl ?_
        refine ep_val (b := nI p) (rfl) ?_
        refine ep_cv t47_118 rfl rfl (Nat.le_of_ble_eq_true rfl) (Nat.le_of_ble_eq_true rfl) (cl_M_let_in hn (hx.fr rfl rfl) (by omega) (by omega)) ?_
        refine ep_addN (a := 10 * v) (b := a p) t47_121 ?_
        refine ep_k2 (w := nI 48) t47_122 rfl ?_
        refine ep_subN (a := (10 * v) + (a p)) (b := 48) t47_124 (by have := ha p; omega) ?_
        refine ep_put t47_125 rfl (Nat.le_of_ble_eq_true rfl) rfl ?_
        refine ep_aln t47_128 rfl ?_
        refine ep_dup t47_129 rfl ?_
        refine ep_get t47_130 rfl (Nat.le_of_ble_eq_true rfl) rfl ?_
        refine ep_val (b := nI p) (rfl) ?_
        refine ep_k1 (w := nI 1) t47_133 rfl ?_
        refine ep_addN (a := p) (b := 1) t47_134 ?_
        refine ep_put t47_135 rfl (Nat.le_of_ble_eq_true rfl) rfl ?_
        refine ep_gt t47_138 ?_
        rw [g_up4]
        rw [dgs_yes (by omega) hq.1 hq.2, if_neg (Nat.not_lt.mpr c96)] at K
        exact L_dgm ha hn hx d (p + 1) _ (by omega) (by have := ha p; omega) K
      · refine ep_aln t47_99 rfl ?_
        refine ep_get t47_100 rfl (Nat.le_of_ble_eq_true rfl) rfl ?_
        refine ep_val (b := nI v) (rfl) ?_
        refine ep_gt t47_103 ?_
        refine ep_put t47_125 rfl (Nat.le_of_ble_eq_true rfl) rfl ?_
        refine ep_aln t47_128 rfl ?_
        refine ep_dup t47_129 rfl ?_
        refine ep_get t47_130 rfl (Nat.le_of_ble_eq_true rfl) rfl ?_
        refine ep_val (b := nI p) (rfl) ?_
        refine ep_k1 (w := nI 1) t47_133 rfl ?_
        refine ep_addN (a := p) (b := 1) t47_134 ?_
        refine ep_put t47_135 rfl (Nat.le_of_ble_eq_true rfl) rfl ?_
        refine ep_gt t47_138 ?_
        rw [g_up4]
        rw [dgs_yes (by omega) hq.1 hq.2, if_pos (Nat.lt_of_not_le c96)] at K
        exact L_dgm ha hn hx d (p + 1) _ (by omega) (by have := ha p; omega) K
theorem cl_M_advances {X : gX} {q : Bool} {σ : gT1} {a : Nat → Nat} {n : Nat} (ha : ∀ j, a j < 256) (hn : n ≤ 120) (hx : TxM σ a n) {p : Nat} (hp : p ≤ n) (e3 : σ 31 3 = nI p) : ClP X 47 [.ref 31] (47, g_rho q, σ) (fun v g1 => v = none ∧ ∃ σ1, g1 = (47, g_rho q, σ1) ∧ (∀ r, r ≠ 31 → σ1 r = σ r) ∧ (∀ k, k ≠ 3 → k ≠ 4 → k ≠ 5 → k ≠ 6 → σ1 31 k = σ 31 k) ∧ TokM σ1 a n p) := by
  have hs1 := tS_le (a := a) hp
  refine ClP.of ⟨Nat.le_of_ble_eq_true rfl, rfl⟩ ?_
  show EvP X 47 0 [some (.ref 31), none] [] (47, g_rho q, σ) _
  refine ep_sig (g_up_self e3) ?_
  refine L_msk ha hn hx (n - p) p (by omega) ?_
  show EvP X 47 26 [some (.ref 31), none] [] (47, g_rho q, g_up σ 31 3 (nI (tS a n p))) _
  by_cases hs : tS a n p < n
  · by_cases hd : 48 ≤ a (tS a n p) ∧ a (tS a n p) ≤ 57
    · have hin : inB (nI (a (tS a n p))) 48 57 = true := by rw [inB_nI (by have := ha (tS a n p); omega)]; exact decide_eq_true hd
      have hd1 : (tD a n p).1 ≤ n := (dgs_le (n - tS a n p) (tS a n p) 0 (by omega)).2
      have hd0 : tS a n p ≤ (tD a n p).1 := (dgs_le (n - tS a n p) (tS a n p) 0 (by omega)).1
      have hdv : (tD a n p).2 ≤ 999 := dgs_v (n - tS a n p) (tS a n p) 0 (by decide)
      refine ep_aln t47_26 rfl ?_
      refine ep_aln t47_27 rfl ?_
      refine ep_get t47_28 rfl (Nat.le_of_ble_eq_true rfl) rfl ?_
      refine ep_val (b := nI (tS a n p)) (rfl) ?_
      refine ep_put t47_31 rfl (Nat.le_of_ble_eq_true rfl) rfl ?_
      refine ep_aln t47_34 rfl ?_
      refine ep_aln t47_35 rfl ?_
      refine ep_get t47_36 rfl (Nat.le_of_ble_eq_true rfl) rfl ?_
      refine ep_val (b := nI (tS a n p)) (rfl) ?_
      refine ep_cv t47_39 rfl rfl (Nat.le_of_ble_eq_true rfl) (Nat.le_of_ble_eq_true rfl) (cl_M_let_in hn (hx.fr rfl rfl) (by omega) (by omega)) ?_
      refine ep_isn (L' := [some (.ref 31), some (.int (nI (a (tS a n p))))]) t47_42 rfl (Nat.le_of_ble_eq_true rfl) ?_
      refine ep_iln t47_43 rfl ?_
      refine ep_if0P t47_44 (ic0_ge (by have := ha (tS a n p); omega)) (fun (c44 : 0 ≤ (a (tS a n p))) => ?_) (fun (c44 : ¬ (0 ≤ (a (tS a n p)))) => (by exact absurd (Nat.zero_le _) c44))
      refine ep_iln t47_55 rfl ?_
      refine ep_k2 (w := nI 48) t47_56 rfl ?_
      refine ep_k2 (w := nI 57) t47_58 rfl ?_
      refine ep_cs t47_60 (Nat.ne_of_beq_eq_false rfl) rfl (Nat.le_of_ble_eq_true rfl) (cl_M_inB _ (by decide) (by decide)) ?_
      refine ep_bF t47_63 (fun (c63 : (inB (nI (a (tS a n p))) 48 57) = false) => (by exact absurd c63 (by rw [hin]; decide))) (fun (c63 : (inB (nI (a (tS a n p))) 48 57) = true) => ?_)
      refine ep_aln t47_66 rfl ?_
      refine ep_k1 (w := nI 0) t47_67 rfl ?_
      refine ep_put t47_68 rfl (Nat.le_of_ble_eq_true rfl) rfl ?_
      refine ep_sig (σ' := g_up (g_up (g_up (g_up σ 31 3 (nI (tS a n p))) 31 5 (nI (tS a n p))) 31 6 (nI 0)) 31 3 (nI (tS a n p))) (g_up_self rfl) ?_
      refine L_dgm (σ := g_up (g_up σ 31 3 (nI (tS a n p))) 31 5 (nI (tS a n p))) ha hn (hx.fr rfl rfl) (n - tS a n p) (tS a n p) 0 (by omega) (by decide) ?_
      show EvP X 47 141 [some (.ref 31), some (.int (nI (a (tS a n p))))] [] (47, g_rho q, g_up (g_up (g_up (g_up σ 31 3 (nI (tS a n p))) 31 5 (nI (tS a n p))) 31 6 (nI (tD a n p).2)) 31 3 (nI (tD a n p).1)) _
      refine ep_aln t47_141 rfl ?_
      refine ep_aln t47_142 rfl ?_
      refine ep_get t47_143 rfl (Nat.le_of_ble_eq_true rfl) rfl ?_
      refine ep_val (b := nI ((tD a n p).2)) (rfl) ?_
      refine ep_k2 (w := nI 99) t47_146 rfl ?_
      refine ep_ifP t47_148 (ic_gt (by have := ha (tS a n p); omega) (by have := ha (tS a n p); omega)) (fun (c148 : 99 < ((tD a n p).2)) => ?_) (fun (c148 : ¬ (99 < ((tD a n p).2))) => ?_)
      · refine ep_k1 (w := nI 4) t47_170 rfl ?_
        refine ep_gt t47_171 ?_
        refine ep_put t47_175 rfl (Nat.le_of_ble_eq_true rfl) rfl ?_
        refine ep_gt t47_178 ?_
        refine ep_rv t47_226 ?_
        obtain ⟨k1, k2, k3⟩ := tk_dig (a := a) (n := n) (p := p) (by omega) hd.1 hd.2
        have k4 : tDk a n p = 4 := if_pos (by first | exact Or.inl c148 | exact Or.inr ⟨Classical.byContradiction c154, by omega⟩)
        have k5 := k1.trans k4
        exact ⟨rfl, _, rfl, fun r hr => by repeat rw [g_up_ne hr], fun k h3 h4 h5 h6 => by repeat rw [g_up_j (by assumption)], by rw [k3]; rfl, rfl, by rw [k5]; rfl, fun z => by rw [k2]; rfl⟩
      · refine ep_iln t47_151 rfl ?_
        refine ep_k2 (w := nI 48) t47_152 rfl ?_
        refine ep_ifP t47_154 (ic_ne (by have := ha (tS a n p); omega) (by have := ha (tS a n p); omega)) (fun (c154 : ¬ (a (tS a n p)) = 48) => ?_) (fun (c154 : ¬ (¬ (a (tS a n p)) = 48)) => ?_)
        · refine ep_k1 (w := nI 2) t47_174 rfl ?_
          refine ep_put t47_175 rfl (Nat.le_of_ble_eq_true rfl) rfl ?_
          refine ep_gt t47_178 ?_
          refine ep_rv t47_226 ?_
          obtain ⟨k1, k2, k3⟩ := tk_dig (a := a) (n := n) (p := p) (by omega) hd.1 hd.2
          have k4 : tDk a n p = 2 := if_neg (by omega)
          have k5 := k1.trans k4
          exact ⟨rfl, _, rfl, fun r hr => by repeat rw [g_up_ne hr], fun k h3 h4 h5 h6 => by repeat rw [g_up_j (by assumption)], by rw [k3]; rfl, rfl, by rw [k5]; rfl, fun z => by rw [k2]; rfl⟩
        · refine ep_aln t47_157 rfl ?_
          refine ep_get t47_158 rfl (Nat.le_of_ble_eq_true rfl) rfl ?_
          refine ep_val (b := nI ((tD a n p).1)) (rfl) ?_
          refine ep_aln t47_161 rfl ?_
          refine ep_get t47_162 rfl (Nat.le_of_ble_eq_true rfl) rfl ?_
          refine ep_val (b := nI (tS a n p)) (rfl) ?_
          refine ep_subN (a := (tD a n p).1) (b := tS a n p) t47_165 (by have := ha (tS a n p); omega) ?_
          refine ep_k1 (w := nI 1) t47_166 rfl ?_
          refine ep_ifP t47_167 (ic_le (by have := ha (tS a n p); omega) (by have := ha (tS a n p); omega)) (fun (c167 : (((tD a n p).1) - (tS a n p)) ≤ 1) => ?_) (fun (c167 : ¬ ((((tD a n p).1) - (tS a n p)) ≤ 1)) => ?_)
          · refine ep_k1 (w := nI 2) t47_174 rfl ?_
            refine ep_put t47_175 rfl (Nat.le_of_ble_eq_true rfl) rfl ?_
            refine ep_gt t47_178 ?_
            refine ep_rv t47_226 ?_
            obtain ⟨k1, k2, k3⟩ := tk_dig (a := a) (n := n) (p := p) (by omega) hd.1 hd.2
            have k4 : tDk a n p = 2 := if_neg (by omega)
            have k5 := k1.trans k4
            exact ⟨rfl, _, rfl, fun r hr => by repeat rw [g_up_ne hr], fun k h3 h4 h5 h6 => by repeat rw [g_up_j (by assumption)], by rw [k3]; rfl, rfl, by rw [k5]; rfl, fun z => by rw [k2]; rfl⟩
          · refine ep_k1 (w := nI 4) t47_170 rfl ?_
            refine ep_gt t47_171 ?_
            refine ep_put t47_175 rfl (Nat.le_of_ble_eq_true rfl) rfl ?_
            refine ep_gt t47_178 ?_
            refine ep_rv t47_226 ?_
            obtain ⟨k1, k2, k3⟩ := tk_dig (a := a) (n := n) (p := p) (by omega) hd.1 hd.2
            have k4 : tDk a n p = 4 := if_pos (by first | exact Or.inl c148 | exact Or.inr ⟨Classical.byContradiction c154, by omega⟩)
            have k5 := k1.trans k4
            exact ⟨rfl, _, rfl, fun r hr => by repeat rw [g_up_ne hr], fun k h3 h4 h5 h6 => by repeat rw [g_up_j (by assumption)], by rw [k3]; rfl, rfl, by rw [k5]; rfl, fun z => by rw [k2]; rfl⟩
    · have hin : inB (nI (a (tS a n p))) 48 57 = false := by rw [inB_nI (by have := ha (tS a n p); omega)]; exact decide_eq_false hd
      refine ep_aln t47_26 rfl ?_
      refine ep_aln t47_27 rfl ?_
      refine ep_get t47_28 rfl (Nat.le_of_ble_eq_true rfl) rfl ?_
      refine ep_val (b := nI (tS a n p)) (rfl) ?_
      refine ep_put t47_31 rfl (Nat.le_of_ble_eq_true rfl) rfl ?_
      refine ep_aln t47_34 rfl ?_
      refine ep_aln t47_35 rfl ?_
      refine ep_get t47_36 rfl (Nat.le_of_ble_eq_true rfl) rfl ?_
      refine ep_val (b := nI (tS a n p)) (rfl) ?_
      refine ep_cv t47_39 rfl rfl (Nat.le_of_ble_eq_true rfl) (Nat.le_of_ble_eq_true rfl) (cl_M_let_in hn (hx.fr rfl rfl) (by omega) (by omega)) ?_
      refine ep_isn (L' := [some (.ref 31), some (.int (nI (a (tS a n p))))]) t47_42 rfl (Nat.le_of_ble_eq_true rfl) ?_
      refine ep_iln t47_43 rfl ?_
      refine ep_if0P t47_44 (ic0_ge (by have := ha (tS a n p); omega)) (fun (c44 : 0 ≤ (a (tS a n p))) => ?_) (fun (c44 : ¬ (0 ≤ (a (tS a n p)))) => (by exact absurd (Nat.zero_le _) c44))
      refine ep_iln t47_55 rfl ?_
      refine ep_k2 (w := nI 48) t47_56 rfl ?_
      refine ep_k2 (w := nI 57) t47_58 rfl ?_
      refine ep_cs t47_60 (Nat.ne_of_beq_eq_false rfl) rfl (Nat.le_of_ble_eq_true rfl) (cl_M_inB _ (by decide) (by decide)) ?_
      refine ep_bF t47_63 (fun (c63 : (inB (nI (a (tS a n p))) 48 57) = false) => ?_) (fun (c63 : (inB (nI (a (tS a n p))) 48 57) = true) => (by exact absurd c63 (by rw [hin]; decide)))
      refine ep_aln t47_181 rfl ?_
      refine ep_dup t47_182 rfl ?_
      refine ep_get t47_183 rfl (Nat.le_of_ble_eq_true rfl) rfl ?_
      refine ep_val (b := nI (tS a n p)) (rfl) ?_
      refine ep_k1 (w := nI 1) t47_186 rfl ?_
      refine ep_addN (a := tS a n p) (b := 1) t47_187 ?_
      refine ep_put t47_188 rfl (Nat.le_of_ble_eq_true rfl) rfl ?_
      refine ep_aln t47_191 rfl ?_
      refine ep_iln t47_192 rfl ?_
      refine ep_put t47_193 rfl (Nat.le_of_ble_eq_true rfl) rfl ?_
      refine ep_aln t47_196 rfl ?_
      refine ep_iln t47_197 rfl ?_
      refine ep_k2 (w := nI 59) t47_198 rfl ?_
      refine ep_ifP t47_200 (ic_ne (by have := ha (tS a n p); omega) (by have := ha (tS a n p); omega)) (fun (c200 : ¬ (a (tS a n p)) = 59) => ?_) (fun (c200 : ¬ (¬ (a (tS a n p)) = 59)) => ?_)
      · refine ep_iln t47_207 rfl ?_
        refine ep_k2 (w := nI 97) t47_208 rfl ?_
        refine ep_k2 (w := nI 122) t47_210 rfl ?_
        refine ep_cs t47_212 (Nat.ne_of_beq_eq_false rfl) rfl (Nat.le_of_ble_eq_true rfl) (cl_M_inB _ (by decide) (by decide)) ?_
        refine ep_bF t47_215 (fun (c215 : (inB (nI (a (tS a n p))) 97 122) = false) => ?_) (fun (c215 : (inB (nI (a (tS a n p))) 97 122) = true) => ?_)
        · refine ep_k1 (w := nI 4) t47_222 rfl ?_
          refine ep_put t47_223 rfl (Nat.le_of_ble_eq_true rfl) rfl ?_
          refine ep_rv t47_226 ?_
          obtain ⟨k1, k2, k3⟩ := tk_let (a := a) (n := n) (p := p) (by omega) hd
          have k4 : tLk (a (tS a n p)) = 4 := (if_neg c200).trans (if_neg (by rw [inB_nI (by have := ha (tS a n p); omega)] at c215; exact of_decide_eq_false c215))
          have k5 := k1.trans k4
          exact ⟨rfl, _, rfl, fun r hr => by repeat rw [g_up_ne hr], fun k h3 h4 h5 h6 => by repeat rw [g_up_j (by assumption)], by rw [k3]; rfl, rfl, by rw [k5]; rfl, fun z => by rw [k2]; rfl⟩
        · refine ep_k1 (w := nI 1) t47_218 rfl ?_
          refine ep_gt t47_219 ?_
          refine ep_put t47_223 rfl (Nat.le_of_ble_eq_true rfl) rfl ?_
          refine ep_rv t47_226 ?_
          obtain ⟨k1, k2, k3⟩ := tk_let (a := a) (n := n) (p := p) (by omega) hd
          have k4 : tLk (a (tS a n p)) = 1 := (if_neg c200).trans (if_pos (by rw [inB_nI (by have := ha (tS a n p); omega)] at c215; exact of_decide_eq_true c215))
          have k5 := k1.trans k4
          exact ⟨rfl, _, rfl, fun r hr => by repeat rw [g_up_ne hr], fun k h3 h4 h5 h6 => by repeat rw [g_up_j (by assumption)], by rw [k3]; rfl, rfl, by rw [k5]; rfl, fun z => by rw [k2]; rfl⟩
      · refine ep_k1 (w := nI 3) t47_203 rfl ?_
        refine ep_gt t47_204 ?_
        refine ep_put t47_223 rfl (Nat.le_of_ble_eq_true rfl) rfl ?_
        refine ep_rv t47_226 ?_
        obtain ⟨k1, k2, k3⟩ := tk_let (a := a) (n := n) (p := p) (by omega) hd
        have k4 : tLk (a (tS a n p)) = 3 := if_pos (Classical.byContradiction c200)
        have k5 := k1.trans k4
        exact ⟨rfl, _, rfl, fun r hr => by repeat rw [g_up_ne hr], fun k h3 h4 h5 h6 => by repeat rw [g_up_j (by assumption)], by rw [k3]; rfl, rfl, by rw [k5]; rfl, fun z => by rw [k2]; rfl⟩
  · refine ep_aln t47_26 rfl ?_
    refine ep_aln t47_27 rfl ?_
    refine ep_get t47_28 rfl (Nat.le_of_ble_eq_true rfl) rfl ?_
    refine ep_val (b := nI (tS a n p)) (rfl) ?_
    refine ep_put t47_31 rfl (Nat.le_of_ble_eq_true rfl) rfl ?_
    refine ep_aln t47_34 rfl ?_
    refine ep_aln t47_35 rfl ?_
    refine ep_get t47_36 rfl (Nat.le_of_ble_eq_true rfl) rfl ?_
    refine ep_val (b := nI (tS a n p)) (rfl) ?_
    refine ep_cv t47_39 rfl rfl (Nat.le_of_ble_eq_true rfl) (Nat.le_of_ble_eq_true rfl) (cl_M_let_out hn (hx.fr rfl rfl) (by omega) (by omega)) ?_
    refine ep_isn (L' := [some (.ref 31), some (.int ((-1)))]) t47_42 rfl (Nat.le_of_ble_eq_true rfl) ?_
    refine ep_iln t47_43 rfl ?_
    refine ep_if0 t47_44 (fun (c44 : 0 ≤ ((-1))) => (by exact absurd c44 (by decide))) (fun (c44 : ¬ (0 ≤ ((-1)))) => ?_)
    refine ep_aln t47_47 rfl ?_
    refine ep_k1 (w := nI 0) t47_48 rfl ?_
    refine ep_put t47_49 rfl (Nat.le_of_ble_eq_true rfl) rfl ?_
    refine ep_gt t47_52 ?_
    refine ep_rv t47_226 ?_
    obtain ⟨k1, k2⟩ := tk_end (a := a) (n := n) (p := p) (by omega)
    exact ⟨rfl, _, rfl, fun r hr => by repeat rw [g_up_ne hr], fun k h3 h4 h5 h6 => by repeat rw [g_up_j (by assumption)], by rw [k2]; rfl, rfl, by rw [k1]; rfl, fun z => absurd z (by rw [k1]; decide)⟩

theorem cl_M_well_f {X : gX} {q : Bool} {σ : gT1} {f : Nat} (hf : f ≤ 120) (e7 : σ 31 7 = nI f) : Cl X 48 [.ref 31] (47, g_rho q, σ) (some (.int (bI false))) (47, g_rho q, σ) := by
  refine Cl.of ⟨Nat.le_of_ble_eq_true rfl, rfl⟩ ?_
  show EvP X 48 0 [some (.ref 31)] [] (47, g_rho q, σ) _
  refine ep_aln t48_0 rfl ?_
  refine ep_get t48_1 rfl (Nat.le_of_ble_eq_true rfl) rfl ?_
  refine ep_val (b := nI f) (e7) ?_
  refine ep_if0P t48_4 (ic0_ge (by omega)) (fun (c4 : 0 ≤ f) => ?_) (fun (c4 : ¬ (0 ≤ f)) => (by exact absurd (Nat.zero_le _) c4))
  refine ep_k1 (w := nI 0) t48_11 rfl ?_
  refine ep_ri t48_12 (fun _ => rfl) ?_
  exact ⟨rfl, rfl⟩

theorem cl_M_well {X : gX} {q : Bool} {σ : gT1} (e7 : σ 31 7 = -1) : Cl X 48 [.ref 31] (47, g_rho q, σ) (some (.int (bI true))) (47, g_rho q, σ) := by
  refine Cl.of ⟨Nat.le_of_ble_eq_true rfl, rfl⟩ ?_
  show EvP X 48 0 [some (.ref 31)] [] (47, g_rho q, σ) _
  refine ep_aln t48_0 rfl ?_
  refine ep_get t48_1 rfl (Nat.le_of_ble_eq_true rfl) rfl ?_
  refine ep_val (b := (-1)) (e7) ?_
  refine ep_if0 t48_4 (fun (c4 : 0 ≤ ((-1))) => (by exact absurd c4 (by decide))) (fun (c4 : ¬ (0 ≤ ((-1)))) => ?_)
  refine ep_k1 (w := nI 1) t48_7 rfl ?_
  refine ep_gt t48_8 ?_
  refine ep_ri t48_12 (fun _ => rfl) ?_
  exact ⟨rfl, rfl⟩

theorem cl_M_takes_f {X : gX} {q : Bool} {σ : gT1} {f : Nat} {b : Int32} (hf : f ≤ 120) (e7 : σ 31 7 = nI f) : Cl X 50 [.ref 31, .int b] (47, g_rho q, σ) (some (.int (nI 0))) (47, g_rho q, σ) := by
  refine Cl.of ⟨Nat.le_of_ble_eq_true rfl, rfl⟩ ?_
  show EvP X 50 0 [some (.ref 31), some (.int b), none] [] (47, g_rho q, σ) _
  refine ep_aln t50_0 rfl ?_
  refine ep_cv t50_1 rfl rfl (Nat.le_of_ble_eq_true rfl) (Nat.le_of_ble_eq_true rfl) (cl_M_well_f hf e7) ?_
  refine ep_bT t50_4 (fun (c4 : false = true) => (by exact absurd c4 (by decide))) (fun (c4 : false = false) => ?_)
  refine ep_k1 (w := nI 0) t50_7 rfl ?_
  refine ep_ri t50_8 (fun h => absurd h (by decide)) ?_
  exact ⟨rfl, rfl⟩

theorem cl_M_takes_no {X : gX} {q : Bool} {σ : gT1} (e7 : σ 31 7 = -1) : Cl X 50 [.ref 31, .int (bI false)] (47, g_rho q, σ) (some (.int (nI 0))) (47, g_rho q, g_up σ 31 7 (σ 31 5)) := by
  refine Cl.of ⟨Nat.le_of_ble_eq_true rfl, rfl⟩ ?_
  show EvP X 50 0 [some (.ref 31), some (.int (bI false)), none] [] (47, g_rho q, σ) _
  refine ep_aln t50_0 rfl ?_
  refine ep_cv t50_1 rfl rfl (Nat.le_of_ble_eq_true rfl) (Nat.le_of_ble_eq_true rfl) (cl_M_well e7) ?_
  refine ep_bT t50_4 (fun (c4 : true = true) => ?_) (fun (c4 : true = false) => (by exact absurd c4 (by decide)))
  refine ep_iln t50_9 rfl ?_
  refine ep_bT t50_10 (fun (c10 : false = true) => (by exact absurd c10 (by decide))) (fun (c10 : false = false) => ?_)
  refine ep_aln t50_13 rfl ?_
  refine ep_aln t50_14 rfl ?_
  refine ep_get t50_15 rfl (Nat.le_of_ble_eq_true rfl) rfl ?_
  refine ep_put t50_18 rfl (Nat.le_of_ble_eq_true rfl) rfl ?_
  refine ep_k1 (w := nI 0) t50_21 rfl ?_
  refine ep_ri t50_22 (fun h => absurd h (by decide)) ?_
  exact ⟨rfl, rfl⟩

theorem cl_M_takes_yes {X : gX} {q : Bool} {σ : gT1} {a : Nat → Nat} {n : Nat} (ha : ∀ j, a j < 256) (hn : n ≤ 120) (hx : TxM σ a n) {p : Nat} (hp : p ≤ n) (e3 : σ 31 3 = nI p) (e7 : σ 31 7 = -1) : ClP X 50 [.ref 31, .int (bI true)] (47, g_rho q, σ) (fun v g1 => ∃ σ1, v = some (.int (σ 31 6)) ∧ g1 = (47, g_rho q, σ1) ∧ (∀ r, r ≠ 31 → σ1 r = σ r) ∧ (∀ k, k ≠ 3 → k ≠ 4 → k ≠ 5 → k ≠ 6 → σ1 31 k = σ 31 k) ∧ TokM σ1 a n p) := by
  refine ClP.of ⟨Nat.le_of_ble_eq_true rfl, rfl⟩ ?_
  show EvP X 50 0 [some (.ref 31), some (.int (bI true)), none] [] (47, g_rho q, σ) _
  refine ep_aln t50_0 rfl ?_
  refine ep_cv t50_1 rfl rfl (Nat.le_of_ble_eq_true rfl) (Nat.le_of_ble_eq_true rfl) (cl_M_well e7) ?_
  refine ep_bT t50_4 (fun (c4 : true = true) => ?_) (fun (c4 : true = false) => (by exact absurd c4 (by decide)))
  refine ep_iln t50_9 rfl ?_
  refine ep_bT t50_10 (fun (c10 : true = true) => ?_) (fun (c10 : true = false) => (by exact absurd c10 (by decide)))
  refine ep_aln t50_23 rfl ?_
  refine ep_get t50_24 rfl (Nat.le_of_ble_eq_true rfl) rfl ?_
  refine ep_isn (L' := [some (.ref 31), some (.int (bI true)), some (.int (σ 31 6))]) t50_27 rfl (Nat.le_of_ble_eq_true rfl) ?_
  refine ep_aln t50_28 rfl ?_
  obtain ⟨v9, g9, h9, rfl, σ1, rfl, m1, m2, m3⟩ := cl_M_advances (X := X) (q := q) (σ := σ) (a := a) (n := n) (p := p) ha hn hx hp e3
  refine ep_cv t50_29 rfl rfl (Nat.le_of_ble_eq_true rfl) (Nat.le_of_ble_eq_true rfl) (h9) ?_
  refine ep_iln t50_32 rfl ?_
  refine ep_ri t50_33 (fun h => absurd h (by decide)) ?_
  exact ⟨σ1, rfl, rfl, m1, m2, m3⟩

theorem cl_M_isNumber {X : gX} {q : Bool} {σ : gT1} {a : Nat → Nat} {n p lo hi : Nat} (hp : p ≤ n) (ht : TokM σ a n p) (hlo : lo < 100) (hhi : hi < 100) : Cl X 51 [.ref 31, .int (nI lo), .int (nI hi)] (47, g_rho q, σ) (some (.int (bI (decide (tK a n p = 2 ∧ lo ≤ tV a n p ∧ tV a n p ≤ hi))))) (47, g_rho q, σ) := by
  have hk4 := (tk_all (a := a) hp).2.2.2.2
  refine Cl.of ⟨Nat.le_of_ble_eq_true rfl, rfl⟩ ?_
  show EvP X 51 0 [some (.ref 31), some (.int (nI lo)), some (.int (nI hi))] [] (47, g_rho q, σ) _
  refine ep_aln t51_0 rfl ?_
  refine ep_get t51_1 rfl (Nat.le_of_ble_eq_true rfl) rfl ?_
  refine ep_val (b := nI (tK a n p)) (ht.2.2.1) ?_
  refine ep_k1 (w := nI 2) t51_4 rfl ?_
  refine ep_ifP t51_5 (ic_ne (by omega) (by omega)) (fun (c5 : ¬ (tK a n p) = 2) => ?_) (fun (c5 : ¬ (¬ (tK a n p) = 2)) => ?_)
  · refine ep_k1 (w := nI 0) t51_24 rfl ?_
    refine ep_ri t51_25 (fun _ => rfl) ?_
    refine ⟨?_, rfl⟩
    have e : decide (tK a n p = 2 ∧ lo ≤ tV a n p ∧ tV a n p ≤ hi) = false := decide_eq_false (fun h => by
      have hv := (tk_all (a := a) hp).2.2.2.1 h.1
      first
      | exact c5 h.1
      | (rw [inB_nI (by omega)] at c17; exact of_decide_eq_false c17 h.2))
    rw [e]
    rfl
  · refine ep_aln t51_8 rfl ?_
    refine ep_get t51_9 rfl (Nat.le_of_ble_eq_true rfl) rfl ?_
    refine ep_val (b := nI (tV a n p)) (ht.2.2.2 (Or.inr (Classical.byContradiction c5))) ?_
    refine ep_iln t51_12 rfl ?_
    refine ep_iln t51_13 rfl ?_
    refine ep_cs t51_14 (Nat.ne_of_beq_eq_false rfl) rfl (Nat.le_of_ble_eq_true rfl) (cl_M_inB _ (by omega) (by omega)) ?_
    refine ep_bF t51_17 (fun (c17 : (inB (nI (tV a n p)) lo hi) = false) => ?_) (fun (c17 : (inB (nI (tV a n p)) lo hi) = true) => ?_)
    · refine ep_k1 (w := nI 0) t51_24 rfl ?_
      refine ep_ri t51_25 (fun _ => rfl) ?_
      refine ⟨?_, rfl⟩
      have e : decide (tK a n p = 2 ∧ lo ≤ tV a n p ∧ tV a n p ≤ hi) = false := decide_eq_false (fun h => by
        have hv := (tk_all (a := a) hp).2.2.2.1 h.1
        first
        | exact c5 h.1
        | (rw [inB_nI (by omega)] at c17; exact of_decide_eq_false c17 h.2))
      rw [e]
      rfl
    · refine ep_k1 (w := nI 1) t51_20 rfl ?_
      refine ep_gt t51_21 ?_
      refine ep_ri t51_25 (fun _ => rfl) ?_
      refine ⟨?_, rfl⟩
      have e : decide (tK a n p = 2 ∧ lo ≤ tV a n p ∧ tV a n p ≤ hi) = true := decide_eq_true ⟨Classical.byContradiction c5, by have hv := (tk_all (a := a) hp).2.2.2.1 (Classical.byContradiction c5); rw [inB_nI (by omega)] at c17; exact of_decide_eq_true c17⟩
      rw [e]
      rfl

