/-! Pair goes. -/
def cs (ord : Nat → Nat) (c : Nat) : Nat → Nat
  | 0 => c
  | i + 1 => cs ord c i ^^^ 2 ^ ord i
theorem NetC.mv {σ σ' : gT1} {T : Nat → Nat} {q : Bool} (h : NetC σ (np q) T) (a : ∀ r, 7 ≤ r → r ≤ 24 → σ' r = σ r) : NetC σ' (np q) T := by
  have hp : 7 ≤ np q ∧ np q ≤ 16 := by cases q <;> decide
  unfold NetC at *
  rw [a (np q) (by omega) (by omega), a (np q + 1) (by omega) (by omega), a (np q + 2) (by omega) (by omega), a (np q + 3) (by omega) (by omega), a (np q + 4) (by omega) (by omega), a (np q + 5) (by omega) (by omega), a (np q + 6) (by omega) (by omega), a (np q + 7) (by omega) (by omega)]
  exact h
def GoOK (T : Nat → Nat) (l c n : Nat) (ord : Nat → Nat) (m : Nat) : Prop := m ≤ n ∧ (cs ord c m < 2 ^ T 3 ∧ sound T (cs ord c m)) ∧ ∀ i, i < m → why T l (cs ord c i) (ord i) = 0
def GoEnd (T : Nat → Nat) (l c n : Nat) (ord : Nat → Nat) (m : Nat) : Prop := GoOK T l c n ord m ∧ (m = n ∨ ¬ why T l (cs ord c m) (ord m) = 0)
theorem GoEnd.one {T : Nat → Nat} {l c n m m' : Nat} {ord : Nat → Nat} (h : GoEnd T l c n ord m) (h' : GoEnd T l c n ord m') : m = m' := by
  rcases Nat.lt_trichotomy m m' with g | g | g
  · rcases h.2 with e | e
    · have := h'.1.1; omega
    · exact absurd (h'.1.2.2 m g) e
  · exact g
  · rcases h'.2 with e | e
    · have := h.1.1; omega
    · exact absurd (h.1.2.2 m' g) e
theorem GoOK.step {T : Nat → Nat} {l c n m : Nat} {ord : Nat → Nat} (h : GoOK T l c n ord m) (hm : m < n) (hk : ord m < T 3) (hz : why T l (cs ord c m) (ord m) = 0) : GoOK T l c n ord (m + 1) := ⟨hm, ⟨xor_lt h.2.1.1 hk, why_zero hz⟩, fun i hi => by
  by_cases e : i = m
  · subst e; exact hz
  · exact h.2.2 i (by omega)⟩
theorem L_gb {X : gX} {q : Bool} {σ : gT1} {T : Nat → Nat} {c l n : Nat} {ord : Nat → Nat} {P : Option Value → gS → Prop} (hw : WFT T) (hn : n ≤ 12) (hl : l < 2 ^ T 3) (hN : NetC σ (np q) T) (e5 : σ 0 5 = nI l) (e8 : σ 0 8 = nI n) (ho : ∀ j, j < n → ord j < T 3 ∧ σ 26 j = nI (ord j)) (K : ∀ (m : Nat) (σ' : gT1), (∀ r, r ≠ 0 → σ' r = σ r) → (∀ k, k ≠ 4 → σ' 0 k = σ 0 k) → σ' 0 4 = nI (cs ord c m) → GoEnd T l c n ord m → EvP X 106 73 [some (.ref 0), some (.int (nI m)), none] [] (47, g_rho q, σ') P) : ∀ (d m : Nat) (σ' : gT1), n < m + d → (∀ r, r ≠ 0 → σ' r = σ r) → (∀ k, k ≠ 4 → σ' 0 k = σ 0 k) → σ' 0 4 = nI (cs ord c m) → GoOK T l c n ord m → EvP X 106 29 [some (.ref 0), some (.int (nI m)), none] [] (47, g_rho q, σ') P
  | 0, m, σ', hk, h1, h2, h3, hg => by have := hg.1; omega
  | d + 1, m, σ', hk, h1, h2, h3, hg => by
    have hmn := hg.1
    refine ep_iln t106_29 rfl ?_
    refine ep_aln t106_30 rfl ?_
    refine ep_get t106_31 rfl (Nat.le_of_ble_eq_true rfl) rfl ?_
    refine ep_val (b := nI n) ((h2 8 (by decide)).trans e8) ?_
    refine ep_ifP t106_34 (ic_ge (by have := hw.2.2.1; have := why_le T l (cs ord c m) (ord m); omega) (by have := hw.2.2.1; have := why_le T l (cs ord c m) (ord m); omega)) (fun (c34 : n ≤ m) => ?_) (fun (c34 : ¬ (n ≤ m)) => ?_)
    · first
      | exact K m σ' h1 h2 h3 ⟨hg, Or.inl (by have := hg.1; omega)⟩
      | exact K m σ' h1 h2 h3 ⟨hg, Or.inr c47⟩
    · have hm : m < n := by omega
      have hok := (ho m hm).1
      refine ep_aln t106_37 rfl ?_
      refine ep_aln t106_38 rfl ?_
      refine ep_getr (q := 26) t106_39 rfl (Nat.le_of_ble_eq_true rfl) rfl (rfl) ?_
      refine ep_iln t106_42 rfl ?_
      refine ep_aldN t106_43 rfl (Nat.le_of_ble_eq_true rfl) (Nat.ne_of_beq_eq_false rfl) (Nat.le_of_ble_eq_true rfl) (by have := hw.2.2.1; have := why_le T l (cs ord c m) (ord m); omega) ?_
      refine ep_val (b := nI (ord m)) ((congrFun (h1 26 (by decide)) m).trans (ho m hm).2) ?_
      refine ep_cv t106_44 rfl rfl (Nat.le_of_ble_eq_true rfl) (Nat.le_of_ble_eq_true rfl) (cl_B_whyNot (T := T) (c := cs ord c m) (l := l) (hN.mv (fun r g1 g2 => h1 r (by omega))) hw.1.2 hw.2.2.1 hg.2.1.1 hl h3 ((h2 5 (by decide)).trans e5) hok) ?_
      refine ep_if0P t106_47 (ic0_ne (by have := hw.2.2.1; have := why_le T l (cs ord c m) (ord m); omega)) (fun (c47 : ¬ (why T l (cs ord c m) (ord m)) = 0) => ?_) (fun (c47 : ¬ (¬ (why T l (cs ord c m) (ord m)) = 0)) => ?_)
      · first
        | exact K m σ' h1 h2 h3 ⟨hg, Or.inl (by have := hg.1; omega)⟩
        | exact K m σ' h1 h2 h3 ⟨hg, Or.inr c47⟩
      · refine ep_aln t106_50 rfl ?_
        refine ep_dup t106_51 rfl ?_
        refine ep_get t106_52 rfl (Nat.le_of_ble_eq_true rfl) rfl ?_
        refine ep_val (b := nI (cs ord c m)) (h3) ?_
        refine ep_k1 (w := nI 1) t106_55 rfl ?_
        refine ep_aln t106_56 rfl ?_
        refine ep_getr (q := 26) t106_57 rfl (Nat.le_of_ble_eq_true rfl) rfl (rfl) ?_
        refine ep_iln t106_60 rfl ?_
        refine ep_aldN t106_61 rfl (Nat.le_of_ble_eq_true rfl) (Nat.ne_of_beq_eq_false rfl) (Nat.le_of_ble_eq_true rfl) (by have := hw.2.2.1; have := why_le T l (cs ord c m) (ord m); omega) ?_
        refine ep_val (b := nI (ord m)) ((congrFun (h1 26 (by decide)) m).trans (ho m hm).2) ?_
        refine ep_oneN (b := ord m) t106_62 (by have := hw.2.2.1; have := why_le T l (cs ord c m) (ord m); omega) ?_
        refine ep_xorN (a := cs ord c m) (b := 2 ^ (ord m)) t106_63 ?_
        refine ep_put t106_64 rfl (Nat.le_of_ble_eq_true rfl) rfl ?_
        refine ep_inc (b := nI (m + 1)) (L' := [some (.ref 0), some (.int (nI (m + 1))), none]) t106_67 rfl (nI_add m 1) rfl (Nat.le_of_ble_eq_true rfl) ?_
        refine ep_gt t106_70 ?_
        refine L_gb hw hn hl hN e5 e8 ho K d (m + 1) _ (by omega) (fun r hr => (g_up_ne hr).trans (h1 r hr)) (fun k hk => (g_up_j hk).trans (h2 k hk)) g_up_eq (hg.step hm hok (Classical.byContradiction c47))
theorem L_gs {X : gX} {q : Bool} {σ : gT1} {n m : Nat} {P : Option Value → gS → Prop} (hn : n ≤ 12) (hm : m ≤ n) (e8 : σ 0 8 = nI (n - m)) (K : ∀ σ' : gT1, (∀ r, r ≠ 26 → σ' r = σ r) → (∀ j, j < n - m → σ' 26 j = σ 26 (j + m)) → P (some (.int (nI m))) (47, g_rho q, σ')) : ∀ (d i : Nat) (σ' : gT1), i + d = n - m → (∀ r, r ≠ 26 → σ' r = σ r) → (∀ j, j < i → σ' 26 j = σ 26 (j + m)) → (∀ j, i ≤ j → σ' 26 j = σ 26 j) → EvP X 106 85 [some (.ref 0), some (.int (nI m)), some (.int (nI i))] [] (47, g_rho q, σ') P
  | 0, i, σ', hk, h1, h2, h3 => by
    obtain rfl : i = n - m := by omega
    refine ep_iln t106_85 rfl ?_
    refine ep_aln t106_86 rfl ?_
    refine ep_get t106_87 rfl (Nat.le_of_ble_eq_true rfl) rfl ?_
    refine ep_val (b := nI (n - m)) ((congrFun (h1 0 (by decide)) 8).trans e8) ?_
    refine ep_ifP t106_90 (ic_ge (by omega) (by omega)) (fun (c90 : (n - m) ≤ (n - m)) => ?_) (fun (c90 : ¬ ((n - m) ≤ (n - m))) => (by exact absurd (Nat.le_refl _) c90))
    refine ep_iln t106_113 rfl ?_
    refine ep_ri t106_114 (fun h => absurd h (by decide)) ?_
    exact K σ' h1 h2
  | d + 1, i, σ', hk, h1, h2, h3 => by
    refine ep_iln t106_85 rfl ?_
    refine ep_aln t106_86 rfl ?_
    refine ep_get t106_87 rfl (Nat.le_of_ble_eq_true rfl) rfl ?_
    refine ep_val (b := nI (n - m)) ((congrFun (h1 0 (by decide)) 8).trans e8) ?_
    refine ep_ifP t106_90 (ic_ge (by omega) (by omega)) (fun (c90 : (n - m) ≤ i) => (by omega)) (fun (c90 : ¬ ((n - m) ≤ i)) => ?_)
    refine ep_aln t106_93 rfl ?_
    refine ep_getr (q := 26) t106_94 rfl (Nat.le_of_ble_eq_true rfl) rfl (rfl) ?_
    refine ep_iln t106_97 rfl ?_
    refine ep_aln t106_98 rfl ?_
    refine ep_getr (q := 26) t106_99 rfl (Nat.le_of_ble_eq_true rfl) rfl (rfl) ?_
    refine ep_iln t106_102 rfl ?_
    refine ep_iln t106_103 rfl ?_
    refine ep_addN (a := i) (b := m) t106_104 ?_
    refine ep_aldN t106_105 rfl (Nat.le_of_ble_eq_true rfl) (Nat.ne_of_beq_eq_false rfl) (Nat.le_of_ble_eq_true rfl) (by omega) ?_
    refine ep_astN t106_106 rfl (Nat.le_of_ble_eq_true rfl) (Nat.le_of_ble_eq_true rfl) (by omega) ?_
    refine ep_inc (b := nI (i + 1)) (L' := [some (.ref 0), some (.int (nI m)), some (.int (nI (i + 1)))]) t106_107 rfl (nI_add i 1) rfl (Nat.le_of_ble_eq_true rfl) ?_
    refine ep_gt t106_110 ?_
    refine L_gs hn hm e8 K d (i + 1) _ (by omega) (fun r hr => (g_up_ne hr).trans (h1 r hr)) (fun j hj => ?_) (fun j hj => ?_)
    · by_cases e : j = i
      · subst e; rw [g_up_eq, h3 (j + m) (by omega)]
      · rw [g_up_j e]; exact h2 j (by omega)
    · rw [g_up_j (by omega)]; exact h3 j (by omega)
theorem L_gm {X : gX} {q : Bool} {σ : gT1} {T : Nat → Nat} {c l n : Nat} {ord : Nat → Nat} {P : Option Value → gS → Prop} (hw : WFT T) (hn : n ≤ 12) (hl : l < 2 ^ T 3) (hT : ToldM (σ 33) T) (e1 : σ 36 1 = nI l) (e17 : σ 31 17 = nI n) (ho : ∀ j, j < n → ord j < T 3 ∧ σ 40 j = nI (ord j)) (K : ∀ (m : Nat) (σ' : gT1), (∀ r, r ≠ 36 → r ≠ 43 → σ' r = σ r) → (∀ k, k ≠ 0 → σ' 36 k = σ 36 k) → σ' 36 0 = nI (cs ord c m) → GoEnd T l c n ord m → EvP X 107 90 [some (.ref 31), some (.int (nI m)), none] [] (47, g_rho q, σ') P) : ∀ (d m : Nat) (σ' : gT1), n < m + d → (∀ r, r ≠ 36 → r ≠ 43 → σ' r = σ r) → (∀ k, k ≠ 0 → σ' 36 k = σ 36 k) → σ' 36 0 = nI (cs ord c m) → GoOK T l c n ord m → EvP X 107 40 [some (.ref 31), some (.int (nI m)), none] [] (47, g_rho q, σ') P
  | 0, m, σ', hk, h1, h2, h3, hg => by have := hg.1; omega
  | d + 1, m, σ', hk, h1, h2, h3, hg => by
    have hmn := hg.1
    have hx0 : (2 : Nat) ^ T 0 ≤ 256 := pow_le_256 (by have := hw.1.2; omega)
    have hx3 : (2 : Nat) ^ T 3 ≤ 256 := pow_le_256 hw.2.2.1
    refine ep_iln t107_40 rfl ?_
    refine ep_aln t107_41 rfl ?_
    refine ep_get t107_42 rfl (Nat.le_of_ble_eq_true rfl) rfl ?_
    refine ep_val (b := nI n) ((congrFun (h1 31 (by decide) (by decide)) 17).trans e17) ?_
    refine ep_ifP t107_45 (ic_ge (by have := hw.2.2.1; have := why_le T l (cs ord c m) (ord m); omega) (by have := hw.2.2.1; have := why_le T l (cs ord c m) (ord m); omega)) (fun (c45 : n ≤ m) => ?_) (fun (c45 : ¬ (n ≤ m)) => ?_)
    · exact K m σ' h1 h2 h3 ⟨hg, Or.inl (by have := hg.1; omega)⟩
    · have hm : m < n := by omega
      have hok := (ho m hm).1
      refine ep_aln t107_48 rfl ?_
      refine ep_aln t107_49 rfl ?_
      refine ep_getr (q := 40) t107_50 rfl (Nat.le_of_ble_eq_true rfl) rfl (rfl) ?_
      refine ep_iln t107_53 rfl ?_
      refine ep_aldN t107_54 rfl (Nat.le_of_ble_eq_true rfl) (Nat.ne_of_beq_eq_false rfl) (Nat.le_of_ble_eq_true rfl) (by have := hw.2.2.1; have := why_le T l (cs ord c m) (ord m); omega) ?_
      refine ep_val (b := nI (ord m)) ((congrFun (h1 40 (by decide) (by decide)) m).trans (ho m hm).2) ?_
      refine ep_aln t107_55 rfl ?_
      refine ep_getr (q := 36) t107_56 rfl (Nat.le_of_ble_eq_true rfl) rfl (rfl) ?_
      refine ep_k1 (w := nI 0) t107_59 rfl ?_
      refine ep_aldN t107_60 rfl (Nat.le_of_ble_eq_true rfl) (Nat.ne_of_beq_eq_false rfl) (Nat.le_of_ble_eq_true rfl) (by have := hw.2.2.1; have := why_le T l (cs ord c m) (ord m); omega) ?_
      refine ep_val (b := nI (cs ord c m)) (h3) ?_
      obtain ⟨v9, g9, hm9, σw, rfl, rfl, m1⟩ := cl_M_whyNot (X := X) (q := q) (σ := σ') (T := T) (c := cs ord c m) (l := l) (k := ord m) (by rw [h1 33 (by decide) (by decide)]; exact hT) hw.w0 (by have := hw.2.1.1; omega) (by have := hw.2.1.2; omega) ((h2 1 (by decide)).trans e1) (by omega) hg.2.1.1 hok
      refine ep_cv t107_61 rfl rfl (Nat.le_of_ble_eq_true rfl) (Nat.le_of_ble_eq_true rfl) (hm9) ?_
      refine ep_if0P t107_64 (ic0_ne (by have := hw.2.2.1; have := why_le T l (cs ord c m) (ord m); omega)) (fun (c64 : ¬ (why T l (cs ord c m) (ord m)) = 0) => ?_) (fun (c64 : ¬ (¬ (why T l (cs ord c m) (ord m)) = 0)) => ?_)
      · exact K m σw (fun r g1 g2 => (m1 r g2).trans (h1 r g1 g2)) (fun k hk => (congrFun (m1 36 (by decide)) k).trans (h2 k hk)) ((congrFun (m1 36 (by decide)) 0).trans h3) ⟨hg, Or.inr c64⟩
      · refine ep_aln t107_67 rfl ?_
        refine ep_getr (q := 36) t107_68 rfl (Nat.le_of_ble_eq_true rfl) rfl (rfl) ?_
        refine ep_k1 (w := nI 0) t107_71 rfl ?_
        refine ep_dup2 t107_72 rfl rfl ?_
        refine ep_aldN t107_73 rfl (Nat.le_of_ble_eq_true rfl) (Nat.ne_of_beq_eq_false rfl) (Nat.le_of_ble_eq_true rfl) (by have := hw.2.2.1; have := why_le T l (cs ord c m) (ord m); omega) ?_
        refine ep_val (b := nI (cs ord c m)) ((congrFun (m1 36 (by decide)) 0).trans h3) ?_
        refine ep_k1 (w := nI 1) t107_74 rfl ?_
        refine ep_aln t107_75 rfl ?_
        refine ep_getr (q := 40) t107_76 rfl (Nat.le_of_ble_eq_true rfl) rfl (rfl) ?_
        refine ep_iln t107_79 rfl ?_
        refine ep_aldN t107_80 rfl (Nat.le_of_ble_eq_true rfl) (Nat.ne_of_beq_eq_false rfl) (Nat.le_of_ble_eq_true rfl) (by have := hw.2.2.1; have := why_le T l (cs ord c m) (ord m); omega) ?_
        refine ep_val (b := nI (ord m)) ((congrFun (m1 40 (by decide)) m).trans ((congrFun (h1 40 (by decide) (by decide)) m).trans (ho m hm).2)) ?_
        refine ep_oneN (b := ord m) t107_81 (by have := hw.2.2.1; have := why_le T l (cs ord c m) (ord m); omega) ?_
        refine ep_xorN (a := cs ord c m) (b := 2 ^ (ord m)) t107_82 ?_
        refine ep_astN t107_83 rfl (Nat.le_of_ble_eq_true rfl) (Nat.le_of_ble_eq_true rfl) (by have := hw.2.2.1; have := why_le T l (cs ord c m) (ord m); omega) ?_
        refine ep_inc (b := nI (m + 1)) (L' := [some (.ref 31), some (.int (nI (m + 1))), none]) t107_84 rfl (nI_add m 1) rfl (Nat.le_of_ble_eq_true rfl) ?_
        refine ep_gt t107_87 ?_
        refine L_gm hw hn hl hT e1 e17 ho K d (m + 1) _ (by omega) (fun r g1 g2 => (g_up_ne g1).trans ((m1 r g2).trans (h1 r g1 g2))) (fun k hk => (g_up_j hk).trans ((congrFun (m1 36 (by decide)) k).trans (h2 k hk))) g_up_eq (hg.step hm hok (Classical.byContradiction c64))
theorem L_gt {X : gX} {q : Bool} {σ : gT1} {n m : Nat} {P : Option Value → gS → Prop} (hn : n ≤ 12) (hm : m ≤ n) (e17 : σ 31 17 = nI n) (K : ∀ σ' : gT1, (∀ r, r ≠ 40 → σ' r = σ r) → (∀ j, j < n - m → σ' 40 j = σ 40 (j + m)) → EvP X 107 120 [some (.ref 31), some (.int (nI m)), some (.int (nI n))] [] (47, g_rho q, σ') P) : ∀ (d k : Nat) (σ' : gT1), k + d = n → m ≤ k → (∀ r, r ≠ 40 → σ' r = σ r) → (∀ j, j < k - m → σ' 40 j = σ 40 (j + m)) → (∀ j, k ≤ j → σ' 40 j = σ 40 j) → EvP X 107 92 [some (.ref 31), some (.int (nI m)), some (.int (nI k))] [] (47, g_rho q, σ') P
  | 0, k, σ', hk, hkm, h1, h2, h3 => by
    obtain rfl : n = k := by omega
    refine ep_iln t107_92 rfl ?_
    refine ep_aln t107_93 rfl ?_
    refine ep_get t107_94 rfl (Nat.le_of_ble_eq_true rfl) rfl ?_
    refine ep_val (b := nI n) ((congrFun (h1 31 (by decide)) 17).trans e17) ?_
    refine ep_ifP t107_97 (ic_ge (by omega) (by omega)) (fun (c97 : n ≤ n) => ?_) (fun (c97 : ¬ (n ≤ n)) => (by exact absurd (Nat.le_refl _) c97))
    exact K σ' h1 h2
  | d + 1, k, σ', hk, hkm, h1, h2, h3 => by
    refine ep_iln t107_92 rfl ?_
    refine ep_aln t107_93 rfl ?_
    refine ep_get t107_94 rfl (Nat.le_of_ble_eq_true rfl) rfl ?_
    refine ep_val (b := nI n) ((congrFun (h1 31 (by decide)) 17).trans e17) ?_
    refine ep_ifP t107_97 (ic_ge (by omega) (by omega)) (fun (c97 : n ≤ k) => (by omega)) (fun (c97 : ¬ (n ≤ k)) => ?_)
    refine ep_aln t107_100 rfl ?_
    refine ep_getr (q := 40) t107_101 rfl (Nat.le_of_ble_eq_true rfl) rfl (rfl) ?_
    refine ep_iln t107_104 rfl ?_
    refine ep_iln t107_105 rfl ?_
    refine ep_subN (a := k) (b := m) t107_106 (by omega) ?_
    refine ep_aln t107_107 rfl ?_
    refine ep_getr (q := 40) t107_108 rfl (Nat.le_of_ble_eq_true rfl) rfl (rfl) ?_
    refine ep_iln t107_111 rfl ?_
    refine ep_aldN t107_112 rfl (Nat.le_of_ble_eq_true rfl) (Nat.ne_of_beq_eq_false rfl) (Nat.le_of_ble_eq_true rfl) (by omega) ?_
    refine ep_astN t107_113 rfl (Nat.le_of_ble_eq_true rfl) (Nat.le_of_ble_eq_true rfl) (by omega) ?_
    refine ep_inc (b := nI (k + 1)) (L' := [some (.ref 31), some (.int (nI m)), some (.int (nI (k + 1)))]) t107_114 rfl (nI_add k 1) rfl (Nat.le_of_ble_eq_true rfl) ?_
    refine ep_gt t107_117 ?_
    refine L_gt hn hm e17 K d (k + 1) _ (by omega) (by omega) (fun r hr => (g_up_ne hr).trans (h1 r hr)) (fun j hj => ?_) (fun j hj => ?_)
    · by_cases e : j = k - m
      · subst e; rw [g_up_eq, h3 k (Nat.le_refl _)]; congr 1; omega
      · rw [g_up_j e]; exact h2 j (by omega)
    · rw [g_up_j (by omega)]; exact h3 j (by omega)
theorem pr_goes {X : gX} {q : Bool} {σ : gT1} (hR : Rel q σ) : Pair X 106 107 [] q σ := by
  have hR0 := hR
  obtain ⟨T, c, l, pr, hN, hW, hT, hO, hU, hI, hS⟩ := hR
  obtain ⟨⟨hwf0, hwf1⟩, ⟨hwf2, hwf3⟩, hwf4, hwf5, hwf6⟩ := hN.1
  have hB3 : σ (np q) 3 = nI (T 3) := hN.2.1.1 3 (by decide)
  have hB0 : σ (np q) 0 = nI (T 0) := hN.2.1.1 0 (by decide)
  have hM3 : σ 33 3 = nI (T 3) := hN.2.2.1 3 (by decide)
  have hM0 : σ 33 0 = nI (T 0) := hN.2.2.1 0 (by decide)
  obtain ⟨hsn, e4, e5, e25, e36⟩ := id hW
  obtain ⟨hc, hl, hp0, hp1, hp2⟩ := hsn.lt hwf4
  obtain ⟨nu, hnu, hu1, hu2, hu3⟩ := id hU
  obtain ⟨n, hn, ho1, ho2, ho3⟩ := id hO
  have hw0 := hN.1.w0
  have hx2 := pow_le_256 hwf4
  have hx3 : (2 : Nat) ^ T 0 ≤ 256 := pow_le_256 (by omega)
  obtain ⟨ord, hord⟩ : ∃ ord : Nat → Nat, ∀ j, j < n → ord j < T 3 ∧ σ 26 j = nI (ord j) ∧ σ 40 j = nI (ord j) := by
    have h : ∀ j, ∃ k, j < n → k < T 3 ∧ σ 26 j = nI k ∧ σ 40 j = nI k := fun j => by
      by_cases hj : j < n
      · obtain ⟨k, hk⟩ := ho3 j hj
        exact ⟨k, fun _ => hk⟩
      · exact ⟨0, fun g => absurd g hj⟩
    exact ⟨fun j => Classical.choose (h j), fun j hj => Classical.choose_spec (h j) hj⟩
  have hwl := why_le T l c (ord 0)
  refine Pair.of (ClP.of ⟨Nat.le_of_ble_eq_true rfl, rfl⟩ ?_)
  show EvP X 106 0 [some (.ref 0), none, none] [] (47, g_rho q, σ) _
  refine ep_aln t106_0 rfl ?_
  refine ep_get t106_1 rfl (Nat.le_of_ble_eq_true rfl) rfl ?_
  refine ep_val (b := nI n) (ho1) ?_
  refine ep_if0P t106_4 (ic0_eq (by omega)) (fun (c4 : n = 0) => ?_) (fun (c4 : ¬ (n = 0)) => ?_)
  · refine ep_k2 (w := (-2)) t106_20 rfl ?_
    refine ep_ri t106_22 (fun h => absurd h (by decide)) ?_
    refine ⟨_, q, _, rfl, rfl, ClP.of ⟨Nat.le_of_ble_eq_true rfl, rfl⟩ ?_⟩
    show EvP X 107 0 [some (.ref 31), none, none] [] (47, g_rho q, σ) _
    refine ep_aln t107_0 rfl ?_
    refine ep_k1 (w := nI 0) t107_1 rfl ?_
    refine ep_put t107_2 rfl (Nat.le_of_ble_eq_true rfl) rfl ?_
    refine ep_aln t107_5 rfl ?_
    refine ep_get t107_6 rfl (Nat.le_of_ble_eq_true rfl) rfl ?_
    refine ep_val (b := nI n) (ho2) ?_
    refine ep_if0P t107_9 (ic0_eq (by omega)) (fun (c9 : n = 0) => ?_) (fun (c9 : ¬ (n = 0)) => ?_)
    · refine ep_k2 (w := (-2)) t107_31 rfl ?_
      refine ep_ri t107_33 (fun h => absurd h (by decide)) ?_
      exact ⟨_, rfl, rfl, hR0.thrown _⟩
    · refine ep_aln t107_12 rfl ?_
      refine ep_aln t107_13 rfl ?_
      refine ep_getr (q := 40) t107_14 rfl (Nat.le_of_ble_eq_true rfl) rfl (rfl) ?_
      refine ep_k1 (w := nI 0) t107_17 rfl ?_
      refine ep_aldN t107_18 rfl (Nat.le_of_ble_eq_true rfl) (Nat.ne_of_beq_eq_false rfl) (Nat.le_of_ble_eq_true rfl) (by omega) ?_
      refine ep_val (b := nI (ord 0)) ((hord 0 (by omega)).2.2) ?_
      refine ep_aln t107_19 rfl ?_
      refine ep_getr (q := 36) t107_20 rfl (Nat.le_of_ble_eq_true rfl) rfl (rfl) ?_
      refine ep_k1 (w := nI 0) t107_23 rfl ?_
      refine ep_aldN t107_24 rfl (Nat.le_of_ble_eq_true rfl) (Nat.ne_of_beq_eq_false rfl) (Nat.le_of_ble_eq_true rfl) (by omega) ?_
      refine ep_val (b := nI c) (e36 0 (by decide)) ?_
      obtain ⟨v9, g9, hm9, σw, rfl, rfl, m1⟩ := cl_M_whyNot (X := X) (q := q) (σ := g_up σ 31 0 (nI 0)) (T := T) (c := c) (l := l) (k := ord 0) hN.2.2 hw0 (by omega) (by omega) (e36 1 (by decide)) (by omega) hsn.1 (hord 0 (by omega)).1
      refine ep_cv t107_25 rfl rfl (Nat.le_of_ble_eq_true rfl) (Nat.le_of_ble_eq_true rfl) (hm9) ?_
      refine ep_if0P t107_28 (ic0_eq (by omega)) (fun (c28 : (why T l c (ord 0)) = 0) => (by first | exact absurd c28 c17 | omega)) (fun (c28 : ¬ ((why T l c (ord 0)) = 0)) => ?_)
      refine ep_k2 (w := (-2)) t107_31 rfl ?_
      refine ep_ri t107_33 (fun h => absurd h (by decide)) ?_
      exact ⟨_, rfl, rfl, (hR0.thrown _).scr1 m1⟩
  · refine ep_aln t106_7 rfl ?_
    refine ep_aln t106_8 rfl ?_
    refine ep_getr (q := 26) t106_9 rfl (Nat.le_of_ble_eq_true rfl) rfl (rfl) ?_
    refine ep_k1 (w := nI 0) t106_12 rfl ?_
    refine ep_aldN t106_13 rfl (Nat.le_of_ble_eq_true rfl) (Nat.ne_of_beq_eq_false rfl) (Nat.le_of_ble_eq_true rfl) (by omega) ?_
    refine ep_val (b := nI (ord 0)) ((hord 0 (by omega)).2.1) ?_
    refine ep_cv t106_14 rfl rfl (Nat.le_of_ble_eq_true rfl) (Nat.le_of_ble_eq_true rfl) (cl_B_whyNot (T := T) (c := c) (l := l) hN.2.1 hwf1 hwf4 hsn.1 hsn.2.1 e4 e5 (hord 0 (by omega)).1) ?_
    refine ep_if0P t106_17 (ic0_eq (by omega)) (fun (c17 : (why T l c (ord 0)) = 0) => ?_) (fun (c17 : ¬ ((why T l c (ord 0)) = 0)) => ?_)
    · refine ep_aln t106_23 rfl ?_
      obtain ⟨v1, g1, hb, rfl, σ1, rfl, f1, f2, f3, f4, f5⟩ := cl_B_remember (X := X) (q := q) (σ := σ) (n := nu) (c := c) (l := l) (pr := pr) hnu hu1 e4 e5 e25 hc hl hp0 hp1 hp2
      refine ep_cv t106_24 rfl rfl (Nat.le_of_ble_eq_true rfl) (Nat.le_of_ble_eq_true rfl) (hb) ?_
      refine ep_k1 (w := nI 0) t106_27 rfl ?_
      refine ep_isn (L' := [some (.ref 0), some (.int (nI 0)), none]) t106_28 rfl (Nat.le_of_ble_eq_true rfl) ?_
      have hg0 : GoOK T l c n ord 0 := ⟨by omega, ⟨hsn.1, hsn.2.2.1⟩, fun i hi => absurd hi (Nat.not_lt_zero i)⟩
      refine L_gb (σ := σ1) (c := c) (l := l) (n := n) (ord := ord) hN.1 hn hsn.2.1 (hN.2.1.mv (fun r g1 g2 => f1 r (by omega) (by omega))) ((f2 5 (by decide)).trans e5) ((f2 8 (by decide)).trans ho1) (fun j hj => ⟨(hord j hj).1, (congrFun (f1 26 (by decide) (by decide)) j).trans (hord j hj).2.1⟩) (fun m σ2 b1 b2 b3 hend => ?_) (n + 1) 0 σ1 (by omega) (fun _ _ => rfl) (fun _ _ => rfl) ((f2 4 (by decide)).trans e4) hg0
      have hmn := hend.1.1
      refine ep_aln t106_73 rfl ?_
      refine ep_dup t106_74 rfl ?_
      refine ep_get t106_75 rfl (Nat.le_of_ble_eq_true rfl) rfl ?_
      refine ep_val (b := nI n) ((b2 8 (by decide)).trans ((f2 8 (by decide)).trans ho1)) ?_
      refine ep_iln t106_78 rfl ?_
      refine ep_subN (a := n) (b := m) t106_79 (by omega) ?_
      refine ep_put t106_80 rfl (Nat.le_of_ble_eq_true rfl) rfl ?_
      refine ep_k1 (w := nI 0) t106_83 rfl ?_
      refine ep_isn (L' := [some (.ref 0), some (.int (nI m)), some (.int (nI 0))]) t106_84 rfl (Nat.le_of_ble_eq_true rfl) ?_
      refine L_gs (σ := g_up σ2 0 8 (nI (n - m))) hn hmn rfl (fun σ4 d1 d2 => ?_) (n - m) 0 _ (by omega) (fun _ _ => rfl) (fun j hj => absurd hj (Nat.not_lt_zero j)) (fun _ _ => rfl)
      have r4 : ∀ r, r ≠ 26 → r ≠ 0 → r ≠ 27 → σ4 r = σ r := fun r g1 g2 g3 => (d1 r g1).trans ((g_up_ne g2).trans ((b1 r g2).trans (f1 r g3 g2)))
      have z4 : ∀ k, k ≠ 4 → k ≠ 8 → k ≠ 10 → σ4 0 k = σ 0 k := fun k g1 g2 g3 => (congrFun (d1 0 (by decide)) k).trans ((g_up_j g2).trans ((b2 k g1).trans (f2 k g3)))
      have z4c : σ4 0 4 = nI (cs ord c m) := (congrFun (d1 0 (by decide)) 4).trans b3
      have z48 : σ4 0 8 = nI (n - m) := congrFun (d1 0 (by decide)) 8
      have z410 : σ4 0 10 = nI (min nu 9 + 1) := (congrFun (d1 0 (by decide)) 10).trans ((b2 10 (by decide)).trans f3)
      have z27 : σ4 27 = σ1 27 := (d1 27 (by decide)).trans (b1 27 (by decide))
      have z26 : ∀ j, j < n - m → σ4 26 j = nI (ord (j + m)) := fun j hj => (d2 j hj).trans ((congrFun (b1 26 (by decide)) (j + m)).trans ((congrFun (f1 26 (by decide) (by decide)) (j + m)).trans (hord (j + m) (by omega)).2.1))
      refine ⟨_, q, _, rfl, rfl, ClP.of ⟨Nat.le_of_ble_eq_true rfl, rfl⟩ ?_⟩
      show EvP X 107 0 [some (.ref 31), none, none] [] (47, g_rho q, σ4) _
      refine ep_aln t107_0 rfl ?_
      refine ep_k1 (w := nI 0) t107_1 rfl ?_
      refine ep_put t107_2 rfl (Nat.le_of_ble_eq_true rfl) rfl ?_
      refine ep_aln t107_5 rfl ?_
      refine ep_get t107_6 rfl (Nat.le_of_ble_eq_true rfl) rfl ?_
      refine ep_val (b := nI n) ((congrFun (r4 31 (by decide) (by decide) (by decide)) 17).trans ho2) ?_
      refine ep_if0P t107_9 (ic0_eq (by omega)) (fun (c9 : n = 0) => (by first | omega | exact absurd c9 c4)) (fun (c9 : ¬ (n = 0)) => ?_)
      refine ep_aln t107_12 rfl ?_
      refine ep_aln t107_13 rfl ?_
      refine ep_getr (q := 40) t107_14 rfl (Nat.le_of_ble_eq_true rfl) rfl (rfl) ?_
      refine ep_k1 (w := nI 0) t107_17 rfl ?_
      refine ep_aldN t107_18 rfl (Nat.le_of_ble_eq_true rfl) (Nat.ne_of_beq_eq_false rfl) (Nat.le_of_ble_eq_true rfl) (by omega) ?_
      refine ep_val (b := nI (ord 0)) ((congrFun (r4 40 (by decide) (by decide) (by decide)) 0).trans (hord 0 (by omega)).2.2) ?_
      refine ep_aln t107_19 rfl ?_
      refine ep_getr (q := 36) t107_20 rfl (Nat.le_of_ble_eq_true rfl) rfl (rfl) ?_
      refine ep_k1 (w := nI 0) t107_23 rfl ?_
      refine ep_aldN t107_24 rfl (Nat.le_of_ble_eq_true rfl) (Nat.ne_of_beq_eq_false rfl) (Nat.le_of_ble_eq_true rfl) (by omega) ?_
      refine ep_val (b := nI c) ((congrFun (r4 36 (by decide) (by decide) (by decide)) 0).trans (e36 0 (by decide))) ?_
      obtain ⟨v9, g9, hm9, σw, rfl, rfl, m1⟩ := cl_M_whyNot (X := X) (q := q) (σ := g_up σ4 31 0 (nI 0)) (T := T) (c := c) (l := l) (k := ord 0) (by show ToldM (σ4 33) T; rw [r4 33 (by decide) (by decide) (by decide)]; exact hN.2.2) hw0 (by omega) (by omega) ((congrFun (r4 36 (by decide) (by decide) (by decide)) 1).trans (e36 1 (by decide))) (by omega) hsn.1 (hord 0 (by omega)).1
      refine ep_cv t107_25 rfl rfl (Nat.le_of_ble_eq_true rfl) (Nat.le_of_ble_eq_true rfl) (hm9) ?_
      refine ep_if0P t107_28 (ic0_eq (by omega)) (fun (c28 : (why T l c (ord 0)) = 0) => ?_) (fun (c28 : ¬ ((why T l c (ord 0)) = 0)) => (by exact absurd c17 c28))
      refine ep_aln t107_34 rfl ?_
      obtain ⟨v2, g2, hm, rfl, σ5, rfl, k1, k2, k3, k4, k5⟩ := cl_M_notes (X := X) (q := q) (σ := σw) (n := nu) hnu ((congrFun (m1 31 (by decide)) 13).trans ((congrFun (r4 31 (by decide) (by decide) (by decide)) 13).trans hu2))
      refine ep_cv t107_35 rfl rfl (Nat.le_of_ble_eq_true rfl) (Nat.le_of_ble_eq_true rfl) (hm) ?_
      refine ep_k1 (w := nI 0) t107_38 rfl ?_
      refine ep_isn (L' := [some (.ref 31), some (.int (nI 0)), none]) t107_39 rfl (Nat.le_of_ble_eq_true rfl) ?_
      have r5 : ∀ r, r ≠ 37 → r ≠ 31 → r ≠ 43 → r ≠ 26 → r ≠ 0 → r ≠ 27 → σ5 r = σ r := fun r g1 g2 g3 g4 g5 g6 => (k1 r g1 g2).trans ((m1 r g3).trans ((g_up_ne g2).trans (r4 r g4 g5 g6)))
      have r54 : ∀ r, r ≠ 37 → r ≠ 31 → r ≠ 43 → σ5 r = σ4 r := fun r g1 g2 g3 => (k1 r g1 g2).trans ((m1 r g3).trans (g_up_ne g2))
      have z5 : ∀ k, k ≠ 13 → k ≠ 0 → σ5 31 k = σ 31 k := fun k g1 g2 => (k2 k g1).trans ((congrFun (m1 31 (by decide)) k).trans ((g_up_j g2).trans (congrFun (r4 31 (by decide) (by decide) (by decide)) k)))
      have e36c : ∀ i, i < 5 → σ5 36 i = nI (sw c l pr i) := fun i hi => (congrFun (r5 36 (by decide) (by decide) (by decide) (by decide) (by decide) (by decide)) i).trans (e36 i hi)
      refine L_gm (σ := σ5) (c := c) (l := l) (n := n) (ord := ord) hN.1 hn hsn.2.1 (by rw [r5 33 (by decide) (by decide) (by decide) (by decide) (by decide) (by decide)]; exact hN.2.2) (e36c 1 (by decide)) ((z5 17 (by decide) (by decide)).trans ho2) (fun j hj => ⟨(hord j hj).1, (congrFun (r5 40 (by decide) (by decide) (by decide) (by decide) (by decide) (by decide)) j).trans (hord j hj).2.2⟩) (fun m2 σ6 p1 p2 p3 hend2 => ?_) (n + 1) 0 σ5 (by omega) (fun _ _ _ => rfl) (fun _ _ => rfl) (e36c 0 (by decide)) hg0
      obtain rfl : m = m2 := hend.one hend2
      refine ep_iln t107_90 rfl ?_
      refine ep_isn (L' := [some (.ref 31), some (.int (nI m)), some (.int (nI m))]) t107_91 rfl (Nat.le_of_ble_eq_true rfl) ?_
      refine L_gt (σ := σ6) hn hmn ((congrFun (p1 31 (by decide) (by decide)) 17).trans ((z5 17 (by decide) (by decide)).trans ho2)) (fun σ7 q1 q2 => ?_) (n - m) m σ6 (by omega) (Nat.le_refl _) (fun _ _ => rfl) (fun j hj => absurd hj (by omega)) (fun _ _ => rfl)
      refine ep_aln t107_120 rfl ?_
      refine ep_dup t107_121 rfl ?_
      refine ep_get t107_122 rfl (Nat.le_of_ble_eq_true rfl) rfl ?_
      refine ep_val (b := nI n) ((congrFun (q1 31 (by decide)) 17).trans ((congrFun (p1 31 (by decide) (by decide)) 17).trans ((z5 17 (by decide) (by decide)).trans ho2))) ?_
      refine ep_iln t107_125 rfl ?_
      refine ep_subN (a := n) (b := m) t107_126 (by omega) ?_
      refine ep_put t107_127 rfl (Nat.le_of_ble_eq_true rfl) rfl ?_
      refine ep_iln t107_130 rfl ?_
      refine ep_ri t107_131 (fun h => absurd h (by decide)) ?_
      have R7 : ∀ r, r ≠ 40 → r ≠ 36 → r ≠ 43 → r ≠ 37 → r ≠ 31 → r ≠ 26 → r ≠ 0 → r ≠ 27 → g_up σ7 31 17 (nI (n - m)) r = σ r := fun r g1 g2 g3 g4 g5 g6 g7 g8 => (g_up_ne g5).trans ((q1 r g1).trans ((p1 r g2 g3).trans (r5 r g4 g5 g3 g6 g7 g8)))
      have S7 : ∀ r, r ≠ 40 → r ≠ 36 → r ≠ 43 → r ≠ 37 → r ≠ 31 → g_up σ7 31 17 (nI (n - m)) r = σ4 r := fun r g1 g2 g3 g4 g5 => (g_up_ne g5).trans ((q1 r g1).trans ((p1 r g2 g3).trans (r54 r g4 g5 g3)))
      have Z7 : ∀ k, k ≠ 4 → k ≠ 8 → k ≠ 10 → g_up σ7 31 17 (nI (n - m)) 0 k = σ 0 k := fun k g1 g2 g3 => (congrFun (S7 0 (by decide) (by decide) (by decide) (by decide) (by decide)) k).trans (z4 k g1 g2 g3)
      have Y7 : ∀ k, k ≠ 17 → k ≠ 13 → k ≠ 0 → g_up σ7 31 17 (nI (n - m)) 31 k = σ 31 k := fun k g1 g2 g3 => (g_up_j g1).trans ((congrFun (q1 31 (by decide)) k).trans ((congrFun (p1 31 (by decide) (by decide)) k).trans (z5 k g2 g3)))
      have X7 : ∀ k, g_up σ7 31 17 (nI (n - m)) 36 k = σ6 36 k := fun k => congrFun (q1 36 (by decide)) k
      have hU7 : R_und T (g_up σ7 31 17 (nI (n - m))) := und_push (σ := σ) hnu hu3 hsn ((congrFun (S7 0 (by decide) (by decide) (by decide) (by decide) (by decide)) 10).trans z410) (fun j hj => (congrFun (S7 27 (by decide) (by decide) (by decide) (by decide) (by decide)) j).trans ((congrFun z27 j).trans (f4 j hj))) ((congrFun (S7 27 (by decide) (by decide) (by decide) (by decide) (by decide)) _).trans ((congrFun z27 _).trans f5)) ((congrFun (q1 31 (by decide)) 13).trans ((congrFun (p1 31 (by decide) (by decide)) 13).trans k3)) (fun j i hj hi => (congrFun (q1 37 (by decide)) _).trans ((congrFun (p1 37 (by decide) (by decide)) _).trans ((k4 j i hj hi).trans ((congrFun (m1 37 (by decide)) _).trans (congrFun (r4 37 (by decide) (by decide) (by decide)) _))))) (fun i hi => (congrFun (q1 37 (by decide)) _).trans ((congrFun (p1 37 (by decide) (by decide)) _).trans ((k5 i hi).trans ((congrFun (m1 36 (by decide)) i).trans ((congrFun (r4 36 (by decide) (by decide) (by decide)) i).trans (e36 i hi))))))
      have hW7 : R_now T (cs ord c m) l pr (g_up σ7 31 17 (nI (n - m))) := ⟨⟨hend.1.2.1.1, hsn.2.1, hend.1.2.1.2, hsn.2.2.2⟩, (congrFun (S7 0 (by decide) (by decide) (by decide) (by decide) (by decide)) 4).trans z4c, (Z7 5 (by decide) (by decide) (by decide)).trans e5, fun i hi => (congrFun (R7 25 (by decide) (by decide) (by decide) (by decide) (by decide) (by decide) (by decide) (by decide)) i).trans (e25 i hi), fun i hi => by
        rw [X7]
        by_cases e : i = 0
        · subst e; exact p3
        · rw [p2 i e]
          refine (e36c i hi).trans ?_
          match i, e, hi with
          | 1, _, _ => rfl
          | i + 2, _, _ => rfl⟩
      have hO7 : R_ord T (g_up σ7 31 17 (nI (n - m))) := ⟨n - m, by omega, (congrFun (S7 0 (by decide) (by decide) (by decide) (by decide) (by decide)) 8).trans z48, g_up_eq, fun j hj => ⟨ord (j + m), (hord (j + m) (by omega)).1, (congrFun (S7 26 (by decide) (by decide) (by decide) (by decide) (by decide)) j).trans (z26 j hj), (q2 j hj).trans ((congrFun (p1 40 (by decide) (by decide)) (j + m)).trans ((congrFun (r5 40 (by decide) (by decide) (by decide) (by decide) (by decide) (by decide)) (j + m)).trans (hord (j + m) (by omega)).2.2))⟩⟩
      exact ⟨_, rfl, rfl, ⟨T, cs ord c m, l, pr, hN.fr (fun r g1 g2 => R7 r (by omega) (by omega) (by omega) (by omega) (by omega) (by omega) (by omega) (by omega)) (R7 33 (by decide) (by decide) (by decide) (by decide) (by decide) (by decide) (by decide) (by decide)), hW7, hT.fr (congrFun (R7 1 (by decide) (by decide) (by decide) (by decide) (by decide) (by decide) (by decide) (by decide)) 1) (R7 2 (by decide) (by decide) (by decide) (by decide) (by decide) (by decide) (by decide) (by decide)) (Y7 2 (by decide) (by decide) (by decide)) (R7 32 (by decide) (by decide) (by decide) (by decide) (by decide) (by decide) (by decide) (by decide)), hO7, hU7, hI.fr (Z7 12 (by decide) (by decide) (by decide)) (R7 28 (by decide) (by decide) (by decide) (by decide) (by decide) (by decide) (by decide) (by decide)) (R7 39 (by decide) (by decide) (by decide) (by decide) (by decide) (by decide) (by decide) (by decide)) (R7 38 (by decide) (by decide) (by decide) (by decide) (by decide) (by decide) (by decide) (by decide)), hS.fr (Z7 14 (by decide) (by decide) (by decide)) (R7 29 (by decide) (by decide) (by decide) (by decide) (by decide) (by decide) (by decide) (by decide)) (Y7 20 (by decide) (by decide) (by decide)) (R7 41 (by decide) (by decide) (by decide) (by decide) (by decide) (by decide) (by decide) (by decide)) (R7 42 (by decide) (by decide) (by decide) (by decide) (by decide) (by decide) (by decide) (by decide))⟩⟩
    · refine ep_k2 (w := (-2)) t106_20 rfl ?_
      refine ep_ri t106_22 (fun h => absurd h (by decide)) ?_
      refine ⟨_, q, _, rfl, rfl, ClP.of ⟨Nat.le_of_ble_eq_true rfl, rfl⟩ ?_⟩
      show EvP X 107 0 [some (.ref 31), none, none] [] (47, g_rho q, σ) _
      refine ep_aln t107_0 rfl ?_
      refine ep_k1 (w := nI 0) t107_1 rfl ?_
      refine ep_put t107_2 rfl (Nat.le_of_ble_eq_true rfl) rfl ?_
      refine ep_aln t107_5 rfl ?_
      refine ep_get t107_6 rfl (Nat.le_of_ble_eq_true rfl) rfl ?_
      refine ep_val (b := nI n) (ho2) ?_
      refine ep_if0P t107_9 (ic0_eq (by omega)) (fun (c9 : n = 0) => ?_) (fun (c9 : ¬ (n = 0)) => ?_)
      · refine ep_k2 (w := (-2)) t107_31 rfl ?_
        refine ep_ri t107_33 (fun h => absurd h (by decide)) ?_
        exact ⟨_, rfl, rfl, hR0.thrown _⟩
      · refine ep_aln t107_12 rfl ?_
        refine ep_aln t107_13 rfl ?_
        refine ep_getr (q := 40) t107_14 rfl (Nat.le_of_ble_eq_true rfl) rfl (rfl) ?_
        refine ep_k1 (w := nI 0) t107_17 rfl ?_
        refine ep_aldN t107_18 rfl (Nat.le_of_ble_eq_true rfl) (Nat.ne_of_beq_eq_false rfl) (Nat.le_of_ble_eq_true rfl) (by omega) ?_
        refine ep_val (b := nI (ord 0)) ((hord 0 (by omega)).2.2) ?_
        refine ep_aln t107_19 rfl ?_
        refine ep_getr (q := 36) t107_20 rfl (Nat.le_of_ble_eq_true rfl) rfl (rfl) ?_
        refine ep_k1 (w := nI 0) t107_23 rfl ?_
        refine ep_aldN t107_24 rfl (Nat.le_of_ble_eq_true rfl) (Nat.ne_of_beq_eq_false rfl) (Nat.le_of_ble_eq_true rfl) (by omega) ?_
        refine ep_val (b := nI c) (e36 0 (by decide)) ?_
        obtain ⟨v9, g9, hm9, σw, rfl, rfl, m1⟩ := cl_M_whyNot (X := X) (q := q) (σ := g_up σ 31 0 (nI 0)) (T := T) (c := c) (l := l) (k := ord 0) hN.2.2 hw0 (by omega) (by omega) (e36 1 (by decide)) (by omega) hsn.1 (hord 0 (by omega)).1
        refine ep_cv t107_25 rfl rfl (Nat.le_of_ble_eq_true rfl) (Nat.le_of_ble_eq_true rfl) (hm9) ?_
        refine ep_if0P t107_28 (ic0_eq (by omega)) (fun (c28 : (why T l c (ord 0)) = 0) => (by first | exact absurd c28 c17 | omega)) (fun (c28 : ¬ ((why T l c (ord 0)) = 0)) => ?_)
        refine ep_k2 (w := (-2)) t107_31 rfl ?_
        refine ep_ri t107_33 (fun h => absurd h (by decide)) ?_
        exact ⟨_, rfl, rfl, (hR0.thrown _).scr1 m1⟩
