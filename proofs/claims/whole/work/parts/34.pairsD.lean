/-! Pairs: moves, device, named. -/
theorem why_zero {T : Nat → Nat} {l c k : Nat} (h : why T l c k = 0) : sound T (c ^^^ 2 ^ k) := by
  unfold why at h
  split at h
  · exact absurd h (by decide)
  · split at h
    · exact absurd h (by decide)
    · split at h
      · assumption
      · exact absurd h (by decide)
theorem pr_moves {X : gX} {q : Bool} {σ : gT1} (hR : Rel q σ) (a : Int32) : Pair X 96 98 [.int a] q σ := by
  have hR0 := hR
  obtain ⟨T, c, l, pr, hN, hW, hT, hO, hU, hI, hS⟩ := hR
  obtain ⟨⟨hwf0, hwf1⟩, ⟨hwf2, hwf3⟩, hwf4, hwf5, hwf6⟩ := hN.1
  have hB3 : σ (np q) 3 = nI (T 3) := hN.2.1.1 3 (by decide)
  have hB0 : σ (np q) 0 = nI (T 0) := hN.2.1.1 0 (by decide)
  have hM3 : σ 33 3 = nI (T 3) := hN.2.2.1 3 (by decide)
  have hM0 : σ 33 0 = nI (T 0) := hN.2.2.1 0 (by decide)
  obtain ⟨hsn, e4, e5, e25, e36⟩ := id hW
  obtain ⟨hc, hl, hp0, hp1, hp2⟩ := hsn.lt hwf4
  obtain ⟨n, hn, hu1, hu2, hu3⟩ := id hU
  have hw0 := hN.1.w0
  have hx2 := pow_le_256 hwf4
  have hx3 : (2 : Nat) ^ T 0 ≤ 256 := pow_le_256 (by omega)
  have hwl : ∀ k, why T l c k < 2147483648 := fun k => by have := why_le T l c k; omega
  cases hin : inR a (T 3) with
  | false =>
    refine Pair.of (ClP.of ⟨Nat.le_of_ble_eq_true rfl, rfl⟩ ?_)
    show EvP X 96 0 [some (.ref 0), some (.int a)] [] (47, g_rho q, σ) _
    refine ep_aln t96_0 rfl ?_
    refine ep_iln t96_1 rfl ?_
    refine ep_cv t96_2 rfl rfl (Nat.le_of_ble_eq_true rfl) (Nat.le_of_ble_eq_true rfl) (cl_B_isSwitch _ (by omega) hB3) ?_
    refine ep_bT t96_5 (fun (c5 : (inR a (T 3)) = true) => (by exact absurd c5 (by rw [hin]; decide))) (fun (c5 : (inR a (T 3)) = false) => ?_)
    refine ep_k1 (w := (-1)) t96_8 rfl ?_
    refine ep_ri t96_9 (fun h => absurd h (by decide)) ?_
    refine ⟨_, q, _, rfl, rfl, ClP.of ⟨Nat.le_of_ble_eq_true rfl, rfl⟩ ?_⟩
    show EvP X 98 0 [some (.ref 31), some (.int a)] [] (47, g_rho q, σ) _
    refine ep_aln t98_0 rfl ?_
    refine ep_k1 (w := nI 0) t98_1 rfl ?_
    refine ep_put t98_2 rfl (Nat.le_of_ble_eq_true rfl) rfl ?_
    refine ep_aln t98_5 rfl ?_
    refine ep_iln t98_6 rfl ?_
    refine ep_cv t98_7 rfl rfl (Nat.le_of_ble_eq_true rfl) (Nat.le_of_ble_eq_true rfl) (cl_M_isSwitch _ (by omega) hM3) ?_
    refine ep_bT t98_10 (fun (c10 : (inR a (T 3)) = true) => (by exact absurd c10 (by rw [hin]; decide))) (fun (c10 : (inR a (T 3)) = false) => ?_)
    refine ep_k1 (w := (-1)) t98_13 rfl ?_
    refine ep_ri t98_14 (fun h => absurd h (by decide)) ?_
    exact ⟨_, rfl, rfl, hR0.thrown _⟩
  | true =>
    obtain ⟨k, hk, rfl⟩ := inR_of (by omega) hin
    have hwk := hwl k
    have hxk := xor_lt hsn.1 hk
    refine Pair.of (ClP.of ⟨Nat.le_of_ble_eq_true rfl, rfl⟩ ?_)
    show EvP X 96 0 [some (.ref 0), some (.int (nI k))] [] (47, g_rho q, σ) _
    refine ep_aln t96_0 rfl ?_
    refine ep_iln t96_1 rfl ?_
    refine ep_cv t96_2 rfl rfl (Nat.le_of_ble_eq_true rfl) (Nat.le_of_ble_eq_true rfl) (cl_B_isSwitch _ (by omega) hB3) ?_
    refine ep_bT t96_5 (fun (c5 : (inR (nI k) (T 3)) = true) => ?_) (fun (c5 : (inR (nI k) (T 3)) = false) => (by exact absurd c5 (by rw [hin]; decide)))
    refine ep_aln t96_10 rfl ?_
    refine ep_iln t96_11 rfl ?_
    refine ep_cv t96_12 rfl rfl (Nat.le_of_ble_eq_true rfl) (Nat.le_of_ble_eq_true rfl) (cl_B_whyNot (T := T) (c := c) (l := l) hN.2.1 hwf1 hwf4 hsn.1 hsn.2.1 e4 e5 hk) ?_
    refine ep_if0P t96_15 (ic0_eq (by omega)) (fun (c15 : (why T l c k) = 0) => ?_) (fun (c15 : ¬ ((why T l c k) = 0)) => ?_)
    · refine ep_aln t96_21 rfl ?_
      obtain ⟨v1, g1, hb, rfl, σ1, rfl, f1, f2, f3, f4, f5⟩ := cl_B_remember (X := X) (q := q) (σ := σ) (n := n) (c := c) (l := l) (pr := pr) hn hu1 e4 e5 e25 hc hl hp0 hp1 hp2
      refine ep_cv t96_22 rfl rfl (Nat.le_of_ble_eq_true rfl) (Nat.le_of_ble_eq_true rfl) (hb) ?_
      refine ep_aln t96_25 rfl ?_
      refine ep_dup t96_26 rfl ?_
      refine ep_get t96_27 rfl (Nat.le_of_ble_eq_true rfl) rfl ?_
      refine ep_val (b := nI c) ((f2 4 (by decide)).trans e4) ?_
      refine ep_k1 (w := nI 1) t96_30 rfl ?_
      refine ep_iln t96_31 rfl ?_
      refine ep_oneN (b := k) t96_32 (by omega) ?_
      refine ep_xorN (a := c) (b := 2 ^ k) t96_33 ?_
      refine ep_put t96_34 rfl (Nat.le_of_ble_eq_true rfl) rfl ?_
      refine ep_aln t96_37 rfl ?_
      refine ep_get t96_38 rfl (Nat.le_of_ble_eq_true rfl) rfl ?_
      refine ep_val (b := nI (c ^^^ (2 ^ k))) (rfl) ?_
      refine ep_ri t96_41 (fun h => absurd h (by decide)) ?_
      refine ⟨_, q, _, rfl, rfl, ClP.of ⟨Nat.le_of_ble_eq_true rfl, rfl⟩ ?_⟩
      show EvP X 98 0 [some (.ref 31), some (.int (nI k))] [] (47, g_rho q, g_up σ1 0 4 (nI (c ^^^ (2 ^ k)))) _
      refine ep_aln t98_0 rfl ?_
      refine ep_k1 (w := nI 0) t98_1 rfl ?_
      refine ep_put t98_2 rfl (Nat.le_of_ble_eq_true rfl) rfl ?_
      refine ep_aln t98_5 rfl ?_
      refine ep_iln t98_6 rfl ?_
      refine ep_cv t98_7 rfl rfl (Nat.le_of_ble_eq_true rfl) (Nat.le_of_ble_eq_true rfl) (cl_M_isSwitch (n := T 3) _ (by omega) ((congrFun (f1 33 (by decide) (by decide)) 3).trans hM3)) ?_
      refine ep_bT t98_10 (fun (c10 : (inR (nI k) (T 3)) = true) => ?_) (fun (c10 : (inR (nI k) (T 3)) = false) => (by exact absurd c10 (by rw [hin]; decide)))
      refine ep_aln t98_15 rfl ?_
      refine ep_iln t98_16 rfl ?_
      refine ep_aln t98_17 rfl ?_
      refine ep_getr (q := 36) t98_18 rfl (Nat.le_of_ble_eq_true rfl) rfl (rfl) ?_
      refine ep_k1 (w := nI 0) t98_21 rfl ?_
      refine ep_aldN t98_22 rfl (Nat.le_of_ble_eq_true rfl) (Nat.ne_of_beq_eq_false rfl) (Nat.le_of_ble_eq_true rfl) (by omega) ?_
      refine ep_val (b := nI c) ((congrFun (f1 36 (by decide) (by decide)) 0).trans (e36 0 (by decide))) ?_
      obtain ⟨v9, g9, hm9, σw, rfl, rfl, m1⟩ := cl_M_whyNot (X := X) (q := q) (σ := g_up (g_up σ1 0 4 (nI (c ^^^ (2 ^ k)))) 31 0 (nI 0)) (T := T) (c := c) (l := l) (k := k) (by show ToldM (σ1 33) T; rw [f1 33 (by decide) (by decide)]; exact hN.2.2) hw0 (by omega) (by omega) ((congrFun (f1 36 (by decide) (by decide)) 1).trans (e36 1 (by decide))) (by omega) hsn.1 hk
      refine ep_cv t98_23 rfl rfl (Nat.le_of_ble_eq_true rfl) (Nat.le_of_ble_eq_true rfl) (hm9) ?_
      refine ep_if0P t98_26 (ic0_eq (by omega)) (fun (c26 : (why T l c k) = 0) => ?_) (fun (c26 : ¬ ((why T l c k) = 0)) => (by exact absurd c15 c26))
      refine ep_aln t98_32 rfl ?_
      obtain ⟨v2, g2, hm, rfl, σ3, rfl, k1, k2, k3, k4, k5⟩ := cl_M_notes (X := X) (q := q) (σ := σw) (n := n) hn ((congrFun (m1 31 (by decide)) 13).trans ((congrFun (f1 31 (by decide) (by decide)) 13).trans hu2))
      refine ep_cv t98_33 rfl rfl (Nat.le_of_ble_eq_true rfl) (Nat.le_of_ble_eq_true rfl) (hm) ?_
      refine ep_aln t98_36 rfl ?_
      refine ep_getr (q := 36) t98_37 rfl (Nat.le_of_ble_eq_true rfl) rfl (rfl) ?_
      refine ep_k1 (w := nI 0) t98_40 rfl ?_
      refine ep_dup2 t98_41 rfl rfl ?_
      refine ep_aldN t98_42 rfl (Nat.le_of_ble_eq_true rfl) (Nat.ne_of_beq_eq_false rfl) (Nat.le_of_ble_eq_true rfl) (by omega) ?_
      refine ep_val (b := nI c) ((congrFun ((k1 36 (by decide) (by decide)).trans ((m1 36 (by decide)).trans (f1 36 (by decide) (by decide)))) 0).trans (e36 0 (by decide))) ?_
      refine ep_k1 (w := nI 1) t98_43 rfl ?_
      refine ep_iln t98_44 rfl ?_
      refine ep_oneN (b := k) t98_45 (by omega) ?_
      refine ep_xorN (a := c) (b := 2 ^ k) t98_46 ?_
      refine ep_astN t98_47 rfl (Nat.le_of_ble_eq_true rfl) (Nat.le_of_ble_eq_true rfl) (by omega) ?_
      refine ep_aln t98_48 rfl ?_
      refine ep_getr (q := 36) t98_49 rfl (Nat.le_of_ble_eq_true rfl) rfl (rfl) ?_
      refine ep_k1 (w := nI 0) t98_52 rfl ?_
      refine ep_aldN t98_53 rfl (Nat.le_of_ble_eq_true rfl) (Nat.ne_of_beq_eq_false rfl) (Nat.le_of_ble_eq_true rfl) (by omega) ?_
      refine ep_val (b := nI (c ^^^ (2 ^ k))) (rfl) ?_
      refine ep_ri t98_54 (fun h => absurd h (by decide)) ?_
      exact ⟨_, rfl, rfl, ⟨T, (c ^^^ 2 ^ k), l, pr, hN.fr (fun p h1 h2 => by (repeat rw [g_up_ne (by omega)]); rw [k1 p (by omega) (by omega), m1 p (by omega)]; (repeat rw [g_up_ne (by omega)]); exact f1 p (by omega) (by omega)) ((k1 33 (by decide) (by decide)).trans ((m1 33 (by decide)).trans (f1 33 (by decide) (by decide)))), ⟨⟨hxk, hsn.2.1, why_zero c15, hsn.2.2.2⟩, (congrFun (k1 0 (by decide) (by decide)) 4).trans (congrFun (m1 0 (by decide)) 4), ((congrFun (k1 0 (by decide) (by decide)) 5).trans ((congrFun (m1 0 (by decide)) 5).trans (f2 5 (by decide)))).trans e5, fun i hi => (congrFun ((k1 25 (by decide) (by decide)).trans ((m1 25 (by decide)).trans (f1 25 (by decide) (by decide)))) i).trans (e25 i hi), fun i hi => by
          by_cases e : i = 0
          · subst e; exact g_up_eq
          · rw [g_up_j e]
            refine (congrFun ((k1 36 (by decide) (by decide)).trans ((m1 36 (by decide)).trans (f1 36 (by decide) (by decide)))) i).trans ((e36 i hi).trans ?_)
            match i, e, hi with
            | 1, _, _ => rfl
            | i + 2, _, _ => rfl⟩, hT.fr ((congrFun (k1 1 (by decide) (by decide)) 1).trans ((congrFun (m1 1 (by decide)) 1).trans (congrFun (f1 1 (by decide) (by decide)) 1))) ((k1 2 (by decide) (by decide)).trans ((m1 2 (by decide)).trans (f1 2 (by decide) (by decide)))) ((k2 2 (by decide)).trans ((congrFun (m1 31 (by decide)) 2).trans (congrFun (f1 31 (by decide) (by decide)) 2))) ((k1 32 (by decide) (by decide)).trans ((m1 32 (by decide)).trans (f1 32 (by decide) (by decide)))), hO.fr ((congrFun (k1 0 (by decide) (by decide)) 8).trans ((congrFun (m1 0 (by decide)) 8).trans (f2 8 (by decide)))) ((k1 26 (by decide) (by decide)).trans ((m1 26 (by decide)).trans (f1 26 (by decide) (by decide)))) ((k2 17 (by decide)).trans ((congrFun (m1 31 (by decide)) 17).trans (congrFun (f1 31 (by decide) (by decide)) 17))) ((k1 40 (by decide) (by decide)).trans ((m1 40 (by decide)).trans (f1 40 (by decide) (by decide)))), und_push hn hu3 hsn ((congrFun (k1 0 (by decide) (by decide)) 10).trans ((congrFun (m1 0 (by decide)) 10).trans f3)) (fun j hj => (congrFun (k1 27 (by decide) (by decide)) j).trans ((congrFun (m1 27 (by decide)) j).trans (f4 j hj))) ((congrFun (k1 27 (by decide) (by decide)) (min n 9)).trans ((congrFun (m1 27 (by decide)) (min n 9)).trans f5)) k3 (fun j i hj hi => (k4 j i hj hi).trans ((congrFun (m1 37 (by decide)) _).trans (congrFun (f1 37 (by decide) (by decide)) _))) (fun i hi => ((k5 i hi).trans ((congrFun (m1 36 (by decide)) i).trans (congrFun (f1 36 (by decide) (by decide)) i))).trans (e36 i hi)), hI.fr ((congrFun (k1 0 (by decide) (by decide)) 12).trans ((congrFun (m1 0 (by decide)) 12).trans (f2 12 (by decide)))) ((k1 28 (by decide) (by decide)).trans ((m1 28 (by decide)).trans (f1 28 (by decide) (by decide)))) ((k1 39 (by decide) (by decide)).trans ((m1 39 (by decide)).trans (f1 39 (by decide) (by decide)))) ((k1 38 (by decide) (by decide)).trans ((m1 38 (by decide)).trans (f1 38 (by decide) (by decide)))), hS.fr ((congrFun (k1 0 (by decide) (by decide)) 14).trans ((congrFun (m1 0 (by decide)) 14).trans (f2 14 (by decide)))) ((k1 29 (by decide) (by decide)).trans ((m1 29 (by decide)).trans (f1 29 (by decide) (by decide)))) ((k2 20 (by decide)).trans ((congrFun (m1 31 (by decide)) 20).trans (congrFun (f1 31 (by decide) (by decide)) 20))) ((k1 41 (by decide) (by decide)).trans ((m1 41 (by decide)).trans (f1 41 (by decide) (by decide)))) ((k1 42 (by decide) (by decide)).trans ((m1 42 (by decide)).trans (f1 42 (by decide) (by decide))))⟩⟩
    · refine ep_k2 (w := (-2)) t96_18 rfl ?_
      refine ep_ri t96_20 (fun h => absurd h (by decide)) ?_
      refine ⟨_, q, _, rfl, rfl, ClP.of ⟨Nat.le_of_ble_eq_true rfl, rfl⟩ ?_⟩
      show EvP X 98 0 [some (.ref 31), some (.int (nI k))] [] (47, g_rho q, σ) _
      refine ep_aln t98_0 rfl ?_
      refine ep_k1 (w := nI 0) t98_1 rfl ?_
      refine ep_put t98_2 rfl (Nat.le_of_ble_eq_true rfl) rfl ?_
      refine ep_aln t98_5 rfl ?_
      refine ep_iln t98_6 rfl ?_
      refine ep_cv t98_7 rfl rfl (Nat.le_of_ble_eq_true rfl) (Nat.le_of_ble_eq_true rfl) (cl_M_isSwitch _ (by omega) hM3) ?_
      refine ep_bT t98_10 (fun (c10 : (inR (nI k) (T 3)) = true) => ?_) (fun (c10 : (inR (nI k) (T 3)) = false) => (by exact absurd c10 (by rw [hin]; decide)))
      refine ep_aln t98_15 rfl ?_
      refine ep_iln t98_16 rfl ?_
      refine ep_aln t98_17 rfl ?_
      refine ep_getr (q := 36) t98_18 rfl (Nat.le_of_ble_eq_true rfl) rfl (rfl) ?_
      refine ep_k1 (w := nI 0) t98_21 rfl ?_
      refine ep_aldN t98_22 rfl (Nat.le_of_ble_eq_true rfl) (Nat.ne_of_beq_eq_false rfl) (Nat.le_of_ble_eq_true rfl) (by omega) ?_
      refine ep_val (b := nI c) (e36 0 (by decide)) ?_
      obtain ⟨v9, g9, hm9, σw, rfl, rfl, m1⟩ := cl_M_whyNot (X := X) (q := q) (σ := g_up σ 31 0 (nI 0)) (T := T) (c := c) (l := l) (k := k) (hN.2.2) hw0 (by omega) (by omega) (e36 1 (by decide)) (by omega) hsn.1 hk
      refine ep_cv t98_23 rfl rfl (Nat.le_of_ble_eq_true rfl) (Nat.le_of_ble_eq_true rfl) (hm9) ?_
      refine ep_if0P t98_26 (ic0_eq (by omega)) (fun (c26 : (why T l c k) = 0) => (by exact absurd c26 c15)) (fun (c26 : ¬ ((why T l c k) = 0)) => ?_)
      refine ep_k2 (w := (-2)) t98_29 rfl ?_
      refine ep_ri t98_31 (fun h => absurd h (by decide)) ?_
      exact ⟨_, rfl, rfl, ⟨T, c, l, pr, hN.fr (fun p h1 h2 => (m1 p (by omega)).trans (g_up_ne (by omega))) (m1 33 (by decide)), hW.fr (congrFun (m1 0 (by decide)) 4) (congrFun (m1 0 (by decide)) 5) (m1 25 (by decide)) (m1 36 (by decide)), hT.fr (congrFun (m1 1 (by decide)) 1) (m1 2 (by decide)) (congrFun (m1 31 (by decide)) 2) (m1 32 (by decide)), hO.fr (congrFun (m1 0 (by decide)) 8) (m1 26 (by decide)) (congrFun (m1 31 (by decide)) 17) (m1 40 (by decide)), hU.fr (congrFun (m1 0 (by decide)) 10) (m1 27 (by decide)) (congrFun (m1 31 (by decide)) 13) (m1 37 (by decide)), hI.fr (congrFun (m1 0 (by decide)) 12) (m1 28 (by decide)) (m1 39 (by decide)) (m1 38 (by decide)), hS.fr (congrFun (m1 0 (by decide)) 14) (m1 29 (by decide)) (congrFun (m1 31 (by decide)) 20) (m1 41 (by decide)) (m1 42 (by decide))⟩⟩
