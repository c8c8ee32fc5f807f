/-! The model is made; then the two sides stand as one. -/
theorem cl_M_init {X : gX}  : ClP X 8 [.ref 31] (32, r_B, s_B) (fun v g1 => v = none ∧ (g1.1 = 47 ∧ g1.2.1 = g_r0) ∧ (∀ q, q ≠ 33 → q ≠ 36 → q ≠ 31 → q ≠ 39 → q ≠ 34 → q ≠ 35 → g1.2.2 q = s_B q) ∧ (∀ j, j < 36 → g1.2.2 33 j = if j = 0 then nI 3 else 0) ∧ (g1.2.2 36 0 = nI 0 ∧ g1.2.2 36 1 = nI 0 ∧ g1.2.2 36 2 = nI 1 ∧ g1.2.2 36 3 = nI 2 ∧ g1.2.2 36 4 = nI 3) ∧ (g1.2.2 31 2 = nI 0 ∧ g1.2.2 31 17 = nI 0 ∧ g1.2.2 31 20 = nI 0 ∧ g1.2.2 31 13 = nI 0) ∧ g1.2.2 39 0 = 0 ∧ g1.2.2 39 1 = 0) := by
  refine ClP.of ⟨Nat.le_of_ble_eq_true rfl, rfl⟩ ?_
  show EvP X 8 0 [some (.ref 31)] [] (32, r_B, s_B) _
  refine ep_aln t8_0 rfl ?_
  refine ep_obj t8_1 ?_
  refine ep_aln t8_4 rfl ?_
  refine ep_k2 (w := nI 120) t8_5 rfl ?_
  refine ep_newi t8_7 rfl (Nat.le_of_ble_eq_true rfl) (Nat.le_of_ble_eq_true rfl) (rfl) ?_
  refine ep_putr t8_9 rfl (Nat.le_of_ble_eq_true rfl) rfl (Nat.le_of_ble_eq_true rfl) ?_
  refine ep_aln t8_12 rfl ?_
  refine ep_k2 (w := nI 36) t8_13 rfl ?_
  refine ep_newi t8_15 rfl (Nat.le_of_ble_eq_true rfl) (Nat.le_of_ble_eq_true rfl) (rfl) ?_
  refine ep_putr t8_17 rfl (Nat.le_of_ble_eq_true rfl) rfl (Nat.le_of_ble_eq_true rfl) ?_
  refine ep_aln t8_20 rfl ?_
  refine ep_k2 (w := nI 36) t8_21 rfl ?_
  refine ep_newi t8_23 rfl (Nat.le_of_ble_eq_true rfl) (Nat.le_of_ble_eq_true rfl) (rfl) ?_
  refine ep_putr t8_25 rfl (Nat.le_of_ble_eq_true rfl) rfl (Nat.le_of_ble_eq_true rfl) ?_
  refine ep_aln t8_28 rfl ?_
  refine ep_k1 (w := nI 5) t8_29 rfl ?_
  refine ep_newi t8_30 rfl (Nat.le_of_ble_eq_true rfl) (Nat.le_of_ble_eq_true rfl) (rfl) ?_
  refine ep_putr t8_32 rfl (Nat.le_of_ble_eq_true rfl) rfl (Nat.le_of_ble_eq_true rfl) ?_
  refine ep_aln t8_35 rfl ?_
  refine ep_k1 (w := nI 5) t8_36 rfl ?_
  refine ep_newi t8_37 rfl (Nat.le_of_ble_eq_true rfl) (Nat.le_of_ble_eq_true rfl) (rfl) ?_
  refine ep_putr t8_39 rfl (Nat.le_of_ble_eq_true rfl) rfl (Nat.le_of_ble_eq_true rfl) ?_
  refine ep_aln t8_42 rfl ?_
  refine ep_k2 (w := nI 50) t8_43 rfl ?_
  refine ep_newi t8_45 rfl (Nat.le_of_ble_eq_true rfl) (Nat.le_of_ble_eq_true rfl) (rfl) ?_
  refine ep_putr t8_47 rfl (Nat.le_of_ble_eq_true rfl) rfl (Nat.le_of_ble_eq_true rfl) ?_
  refine ep_aln t8_50 rfl ?_
  refine ep_k2 (w := nI 10) t8_51 rfl ?_
  refine ep_newi t8_53 rfl (Nat.le_of_ble_eq_true rfl) (Nat.le_of_ble_eq_true rfl) (rfl) ?_
  refine ep_putr t8_55 rfl (Nat.le_of_ble_eq_true rfl) rfl (Nat.le_of_ble_eq_true rfl) ?_
  refine ep_aln t8_58 rfl ?_
  refine ep_k1 (w := nI 2) t8_59 rfl ?_
  refine ep_newz t8_60 rfl (Nat.le_of_ble_eq_true rfl) (Nat.le_of_ble_eq_true rfl) (rfl) ?_
  refine ep_putr t8_62 rfl (Nat.le_of_ble_eq_true rfl) rfl (Nat.le_of_ble_eq_true rfl) ?_
  refine ep_aln t8_65 rfl ?_
  refine ep_k2 (w := nI 12) t8_66 rfl ?_
  refine ep_newi t8_68 rfl (Nat.le_of_ble_eq_true rfl) (Nat.le_of_ble_eq_true rfl) (rfl) ?_
  refine ep_putr t8_70 rfl (Nat.le_of_ble_eq_true rfl) rfl (Nat.le_of_ble_eq_true rfl) ?_
  refine ep_aln t8_73 rfl ?_
  refine ep_k2 (w := nI 6) t8_74 rfl ?_
  refine ep_newi t8_76 rfl (Nat.le_of_ble_eq_true rfl) (Nat.le_of_ble_eq_true rfl) (rfl) ?_
  refine ep_putr t8_78 rfl (Nat.le_of_ble_eq_true rfl) rfl (Nat.le_of_ble_eq_true rfl) ?_
  refine ep_aln t8_81 rfl ?_
  refine ep_k2 (w := nI 6) t8_82 rfl ?_
  refine ep_newi t8_84 rfl (Nat.le_of_ble_eq_true rfl) (Nat.le_of_ble_eq_true rfl) (rfl) ?_
  refine ep_putr t8_86 rfl (Nat.le_of_ble_eq_true rfl) rfl (Nat.le_of_ble_eq_true rfl) ?_
  refine ep_aln t8_89 rfl ?_
  refine ep_k2 (w := nI 6) t8_90 rfl ?_
  refine ep_newi t8_92 rfl (Nat.le_of_ble_eq_true rfl) (Nat.le_of_ble_eq_true rfl) (rfl) ?_
  refine ep_putr t8_94 rfl (Nat.le_of_ble_eq_true rfl) rfl (Nat.le_of_ble_eq_true rfl) ?_
  refine ep_aln t8_97 rfl ?_
  refine ep_k3 (w := nI 256) t8_98 rfl ?_
  refine ep_newi t8_101 rfl (Nat.le_of_ble_eq_true rfl) (Nat.le_of_ble_eq_true rfl) (rfl) ?_
  refine ep_putr t8_103 rfl (Nat.le_of_ble_eq_true rfl) rfl (Nat.le_of_ble_eq_true rfl) ?_
  refine ep_aln t8_106 rfl ?_
  refine ep_k3 (w := nI 256) t8_107 rfl ?_
  refine ep_newz t8_110 rfl (Nat.le_of_ble_eq_true rfl) (Nat.le_of_ble_eq_true rfl) (rfl) ?_
  refine ep_putr t8_112 rfl (Nat.le_of_ble_eq_true rfl) rfl (Nat.le_of_ble_eq_true rfl) ?_
  refine ep_aln t8_115 rfl ?_
  refine ep_k3 (w := nI 2048) t8_116 rfl ?_
  refine ep_newz t8_119 rfl (Nat.le_of_ble_eq_true rfl) (Nat.le_of_ble_eq_true rfl) (rfl) ?_
  refine ep_putr t8_121 rfl (Nat.le_of_ble_eq_true rfl) rfl (Nat.le_of_ble_eq_true rfl) ?_
  refine ep_aln t8_124 rfl ?_
  obtain ⟨v1, ⟨n1, ρ1, σ1⟩, hb, rfl, ⟨hb1, hb2⟩, hb3, hb4, hb5, hb6, hb7, hb8, hb9⟩ := cl_M_begins (X := X) (ρ := g_r0) (σ := s_B) RM_r0
  dsimp only at hb1 hb2 hb3 hb4 hb5 hb6 hb7 hb8 hb9
  subst hb1; subst hb2
  refine ep_cv t8_125 rfl rfl (Nat.le_of_ble_eq_true rfl) (Nat.le_of_ble_eq_true rfl) (hb) ?_
  refine ep_aln t8_128 rfl ?_
  obtain ⟨v2, ⟨n2, ρ2, σ2⟩, hs, rfl, ⟨hs1, hs2⟩, hs3, hs4, hs5, hs6, hs7, hs8, hs9⟩ := cl_M_settles (X := X) (ρ := g_r0) (σ := σ1) RM_r0
  dsimp only at hs1 hs2 hs3 hs4 hs5 hs6 hs7 hs8 hs9
  subst hs1; subst hs2
  refine ep_cv t8_129 rfl rfl (Nat.le_of_ble_eq_true rfl) (Nat.le_of_ble_eq_true rfl) (hs) ?_
  refine ep_rv t8_132 ?_
  exact ⟨rfl, ⟨rfl, rfl⟩, fun q a1 a2 a3 a4 a5 a6 => (hs3 q a1 a2 a3 a4).trans (hb3 q a5 a6), fun j hj => (hs4 j hj).trans (hb4 j hj), ⟨(hs5 0 (by decide)).trans hb5, (hs5 1 (by decide)).trans hb6, (hs5 2 (by decide)).trans hb7, (hs5 3 (by decide)).trans hb8, (hs5 4 (by decide)).trans hb9⟩, hs6, hs8, hs9⟩

theorem mk_zero (n : Nat) (P : Nat → Prop) (h : ∀ i, i < n → ¬ P i) : mk n P = 0 := (mk_eq (a := 0) (fun i => ⟨fun q => by simp at q, fun q => absurd q.2 (h i q.1)⟩)).symm
def T_0 : Nat → Nat := fun j => if j = 0 then 3 else 0
theorem T0_live (c : Nat) : liveM T_0 c = 0 := mk_zero _ _ (fun i _ h => by obtain ⟨u, -, h2, -⟩ := h; simp [T_0] at h2)
theorem T0_earth (c : Nat) : earthM T_0 c = 0 := mk_zero _ _ (fun i _ h => by obtain ⟨k, h1, -⟩ := h; exact absurd h1 (Nat.not_lt_zero k))
theorem T0_held (c : Nat) : heldM T_0 c = 0 := rfl
theorem Rel_start {σ : gT1} (h1 : ∀ q, q ≠ 33 → q ≠ 36 → q ≠ 31 → q ≠ 39 → q ≠ 34 → q ≠ 35 → σ q = s_B q) (h2 : ∀ j, j < 36 → σ 33 j = if j = 0 then nI 3 else 0) (h3 : σ 36 0 = nI 0 ∧ σ 36 1 = nI 0 ∧ σ 36 2 = nI 1 ∧ σ 36 3 = nI 2 ∧ σ 36 4 = nI 3) (h4 : σ 31 2 = nI 0 ∧ σ 31 17 = nI 0 ∧ σ 31 20 = nI 0 ∧ σ 31 13 = nI 0) (h5 : σ 39 0 = 0 ∧ σ 39 1 = 0) : Rel false σ := by
  have hB : ∀ q, q < 31 → σ q = s_B q := fun q hq => h1 q (by omega) (by omega) (by omega) (by omega) (by omega) (by omega)
  refine ⟨T_0, 0, 0, fun i => i + 1, ⟨⟨⟨by decide, by decide⟩, ⟨by decide, by decide⟩, by decide, fun k hk => absurd hk (Nat.not_lt_zero k), fun i k h hk => absurd hk (Nat.not_lt_zero k)⟩, ⟨fun j hj => ?_, fun k hk => absurd hk (Nat.not_lt_zero k), fun c hc => ?_⟩, fun j hj => ?_, fun k hk => absurd hk (Nat.not_lt_zero k)⟩, ⟨⟨by decide, by decide, ?_, fun i hi => ⟨by show 1 ≤ i + 1; omega, by show i + 1 ≤ 9; omega⟩⟩, ?_, ?_, fun i hi => ?_, fun i hi => ?_⟩, ⟨0, by decide, ?_, h4.1, fun j hj => absurd hj (Nat.not_lt_zero j)⟩, ⟨0, by decide, ?_, h4.2.1, fun j hj => absurd hj (Nat.not_lt_zero j)⟩, ⟨0, by decide, ?_, h4.2.2.2, fun j hj => absurd hj (Nat.not_lt_zero j)⟩, ⟨0, by decide, ?_, fun i hi => ?_⟩, ⟨0, by decide, ?_, h4.2.2.1, fun j hj => absurd hj (Nat.not_lt_zero j)⟩⟩
  · show σ 7 j = _
    rw [hB 7 (by decide)]
    match j, hj with
    | 0, _ => rfl
    | 1, _ => rfl
    | 2, _ => rfl
    | 3, _ => rfl
  · have hc0 : c = 0 := by
      have : (2 : Nat) ^ T_0 3 = 1 := rfl
      omega
    subst hc0
    show σ 12 0 = _ ∧ σ 13 0 = _ ∧ σ 14 0 = _
    rw [hB 12 (by decide), hB 13 (by decide), hB 14 (by decide), T0_live, T0_earth, T0_held]
    exact ⟨rfl, rfl, rfl⟩
  · rw [h2 j (by omega)]
    match j, hj with
    | 0, _ => rfl
    | 1, _ => rfl
    | 2, _ => rfl
    | 3, _ => rfl
  · show liveM T_0 0 &&& earthM T_0 0 = 0
    rw [T0_live, T0_earth]
    rfl
  · rw [hB 0 (by decide)]; rfl
  · rw [hB 0 (by decide)]; rfl
  · rw [hB 25 (by decide)]
    match i, hi with
    | 0, _ => rfl
    | 1, _ => rfl
    | 2, _ => rfl
  · match i, hi with
    | 0, _ => exact h3.1
    | 1, _ => exact h3.2.1
    | 2, _ => exact h3.2.2.1
    | 3, _ => exact h3.2.2.2.1
    | 4, _ => exact h3.2.2.2.2
  · rw [hB 1 (by decide)]; rfl
  · rw [hB 0 (by decide)]; rfl
  · rw [hB 0 (by decide)]; rfl
  · rw [hB 0 (by decide)]; rfl
  · match i, hi with
    | 0, _ => exact ⟨h5.1, fun h => by simp at h⟩
    | 1, _ => exact ⟨h5.2, fun h => by simp at h⟩
  · rw [hB 0 (by decide)]; rfl
