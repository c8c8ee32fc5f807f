/-! The order of the switches: by kinds, then by names. -/
def so_ky (T : Nat → Nat) (k : Nat) : Nat := 100 * T (4 + k) + T (12 + k)
/-- how many of the first j switches come ahead of b -/
def so_cb (T : Nat → Nat) (b : Nat) : Nat → Nat
  | 0 => 0
  | j + 1 => so_cb T b j + (if so_ky T j < b then 1 else 0)
theorem so_cb_le (T : Nat → Nat) (b : Nat) : ∀ j, so_cb T b j ≤ j
  | 0 => Nat.le_refl _
  | j + 1 => by
    have h := so_cb_le T b j
    show so_cb T b j + (if so_ky T j < b then 1 else 0) ≤ j + 1
    split <;> omega
theorem so_cb_mono {T : Nat → Nat} {b b' : Nat} (hb : b ≤ b') : ∀ j, so_cb T b j ≤ so_cb T b' j
  | 0 => Nat.le_refl _
  | j + 1 => by
    have h := so_cb_mono (T := T) hb j
    show so_cb T b j + (if so_ky T j < b then 1 else 0) ≤ so_cb T b' j + (if so_ky T j < b' then 1 else 0)
    split <;> split <;> omega
theorem so_cb_congr {T : Nat → Nat} {b b' : Nat} : ∀ j, (∀ i, i < j → (so_ky T i < b ↔ so_ky T i < b')) → so_cb T b j = so_cb T b' j
  | 0, _ => rfl
  | j + 1, h => by
    have ih := so_cb_congr (T := T) (b := b) (b' := b') j (fun i hi => h i (by omega))
    have hj := h j (Nat.lt_succ_self j)
    show so_cb T b j + (if so_ky T j < b then 1 else 0) = so_cb T b' j + (if so_ky T j < b' then 1 else 0)
    split <;> split <;> omega
theorem so_cb_zero {T : Nat → Nat} {b : Nat} : ∀ j, (∀ i, i < j → b ≤ so_ky T i) → so_cb T b j = 0
  | 0, _ => rfl
  | j + 1, h => by
    have ih := so_cb_zero (T := T) (b := b) j (fun i hi => h i (by omega))
    have hj := h j (Nat.lt_succ_self j)
    show so_cb T b j + (if so_ky T j < b then 1 else 0) = 0
    split <;> omega
theorem so_cb_all {T : Nat → Nat} {b : Nat} : ∀ j, (∀ i, i < j → so_ky T i < b) → so_cb T b j = j
  | 0, _ => rfl
  | j + 1, h => by
    have ih := so_cb_all (T := T) (b := b) j (fun i hi => h i (by omega))
    have hj := h j (Nat.lt_succ_self j)
    show so_cb T b j + (if so_ky T j < b then 1 else 0) = j + 1
    split <;> omega
theorem so_cb_one {T : Nat → Nat} {b i : Nat} (hi : so_ky T i = b) : ∀ j, i < j → (∀ i', i' < j → so_ky T i' = b → i' = i) → so_cb T (b + 1) j = so_cb T b j + 1
  | 0, h, _ => by omega
  | j + 1, h, hu => by
    show so_cb T (b + 1) j + (if so_ky T j < b + 1 then 1 else 0) = so_cb T b j + (if so_ky T j < b then 1 else 0) + 1
    by_cases e : i = j
    · subst e
      have q := so_cb_congr (T := T) (b := b + 1) (b' := b) i (fun i' h' => by
        have : so_ky T i' ≠ b := fun q => by
          have := hu i' (by omega) q
          omega
        omega)
      split <;> split <;> omega
    · have ih := so_cb_one hi j (by omega) (fun i' h' => hu i' (by omega))
      have hj : so_ky T j ≠ b := fun q => e (hu j (by omega) q).symm
      split <;> split <;> omega
theorem so_ky_inj {T : Nat → Nat} (hw : WFT T) {i k : Nat} (hi : i < T 3) (hk : k < T 3) (e : so_ky T i = so_ky T k) : i = k := by
  have h1 := hw.2.2.2.1 i hi
  have h2 := hw.2.2.2.1 k hk
  unfold so_ky at e
  have a1 := h1.1
  have a2 := h1.2.1
  have b1 := h2.1
  have b2 := h2.2.1
  exact name_inj hw hi hk (by omega)
theorem so_ky_b {T : Nat → Nat} (hw : WFT T) {k : Nat} (hk : k < T 3) : 97 ≤ so_ky T k ∧ so_ky T k < 323 := by
  have h1 := hw.2.2.2.1 k hk
  have a1 := h1.1
  have a2 := h1.2.1
  unfold so_ky
  omega
def so_rk (T : Nat → Nat) (k : Nat) : Nat := so_cb T (so_ky T k) (T 3)
section SO
variable {T : Nat → Nat}
theorem so_rk_step (hw : WFT T) {k : Nat} (hk : k < T 3) : so_cb T (so_ky T k + 1) (T 3) = so_rk T k + 1 := so_cb_one rfl (T 3) hk (fun _ h' e => so_ky_inj hw h' hk e)
theorem so_rk_n (hw : WFT T) {k : Nat} (hk : k < T 3) : so_rk T k < T 3 := by
  have h1 := so_rk_step hw hk
  have h2 := so_cb_le T (so_ky T k + 1) (T 3)
  omega
theorem so_rk_lt (hw : WFT T) {i k : Nat} (hi : i < T 3) (h : so_ky T i < so_ky T k) : so_rk T i < so_rk T k := by
  have h1 := so_rk_step hw hi
  have h2 : so_cb T (so_ky T i + 1) (T 3) ≤ so_rk T k := so_cb_mono h (T 3)
  omega
theorem so_rk_inj (hw : WFT T) {i k : Nat} (hi : i < T 3) (hk : k < T 3) (e : so_rk T i = so_rk T k) : i = k := by
  rcases Nat.lt_trichotomy (so_ky T i) (so_ky T k) with h | h | h
  · have := so_rk_lt hw hi h
    omega
  · exact so_ky_inj hw hi hk h
  · have := so_rk_lt hw hk h
    omega
theorem so_cov (hw : WFT T) : ∀ b i, i < so_cb T b (T 3) → ∃ j, j < T 3 ∧ so_ky T j < b ∧ so_rk T j = i
  | 0, i, h => by
    rw [so_cb_zero (T 3) (fun i _ => Nat.zero_le _)] at h
    exact absurd h (Nat.not_lt_zero _)
  | b + 1, i, h => by
    by_cases e : ∃ j, j < T 3 ∧ so_ky T j = b
    · obtain ⟨j, hj, hb⟩ := e
      have hs := so_rk_step hw hj
      have hr : so_rk T j = so_cb T b (T 3) := by
        unfold so_rk
        rw [hb]
      rw [hb] at hs
      by_cases q : i = so_rk T j
      · exact ⟨j, hj, by omega, q.symm⟩
      · obtain ⟨j', a1, a2, a3⟩ := so_cov hw b i (by omega)
        exact ⟨j', a1, by omega, a3⟩
    · have q := so_cb_congr (T := T) (b := b + 1) (b' := b) (T 3) (fun i' h' => by
        have : so_ky T i' ≠ b := fun z => e ⟨i', h', z⟩
        omega)
      obtain ⟨j', a1, a2, a3⟩ := so_cov hw b i (by omega)
      exact ⟨j', a1, by omega, a3⟩
/-- who comes to place i -/
noncomputable def so_iv (T : Nat → Nat) (i : Nat) : Nat := Classical.epsilon (fun j => j < T 3 ∧ so_rk T j = i)
theorem so_iv_ok (hw : WFT T) {i : Nat} (hi : i < T 3) : so_iv T i < T 3 ∧ so_rk T (so_iv T i) = i := by
  have h : ∃ j, j < T 3 ∧ so_rk T j = i := by
    obtain ⟨j, a1, _, a3⟩ := so_cov hw 323 i (by
      rw [so_cb_all (T 3) (fun i h => (so_ky_b hw h).2)]
      exact hi)
    exact ⟨j, a1, a3⟩
  exact Classical.epsilon_spec h
theorem so_iv_of (hw : WFT T) {i j : Nat} (hj : j < T 3) (e : so_rk T j = i) : so_iv T i = j := by
  subst e
  have h := so_iv_ok hw (so_rk_n hw hj)
  exact so_rk_inj hw h.1 hj h.2
noncomputable def so_T (T : Nat → Nat) (m : Nat) : Nat := if m < 4 then T m else if m < 12 then T (4 + so_iv T (m - 4)) else if m < 20 then T (12 + so_iv T (m - 12)) else if m < 28 then T (20 + so_iv T (m - 20)) else T (28 + so_iv T (m - 28))
noncomputable def so_C (T : Nat → Nat) (c : Nat) : Nat := mk (T 3) (fun i => c.testBit (so_iv T i) = true)
theorem so_T_lo {j : Nat} (h : j < 4) : so_T T j = T j := if_pos h
theorem so_T_k {k : Nat} (h : k < 8) : so_T T (4 + k) = T (4 + so_iv T k) ∧ so_T T (12 + k) = T (12 + so_iv T k) ∧ so_T T (20 + k) = T (20 + so_iv T k) ∧ so_T T (28 + k) = T (28 + so_iv T k) := by
  have e1 : 4 + k - 4 = k := by omega
  have e2 : 12 + k - 12 = k := by omega
  have e3 : 20 + k - 20 = k := by omega
  have e4 : 28 + k - 28 = k := by omega
  unfold so_T
  refine ⟨?_, ?_, ?_, ?_⟩
  · rw [if_neg (by omega), if_pos (by omega), e1]
  · rw [if_neg (by omega), if_neg (by omega), if_pos (by omega), e2]
  · rw [if_neg (by omega), if_neg (by omega), if_neg (by omega), if_pos (by omega), e3]
  · rw [if_neg (by omega), if_neg (by omega), if_neg (by omega), if_neg (by omega), e4]
theorem so_T3 : so_T T 3 = T 3 := so_T_lo (by decide)
theorem so_perm {T' : Nat → Nat} (h : WFT T) (h4 : ∀ j, j < 4 → T' j = T j) (f : Nat → Nat) (hf : ∀ k, k < T 3 → f k < T 3 ∧ T' (4 + k) = T (4 + f k) ∧ T' (12 + k) = T (12 + f k) ∧ T' (20 + k) = T (20 + f k) ∧ T' (28 + k) = T (28 + f k)) (hi : ∀ i k, i < k → k < T 3 → ¬ f i = f k) : WFT T' := by
  unfold WFT
  rw [h4 0 (by decide), h4 1 (by decide), h4 2 (by decide), h4 3 (by decide)]
  refine ⟨h.1, h.2.1, h.2.2.1, fun k hk => ?_, fun i k hik hk => ?_⟩
  · obtain ⟨a, b, c, d, e⟩ := hf k hk
    rw [b, c, d, e]
    exact h.2.2.2.1 _ a
  · have hi3 : i < T 3 := by omega
    rw [(hf i hi3).2.2.1, (hf k hk).2.2.1]
    exact fun q => hi i k hik hk (name_inj h (hf i hi3).1 (hf k hk).1 q)
theorem so_wf (hw : WFT T) : WFT (so_T T) := so_perm hw (fun j hj => so_T_lo hj) (so_iv T) (fun k hk => ⟨(so_iv_ok hw hk).1, so_T_k (Nat.lt_of_lt_of_le hk hw.2.2.1)⟩) (fun i k hik hk e => by
  have h1 := (so_iv_ok hw (Nat.lt_trans hik hk)).2
  have h2 := (so_iv_ok hw hk).2
  rw [e] at h1
  omega)
theorem so_kyT (hw : WFT T) {k : Nat} (hk : k < T 3) : so_ky (so_T T) k = so_ky T (so_iv T k) := by
  have h := so_T_k (T := T) (Nat.lt_of_lt_of_le hk hw.2.2.1)
  unfold so_ky
  rw [h.1, h.2.1]
theorem so_srt (hw : WFT T) {i k : Nat} (hik : i < k) (hk : k < T 3) : so_ky (so_T T) i < so_ky (so_T T) k := by
  have hi : i < T 3 := Nat.lt_trans hik hk
  rw [so_kyT hw hi, so_kyT hw hk]
  have a := so_iv_ok hw hi
  have b := so_iv_ok hw hk
  rcases Nat.lt_trichotomy (so_ky T (so_iv T i)) (so_ky T (so_iv T k)) with h | h | h
  · exact h
  · have e := so_ky_inj hw a.1 b.1 h
    rw [e] at a
    omega
  · have e := so_rk_lt hw b.1 h
    omega
end SO
def so_row (T : Nat → Nat) (c l k : Nat) : Nat × Nat × Nat × Nat × Bool × Bool := (T (4 + k), T (12 + k), T (20 + k), T (28 + k), c.testBit k, l.testBit k)
theorem so_row_e {T T' : Nat → Nat} {c l k c' l' k' : Nat} (h : so_row T c l k = so_row T' c' l' k') : T (4 + k) = T' (4 + k') ∧ T (12 + k) = T' (12 + k') ∧ T (20 + k) = T' (20 + k') ∧ T (28 + k) = T' (28 + k') ∧ c.testBit k = c'.testBit k' ∧ l.testBit k = l'.testBit k' := by
  unfold so_row at h
  simp only [Prod.mk.injEq] at h
  exact h
theorem so_row_k {T T' : Nat → Nat} {c l k c' l' k' : Nat} (h : so_row T c l k = so_row T' c' l' k') : so_ky T k = so_ky T' k' := by
  have q := so_row_e h
  unfold so_ky
  rw [q.1, q.2.1]
def so_Prm (T : Nat → Nat) (c l : Nat) (T' : Nat → Nat) (c' l' : Nat) : Prop := (∀ j, j < 4 → T' j = T j) ∧ (∀ k, k < T 3 → ∃ j, j < T 3 ∧ so_row T' c' l' k = so_row T c l j) ∧ ∀ j, j < T 3 → ∃ k, k < T 3 ∧ so_row T' c' l' k = so_row T c l j
theorem so_Prm.rf {T : Nat → Nat} {c l : Nat} : so_Prm T c l T c l := ⟨fun _ _ => rfl, fun k hk => ⟨k, hk, rfl⟩, fun k hk => ⟨k, hk, rfl⟩⟩
theorem so_uq {f g : Nat → Nat} {n : Nat} (hf : ∀ i k, i < k → k < n → f i < f k) (hg : ∀ i k, i < k → k < n → g i < g k) (h1 : ∀ k, k < n → ∃ j, j < n ∧ f k = g j) (h2 : ∀ k, k < n → ∃ j, j < n ∧ g k = f j) : ∀ k, k < n → f k = g k := by
  intro k
  induction k using Nat.strongRecOn with
  | _ k ih =>
    intro hk
    rcases Nat.lt_trichotomy (f k) (g k) with h | h | h
    · obtain ⟨j, hj, e⟩ := h1 k hk
      rcases Nat.lt_trichotomy j k with q | q | q
      · have a := ih j q hj
        have b := hf j k q hk
        omega
      · subst q
        omega
      · have := hg k j q hj
        omega
    · exact h
    · obtain ⟨j, hj, e⟩ := h2 k hk
      rcases Nat.lt_trichotomy j k with q | q | q
      · have a := ih j q hj
        have b := hg j k q hk
        omega
      · subst q
        omega
      · have := hf k j q hj
        omega
theorem so_rows {T T1 : Nat → Nat} {c l c1 l1 : Nat} (hw : WFT T) (hp : so_Prm T c l T1 c1 l1) (hs : ∀ i k, i < k → k < T 3 → so_ky T1 i < so_ky T1 k) {k : Nat} (hk : k < T 3) : so_row T1 c1 l1 k = so_row T c l (so_iv T k) := by
  have e := so_uq (f := so_ky T1) (g := so_ky (so_T T)) (n := T 3) hs (fun i k a b => so_srt hw a b) (fun m hm => by
      obtain ⟨j, hj, e⟩ := hp.2.1 m hm
      refine ⟨so_rk T j, so_rk_n hw hj, ?_⟩
      rw [so_kyT hw (so_rk_n hw hj), so_iv_of hw hj rfl]
      exact so_row_k e) (fun m hm => by
      obtain ⟨j, hj, e⟩ := hp.2.2 (so_iv T m) (so_iv_ok hw hm).1
      refine ⟨j, hj, ?_⟩
      rw [so_kyT hw hm]
      exact (so_row_k e).symm) k hk
  obtain ⟨j, hj, ej⟩ := hp.2.1 k hk
  rw [so_kyT hw hk, so_row_k ej] at e
  rw [ej, so_ky_inj hw hj (so_iv_ok hw hk).1 e]
theorem sec_eq {T T' : Nat → Nat} {k k' : Nat} (h1 : T (4 + k) = T' (4 + k')) (h2 : T (28 + k) = T' (28 + k')) : sec T k = sec T' k' := by
  unfold sec
  rw [h1, h2]
theorem so_C_of {T : Nat → Nat} {c c1 : Nat} (hc1 : c1 < 2 ^ T 3) (h : ∀ k, k < T 3 → c1.testBit k = c.testBit (so_iv T k)) : c1 = so_C T c := mk_eq (fun i => ⟨fun q => ⟨lt_bit hc1 q, (h i (lt_bit hc1 q)).symm.trans q⟩, fun q => (h i q.1).trans q.2⟩)
theorem DrM.srt {σ : gT1} {T T1 : Nat → Nat} {c l c1 l1 : Nat} (hw : WFT T) (hp : so_Prm T c l T1 c1 l1) (hc1 : c1 < 2 ^ T 3) (hl1 : l1 < 2 ^ T 3) (hs : ∀ i k, i < k → k < T 3 → so_ky T1 i < so_ky T1 k) (hd : DrM σ T1 c1 l1) : DrM σ (so_T T) (so_C T c) (so_C T l) := by
  obtain ⟨⟨d1, d2⟩, d3, d4, d5⟩ := hd
  have e3 : T1 3 = T 3 := hp.1 3 (by decide)
  have r := fun (k : Nat) (hk : k < T 3) => so_row_e (so_rows hw hp hs hk)
  have ec : c1 = so_C T c := so_C_of hc1 (fun k hk => (r k hk).2.2.2.2.1)
  have el : l1 = so_C T l := so_C_of hl1 (fun k hk => (r k hk).2.2.2.2.2)
  refine ⟨⟨fun j hj => ?_, fun k hk => ?_⟩, by rw [← ec]; exact d3, by rw [← el]; exact d4, d5⟩
  · rw [so_T_lo hj, ← hp.1 j hj]
    exact d1 j hj
  · rw [so_T3] at hk
    have q := r k hk
    have s := so_T_k (T := T) (k := k) (Nat.lt_of_lt_of_le hk hw.2.2.1)
    have z := d2 k (by rw [e3]; exact hk)
    rw [s.1, s.2.1, s.2.2.1, ← q.1, ← q.2.1, ← q.2.2.1, sec_eq (T := so_T T) (T' := T1) (k := k) (k' := k) (s.1.trans q.1.symm) (s.2.2.2.trans q.2.2.2.1.symm)]
    exact z
/-! Two neighbours change their places. -/
def so_tr (k i : Nat) : Nat := if i = k then k + 1 else if i = k + 1 then k else i
theorem so_tr_1 (k : Nat) : so_tr k k = k + 1 := if_pos rfl
theorem so_tr_2 (k : Nat) : so_tr k (k + 1) = k := by
  unfold so_tr
  rw [if_neg (by omega), if_pos rfl]
theorem so_tr_o {k i : Nat} (h1 : i ≠ k) (h2 : i ≠ k + 1) : so_tr k i = i := by
  unfold so_tr
  rw [if_neg h1, if_neg h2]
theorem so_tr_tr (k i : Nat) : so_tr k (so_tr k i) = i := by
  by_cases e1 : i = k
  · subst e1
    rw [so_tr_1, so_tr_2]
  · by_cases e2 : i = k + 1
    · subst e2
      rw [so_tr_2, so_tr_1]
    · rw [so_tr_o e1 e2, so_tr_o e1 e2]
theorem so_tr_lt {k i n : Nat} (hk : k + 1 < n) (hi : i < n) : so_tr k i < n := by
  unfold so_tr
  split
  · omega
  · split <;> omega
def so_sw {α : Type} (f : Nat → α) (k m : Nat) : α := if m = 28 + k + 1 then f (28 + k) else if m = 28 + k then f (28 + k + 1) else if m = 20 + k + 1 then f (20 + k) else if m = 20 + k then f (20 + k + 1) else if m = 12 + k + 1 then f (12 + k) else if m = 12 + k then f (12 + k + 1) else if m = 4 + k + 1 then f (4 + k) else if m = 4 + k then f (4 + k + 1) else f m
theorem so_sw_lo {α : Type} {f : Nat → α} {k j : Nat} (hj : j < 4) : so_sw f k j = f j := by
  unfold so_sw
  rw [if_neg (by omega), if_neg (by omega), if_neg (by omega), if_neg (by omega), if_neg (by omega), if_neg (by omega), if_neg (by omega), if_neg (by omega)]
theorem so_sw_a {α : Type} {f : Nat → α} {k i : Nat} (hk : k + 1 < 8) (hi : i < 8) : so_sw f k (4 + i) = f (4 + so_tr k i) := by
  unfold so_sw so_tr
  repeat' split
  all_goals first
    | exact congrArg f (by omega)
    | (exfalso; omega)
theorem so_sw_b {α : Type} {f : Nat → α} {k i : Nat} (hk : k + 1 < 8) (hi : i < 8) : so_sw f k (12 + i) = f (12 + so_tr k i) := by
  unfold so_sw so_tr
  repeat' split
  all_goals first
    | exact congrArg f (by omega)
    | (exfalso; omega)
theorem so_sw_c {α : Type} {f : Nat → α} {k i : Nat} (hk : k + 1 < 8) (hi : i < 8) : so_sw f k (20 + i) = f (20 + so_tr k i) := by
  unfold so_sw so_tr
  repeat' split
  all_goals first
    | exact congrArg f (by omega)
    | (exfalso; omega)
theorem so_sw_d {α : Type} {f : Nat → α} {k i : Nat} (hk : k + 1 < 8) (hi : i < 8) : so_sw f k (28 + i) = f (28 + so_tr k i) := by
  unfold so_sw so_tr
  repeat' split
  all_goals first
    | exact congrArg f (by omega)
    | (exfalso; omega)
def so_swC (c k : Nat) : Nat := if bI (c.testBit k) = bI (c.testBit (k + 1)) then c else c ^^^ (3 * 2 ^ k)
theorem bI_inj {a b : Bool} (h : bI a = bI b) : a = b := by
  cases a <;> cases b
  · rfl
  · exact absurd h (by decide)
  · exact absurd h (by decide)
  · rfl
theorem so_three {k i : Nat} : (3 * 2 ^ k).testBit i = decide (i = k ∨ i = k + 1) := by
  rw [Nat.testBit_mul_two_pow]
  by_cases h : k ≤ i
  · rw [decide_eq_true h, Bool.true_and]
    by_cases h0 : i = k
    · subst h0
      rw [Nat.sub_self, decide_eq_true (show i = i ∨ i = i + 1 from Or.inl rfl)]
      rfl
    · by_cases h1 : i = k + 1
      · subst h1
        rw [show k + 1 - k = 1 by omega, decide_eq_true (show k + 1 = k ∨ k + 1 = k + 1 from Or.inr rfl)]
        rfl
      · rw [decide_eq_false (show ¬ (i = k ∨ i = k + 1) by omega)]
        exact Nat.testBit_lt_two_pow (Nat.lt_of_lt_of_le (by decide : 3 < 2 ^ 2) (Nat.pow_le_pow_right (by decide) (by omega)))
  · rw [decide_eq_false h, Bool.false_and, decide_eq_false (show ¬ (i = k ∨ i = k + 1) by omega)]
theorem so_swC_bit {c k i : Nat} : (so_swC c k).testBit i = c.testBit (so_tr k i) := by
  unfold so_swC
  by_cases h : bI (c.testBit k) = bI (c.testBit (k + 1))
  · rw [if_pos h]
    have e := bI_inj h
    by_cases e1 : i = k
    · subst e1
      rw [so_tr_1]
      exact e
    · by_cases e2 : i = k + 1
      · subst e2
        rw [so_tr_2]
        exact e.symm
      · rw [so_tr_o e1 e2]
  · rw [if_neg h, Nat.testBit_xor, so_three]
    have hne : ¬ c.testBit k = c.testBit (k + 1) := fun q => h (congrArg bI q)
    by_cases e1 : i = k
    · subst e1
      rw [so_tr_1, decide_eq_true (show i = i ∨ i = i + 1 from Or.inl rfl)]
      revert hne
      cases c.testBit i <;> cases c.testBit (i + 1) <;> simp
    · by_cases e2 : i = k + 1
      · subst e2
        rw [so_tr_2, decide_eq_true (show k + 1 = k ∨ k + 1 = k + 1 from Or.inr rfl)]
        revert hne
        cases c.testBit k <;> cases c.testBit (k + 1) <;> simp
      · rw [so_tr_o e1 e2, decide_eq_false (show ¬ (i = k ∨ i = k + 1) by omega), Bool.xor_false]
theorem so_swC_lt {c k n : Nat} (hk : k + 1 < n) (hc : c < 2 ^ n) : so_swC c k < 2 ^ n := lt_of_bits (fun i h => by
  rw [so_swC_bit] at h
  have q := so_tr_lt hk (lt_bit hc h)
  rw [so_tr_tr] at q
  exact q)
theorem so_row_sw {T : Nat → Nat} {c l k i : Nat} (hk : k + 1 < 8) (hi : i < 8) : so_row (so_sw T k) (so_swC c k) (so_swC l k) i = so_row T c l (so_tr k i) := by
  unfold so_row
  rw [so_sw_a hk hi, so_sw_b hk hi, so_sw_c hk hi, so_sw_d hk hi, so_swC_bit, so_swC_bit]
theorem so_Prm.sw {T T1 : Nat → Nat} {c l c1 l1 k : Nat} (hp : so_Prm T c l T1 c1 l1) (h8 : T 3 ≤ 8) (hk : k + 1 < T 3) : so_Prm T c l (so_sw T1 k) (so_swC c1 k) (so_swC l1 k) :=
  ⟨fun j hj => (so_sw_lo hj).trans (hp.1 j hj), fun i hi => by
    obtain ⟨j, hj, e⟩ := hp.2.1 (so_tr k i) (so_tr_lt hk hi)
    exact ⟨j, hj, (so_row_sw (by omega) (by omega)).trans e⟩, fun j hj => by
    obtain ⟨i, hi, e⟩ := hp.2.2 j hj
    refine ⟨so_tr k i, so_tr_lt hk hi, ?_⟩
    have q := so_tr_lt hk hi
    rw [so_row_sw (by omega) (by omega), so_tr_tr]
    exact e⟩
theorem so_sw_wf {T : Nat → Nat} {k : Nat} (hw : WFT T) (hk : k + 1 < T 3) : WFT (so_sw T k) := by
  have h8 := hw.2.2.1
  refine so_perm hw (fun j hj => so_sw_lo hj) (so_tr k) (fun i hi => ⟨so_tr_lt hk hi, so_sw_a (by omega) (by omega), so_sw_b (by omega) (by omega), so_sw_c (by omega) (by omega), so_sw_d (by omega) (by omega)⟩) (fun i j hij hj e => ?_)
  have q := congrArg (so_tr k) e
  rw [so_tr_tr, so_tr_tr] at q
  omega
theorem so_sw_ky {T : Nat → Nat} {k i : Nat} (hk : k + 1 < 8) (hi : i < 8) : so_ky (so_sw T k) i = so_ky T (so_tr k i) := by
  unfold so_ky
  rw [so_sw_a hk hi, so_sw_b hk hi]
theorem so_sw_told {f : Nat → Int32} {T : Nat → Nat} {k : Nat} (h : ToldM f T) (h8 : T 3 ≤ 8) (hk : k + 1 < T 3) : ToldM (so_sw f k) (so_sw T k) := by
  refine ⟨fun j hj => ?_, fun i hi => ?_⟩
  · rw [so_sw_lo hj, so_sw_lo hj]
    exact h.1 j hj
  · rw [so_sw_lo (by decide)] at hi
    have q := h.2 (so_tr k i) (so_tr_lt hk hi)
    have k8 : k + 1 < 8 := by omega
    have i8 : i < 8 := by omega
    rw [so_sw_a k8 i8, so_sw_b k8 i8, so_sw_c k8 i8, so_sw_d k8 i8, so_sw_a k8 i8, so_sw_b k8 i8, so_sw_c k8 i8, sec_eq (T := so_sw T k) (T' := T) (k := i) (k' := so_tr k i) (so_sw_a k8 i8) (so_sw_d k8 i8)]
    exact q
/-! Rounds of such changes bring all into order. -/
def so_I (f : Nat → Nat) (n r k : Nat) : Prop := (∀ i j, i < j → j < n → n ≤ j + r → f i < f j) ∧ ∀ i j, i < j → (j = k ∧ k + r + 1 ≤ n ∨ j + r + 1 = n ∧ n ≤ k + r + 1) → f i < f j
theorem so_I.z {f : Nat → Nat} {n : Nat} : so_I f n 0 0 := ⟨fun i j h1 h2 h3 => by omega, fun i j h1 h2 => by omega⟩
theorem so_I.keep {f : Nat → Nat} {n r k : Nat} (h : so_I f n r k) (hk : k + 1 < n) (hlt : f k < f (k + 1)) : so_I f n r (k + 1) := by
  have key : ∀ i, i < k + 1 → k + r + 1 < n → f i < f (k + 1) := fun i hi hn => by
    by_cases e : i = k
    · subst e
      exact hlt
    · have := h.2 i k (by omega) (Or.inl ⟨rfl, by omega⟩)
      omega
  refine ⟨h.1, fun i j hij hj => ?_⟩
  by_cases q : n ≤ k + r + 1
  · exact h.2 i j hij (Or.inr (by omega))
  · obtain rfl : j = k + 1 := by omega
    exact key i hij (by omega)
theorem so_I.swap {f f' : Nat → Nat} {n r k : Nat} (h : so_I f n r k) (hk : k + 1 < n) (hgt : f (k + 1) < f k) (hf : ∀ i, i < n → f' i = f (so_tr k i)) : so_I f' n r (k + 1) := by
  have hn : ¬ n ≤ k + 1 + r := fun q => by
    have := h.1 k (k + 1) (by omega) hk q
    omega
  have e1 : f' k = f (k + 1) := (hf k (by omega)).trans (by rw [so_tr_1])
  have e2 : f' (k + 1) = f k := (hf (k + 1) hk).trans (by rw [so_tr_2])
  have eo : ∀ i, i < n → i ≠ k → i ≠ k + 1 → f' i = f i := fun i hi a b => (hf i hi).trans (by rw [so_tr_o a b])
  refine ⟨fun i j hij hj hr => ?_, fun i j hij hj => ?_⟩
  · rw [eo j hj (by omega) (by omega)]
    by_cases a : i = k
    · subst a
      rw [e1]
      exact h.1 _ j (by omega) hj hr
    · by_cases b : i = k + 1
      · subst b
        rw [e2]
        exact h.1 _ j (by omega) hj hr
      · rw [eo i (by omega) a b]
        exact h.1 i j hij hj hr
  · obtain rfl : j = k + 1 := by omega
    rw [e2]
    by_cases a : i = k
    · subst a
      rw [e1]
      exact hgt
    · rw [eo i (by omega) a (by omega)]
      exact h.2 i k (by omega) (Or.inl ⟨rfl, by omega⟩)
theorem so_I.next {f : Nat → Nat} {n r k : Nat} (h : so_I f n r k) (hk : n ≤ k + 1) : so_I f n (r + 1) 0 := ⟨fun i j hij hj hr => by
  by_cases q : n ≤ j + r
  · exact h.1 i j hij hj q
  · exact h.2 i j hij (Or.inr (by omega)), fun i j hij hj => by omega⟩
theorem so_I.done {f : Nat → Nat} {n r k : Nat} (h : so_I f n r k) (hr : n ≤ r) : ∀ i j, i < j → j < n → f i < f j := fun i j hij hj => h.1 i j hij hj (by omega)
