/-! What a text tells, as numbers: the draft on either side, and one item. -/
noncomputable def cif {α : Type} (P : Prop) (x y : α) : α := @ite _ P (Classical.propDecidable _) x y
theorem cif_pos {α : Type} {P : Prop} {x y : α} (h : P) : cif P x y = x := if_pos h
theorem cif_neg {α : Type} {P : Prop} {x y : α} (h : ¬ P) : cif P x y = y := if_neg h
/-- names by their places from a on; those among them that are marked -/
noncomputable def nmM (T : Nat → Nat) : Nat := mk 26 (fun x => ∃ k, k < T 3 ∧ T (12 + k) = 97 + x)
noncomputable def bnM (T : Nat → Nat) (c : Nat) : Nat := mk 26 (fun x => ∃ k, k < T 3 ∧ T (12 + k) = 97 + x ∧ c.testBit k = true)
def DrC (σ : gT1) (T : Nat → Nat) (c l : Nat) : Prop := (σ 3 0 = nI (T 0) ∧ σ 3 1 = nI (T 1) ∧ σ 3 2 = nI (T 2) ∧ σ 3 3 = nI (nmM T) ∧ σ 3 4 = nI (bnM T c) ∧ σ 3 5 = nI (bnM T l)) ∧ ∀ k, k < T 3 → σ 4 (T (12 + k) - 97) = nI (T (4 + k)) ∧ σ 5 (T (12 + k) - 97) = nI (T (20 + k)) ∧ σ 6 (T (12 + k) - 97) = sec T k
def DrM (σ : gT1) (T : Nat → Nat) (c l : Nat) : Prop := ToldM (σ 34) T ∧ σ 35 0 = nI c ∧ σ 35 1 = nI l ∧ σ 35 2 = nI 1 ∧ σ 35 3 = nI 2 ∧ σ 35 4 = nI 3
def WFD (T : Nat → Nat) (c l : Nat) : Prop := WFT T ∧ c < 2 ^ T 3 ∧ l < 2 ^ T 3 ∧ pcn 26 (nmM T) = T 3
theorem DrC.fr {σ σ' : gT1} {T : Nat → Nat} {c l : Nat} (h : DrC σ T c l) (e3 : σ' 3 = σ 3) (e4 : σ' 4 = σ 4) (e5 : σ' 5 = σ 5) (e6 : σ' 6 = σ 6) : DrC σ' T c l := by
  unfold DrC
  rw [e3, e4, e5, e6]
  exact h
theorem DrM.fr {σ σ' : gT1} {T : Nat → Nat} {c l : Nat} (h : DrM σ T c l) (e3 : σ' 34 = σ 34) (e4 : σ' 35 = σ 35) : DrM σ' T c l := by
  unfold DrM
  rw [e3, e4]
  exact h
theorem nm_congr {T T' : Nat → Nat} (h3 : T' 3 = T 3) (h : ∀ k, k < T 3 → T' (12 + k) = T (12 + k)) : nmM T' = nmM T := mk_congr (fun x _ => by
  rw [h3]
  constructor
  · rintro ⟨k, h1, h2⟩
    exact ⟨k, h1, (h k h1).symm.trans h2⟩
  · rintro ⟨k, h1, h2⟩
    exact ⟨k, h1, (h k h1).trans h2⟩)
theorem bn_congr {T T' : Nat → Nat} (c : Nat) (h3 : T' 3 = T 3) (h : ∀ k, k < T 3 → T' (12 + k) = T (12 + k)) : bnM T' c = bnM T c := mk_congr (fun x _ => by
  rw [h3]
  constructor
  · rintro ⟨k, h1, h2, h4⟩
    exact ⟨k, h1, (h k h1).symm.trans h2, h4⟩
  · rintro ⟨k, h1, h2, h4⟩
    exact ⟨k, h1, (h k h1).trans h2, h4⟩)
theorem nm_bit {T : Nat → Nat} {x : Nat} : (nmM T).testBit x = true ↔ x < 26 ∧ ∃ k, k < T 3 ∧ T (12 + k) = 97 + x := mk_bit _ _ _
theorem bn_bit {T : Nat → Nat} {c x : Nat} : (bnM T c).testBit x = true ↔ x < 26 ∧ ∃ k, k < T 3 ∧ T (12 + k) = 97 + x ∧ c.testBit k = true := mk_bit _ _ _
theorem nm_lt (T : Nat → Nat) : nmM T < 67108864 := mk_lt 26 _
theorem bn_lt (T : Nat → Nat) (c : Nat) : bnM T c < 67108864 := mk_lt 26 _
theorem sec_up {T : Nat → Nat} {i w k : Nat} (hi : i < 4) : sec (updN T i w) k = sec T k := by
  unfold sec
  rw [updN_ne (by omega), updN_ne (by omega)]
theorem DrC.set {σ : gT1} {T : Nat → Nat} {c l i : Nat} (hi : i < 3) (h : DrC σ T c l) (w : Nat) : DrC (g_up σ 3 i (nI w)) (updN T i w) c l := by
  obtain ⟨⟨h0, h1, h2, h3, h4, h5⟩, h6⟩ := h
  have e3 : updN T i w 3 = T 3 := updN_ne (by omega)
  have hk : ∀ k, k < T 3 → updN T i w (12 + k) = T (12 + k) := fun k _ => updN_ne (by omega)
  have key : ∀ j, j < 3 → σ 3 j = nI (T j) → g_up σ 3 i (nI w) 3 j = nI (updN T i w j) := fun j _ e => by
    by_cases q : j = i
    · subst q; rw [g_up_eq, updN_eq]
    · rw [g_up_j q, updN_ne q]; exact e
  refine ⟨⟨key 0 (by decide) h0, key 1 (by decide) h1, key 2 (by decide) h2, ?_, ?_, ?_⟩, fun k hk2 => ?_⟩
  · rw [g_up_j (by omega), nm_congr e3 hk]; exact h3
  · rw [g_up_j (by omega), bn_congr c e3 hk]; exact h4
  · rw [g_up_j (by omega), bn_congr l e3 hk]; exact h5
  · rw [e3] at hk2
    have q := h6 k hk2
    rw [hk k hk2, sec_up (by omega), updN_ne (by omega), updN_ne (by omega), g_up_ne (by decide), g_up_ne (by decide), g_up_ne (by decide)]
    exact q
theorem ToldM.set {f f' : Nat → Int32} {T : Nat → Nat} {i w : Nat} (hi : i < 3) (h : ToldM f T) (e1 : f' i = nI w) (e2 : ∀ j, j ≠ i → f' j = f j) : ToldM f' (updN T i w) := by
  refine ⟨fun j hj => ?_, fun k hk => ?_⟩
  · by_cases q : j = i
    · subst q; rw [updN_eq]; exact e1
    · rw [updN_ne q, e2 j q]; exact h.1 j hj
  · rw [updN_ne (by omega)] at hk
    have q := h.2 k hk
    rw [sec_up (by omega), updN_ne (by omega), updN_ne (by omega), updN_ne (by omega), e2 _ (by omega), e2 _ (by omega), e2 _ (by omega), e2 _ (by omega)]
    exact q
/-- one switch more -/
def addS (T : Nat → Nat) (κ x u v : Nat) : Nat → Nat := updN (updN (updN (updN (updN T (4 + T 3) κ) (12 + T 3) x) (20 + T 3) u) (28 + T 3) v) 3 (T 3 + 1)
section AS
variable {T : Nat → Nat} {κ x u v : Nat}
theorem as_3 : addS T κ x u v 3 = T 3 + 1 := updN_eq _ _ _
theorem as_lo {j : Nat} (h : j < 3) : addS T κ x u v j = T j := by
  unfold addS
  rw [updN_ne (by omega), updN_ne (by omega), updN_ne (by omega), updN_ne (by omega), updN_ne (by omega)]
theorem as_old {j : Nat} (h : 4 ≤ j) (h1 : j ≠ 4 + T 3) (h2 : j ≠ 12 + T 3) (h3 : j ≠ 20 + T 3) (h4 : j ≠ 28 + T 3) : addS T κ x u v j = T j := by
  unfold addS
  rw [updN_ne (by omega), updN_ne (by omega), updN_ne (by omega), updN_ne (by omega), updN_ne (by omega)]
theorem as_n : addS T κ x u v (4 + T 3) = κ ∧ addS T κ x u v (12 + T 3) = x ∧ addS T κ x u v (20 + T 3) = u ∧ addS T κ x u v (28 + T 3) = v := by
  unfold addS
  refine ⟨?_, ?_, ?_, ?_⟩
  · rw [updN_ne (by omega), updN_ne (by omega), updN_ne (by omega), updN_ne (by omega), updN_eq]
  · rw [updN_ne (by omega), updN_ne (by omega), updN_ne (by omega), updN_eq]
  · rw [updN_ne (by omega), updN_ne (by omega), updN_eq]
  · rw [updN_ne (by omega), updN_eq]
end AS
theorem as_k {T : Nat → Nat} {κ x u v k : Nat} (h8 : T 3 < 8) (hk : k < T 3) : addS T κ x u v (4 + k) = T (4 + k) ∧ addS T κ x u v (12 + k) = T (12 + k) ∧ addS T κ x u v (20 + k) = T (20 + k) ∧ addS T κ x u v (28 + k) = T (28 + k) := ⟨as_old (by omega) (by omega) (by omega) (by omega) (by omega), as_old (by omega) (by omega) (by omega) (by omega) (by omega), as_old (by omega) (by omega) (by omega) (by omega) (by omega), as_old (by omega) (by omega) (by omega) (by omega) (by omega)⟩
theorem as_sec {T : Nat → Nat} {κ x u v k : Nat} (h8 : T 3 < 8) (hk : k < T 3) : sec (addS T κ x u v) k = sec T k := by
  unfold sec
  rw [(as_k h8 hk).1, (as_k h8 hk).2.2.2]
theorem as_secn {T : Nat → Nat} {κ x u v : Nat} : sec (addS T κ x u v) (T 3) = if κ = 2 then -9 else nI v := by
  unfold sec
  rw [as_n.1, as_n.2.2.2]
theorem name_inj {T : Nat → Nat} (hw : WFT T) {i k : Nat} (hi : i < T 3) (hk : k < T 3) (e : T (12 + i) = T (12 + k)) : i = k := by
  rcases Nat.lt_trichotomy i k with h | h | h
  · exact absurd e (hw.2.2.2.2 i k h hk)
  · exact h
  · exact absurd e.symm (hw.2.2.2.2 k i h hi)
theorem nm_add {T : Nat → Nat} {κ x u v : Nat} (h8 : T 3 < 8) (hx : x < 26) : nmM T ||| 2 ^ x = nmM (addS T κ (97 + x) u v) := by
  refine mk_eq (fun i => ?_)
  rw [or_bit, nm_bit, as_3]
  constructor
  · rintro (⟨h1, k, h2, h3⟩ | h1)
    · exact ⟨h1, k, by omega, (as_k h8 h2).2.1.trans h3⟩
    · subst h1
      exact ⟨hx, T 3, Nat.lt_succ_self _, as_n.2.1⟩
  · rintro ⟨h1, k, h2, h3⟩
    by_cases e : k = T 3
    · subst e
      rw [as_n.2.1] at h3
      exact Or.inr (by omega)
    · have hk : k < T 3 := by omega
      rw [(as_k h8 hk).2.1] at h3
      exact Or.inl ⟨h1, k, hk, h3⟩
theorem bn_adds {T : Nat → Nat} {κ x u v c : Nat} (h8 : T 3 < 8) (hc : c < 2 ^ T 3) : bnM (addS T κ x u v) c = bnM T c := mk_congr (fun i _ => by
  rw [as_3]
  constructor
  · rintro ⟨k, h1, h2, h3⟩
    have hk := lt_bit hc h3
    exact ⟨k, hk, (as_k h8 hk).2.1.symm.trans h2, h3⟩
  · rintro ⟨k, h1, h2, h3⟩
    exact ⟨k, by omega, (as_k h8 h1).2.1.trans h2, h3⟩)
theorem DrC.add {σ : gT1} {T : Nat → Nat} {c l κ x u v : Nat} {w : Int32} (h : DrC σ T c l) (hw : WFT T) (h8 : T 3 < 8) (hc : c < 2 ^ T 3) (hl : l < 2 ^ T 3) (hx : x < 26) (hno : ∀ k, k < T 3 → ¬ T (12 + k) = 97 + x) (ew : w = if κ = 2 then -9 else nI v) : DrC (g_up (g_up (g_up (g_up σ 3 3 (nI (nmM T ||| 2 ^ x))) 4 x (nI κ)) 5 x (nI u)) 6 x w) (addS T κ (97 + x) u v) c l := by
  obtain ⟨⟨h0, h1, h2, h3, h4, h5⟩, h6⟩ := h
  have f3 : g_up (g_up (g_up (g_up σ 3 3 (nI (nmM T ||| 2 ^ x))) 4 x (nI κ)) 5 x (nI u)) 6 x w 3 = g_up σ 3 3 (nI (nmM T ||| 2 ^ x)) 3 := by
    rw [g_up_ne (by decide), g_up_ne (by decide), g_up_ne (by decide)]
  have f4 : g_up (g_up (g_up (g_up σ 3 3 (nI (nmM T ||| 2 ^ x))) 4 x (nI κ)) 5 x (nI u)) 6 x w 4 = g_up (g_up σ 3 3 (nI (nmM T ||| 2 ^ x))) 4 x (nI κ) 4 := by
    rw [g_up_ne (by decide), g_up_ne (by decide)]
  have f5 : g_up (g_up (g_up (g_up σ 3 3 (nI (nmM T ||| 2 ^ x))) 4 x (nI κ)) 5 x (nI u)) 6 x w 5 = g_up (g_up (g_up σ 3 3 (nI (nmM T ||| 2 ^ x))) 4 x (nI κ)) 5 x (nI u) 5 := by
    rw [g_up_ne (by decide)]
  unfold DrC
  rw [f3, f4, f5, as_lo (by decide), as_lo (by decide), as_lo (by decide), as_3, bn_adds (by omega) hc, bn_adds (by omega) hl, ← nm_add (by omega) hx]
  refine ⟨⟨?_, ?_, ?_, g_up_eq, ?_, ?_⟩, fun k hk => ?_⟩
  · rw [g_up_j (by decide)]; exact h0
  · rw [g_up_j (by decide)]; exact h1
  · rw [g_up_j (by decide)]; exact h2
  · rw [g_up_j (by decide)]; exact h4
  · rw [g_up_j (by decide)]; exact h5
  · by_cases e : k = T 3
    · subst e
      rw [as_n.1, as_n.2.1, as_n.2.2.1, as_secn, show 97 + x - 97 = x by omega, g_up_eq, g_up_eq, g_up_eq]
      exact ⟨rfl, rfl, ew⟩
    · have hk3 : k < T 3 := by omega
      have q := h6 k hk3
      have r := (hw.2.2.2.1 k hk3).2.1
      have z := hno k hk3
      rw [(as_k (by omega) hk3).1, (as_k (by omega) hk3).2.1, (as_k (by omega) hk3).2.2.1, as_sec (by omega) hk3, g_up_j (by omega), g_up_j (by omega), g_up_j (by omega), g_up_ne (by decide), g_up_ne (by decide), g_up_ne (by decide), g_up_ne (by decide), g_up_ne (by decide), g_up_ne (by decide)]
      exact q
theorem ToldM.add {f f' : Nat → Int32} {T : Nat → Nat} {κ x u v : Nat} (h : ToldM f T) (h8 : T 3 < 8) (e3 : f' 3 = nI (T 3 + 1)) (e4 : f' (4 + T 3) = nI κ) (e12 : f' (12 + T 3) = nI x) (e20 : f' (20 + T 3) = nI u) (e28 : f' (28 + T 3) = if κ = 2 then -9 else nI v) (eo : ∀ j, j ≠ 3 → j ≠ 4 + T 3 → j ≠ 12 + T 3 → j ≠ 20 + T 3 → j ≠ 28 + T 3 → f' j = f j) : ToldM f' (addS T κ x u v) := by
  refine ⟨fun j hj => ?_, fun k hk => ?_⟩
  · by_cases q : j = 3
    · subst q; rw [as_3]; exact e3
    · rw [as_lo (by omega), eo j q (by omega) (by omega) (by omega) (by omega)]
      exact h.1 j hj
  · rw [as_3] at hk
    by_cases e : k = T 3
    · subst e
      rw [as_n.1, as_n.2.1, as_n.2.2.1, as_secn]
      exact ⟨e4, e12, e20, e28⟩
    · have hk3 : k < T 3 := by omega
      have q := h.2 k hk3
      rw [(as_k (by omega) hk3).1, (as_k (by omega) hk3).2.1, (as_k (by omega) hk3).2.2.1, as_sec (by omega) hk3, eo _ (by omega) (by omega) (by omega) (by omega) (by omega), eo _ (by omega) (by omega) (by omega) (by omega) (by omega), eo _ (by omega) (by omega) (by omega) (by omega) (by omega), eo _ (by omega) (by omega) (by omega) (by omega) (by omega)]
      exact q
/-- a mark on the switch of that name -/
def okC (T : Nat → Nat) (c x : Nat) : Prop := ∃ k, k < T 3 ∧ T (12 + k) = x ∧ c.testBit k = false
noncomputable def adC (T : Nat → Nat) (c x : Nat) : Nat := mk (T 3) (fun k => c.testBit k = true ∨ T (12 + k) = x)
theorem ok_bit {T : Nat → Nat} {c x : Nat} (hw : WFT T) (hx : x < 26) : (andN (nmM T) (bnM T c)).testBit x = true ↔ okC T c (97 + x) := by
  rw [andN_bit, Bool.and_eq_true, nm_bit]
  constructor
  · rintro ⟨⟨-, k, h1, h2⟩, h3⟩
    refine ⟨k, h1, h2, ?_⟩
    cases hb : c.testBit k with
    | false => rfl
    | true =>
      have q : (bnM T c).testBit x = true := bn_bit.mpr ⟨hx, k, h1, h2, hb⟩
      rw [q] at h3
      exact absurd h3 (by decide)
  · rintro ⟨k, h1, h2, h3⟩
    refine ⟨⟨hx, k, h1, h2⟩, ?_⟩
    cases hb : (bnM T c).testBit x with
    | false => rfl
    | true =>
      obtain ⟨-, k', h1', h2', h3'⟩ := bn_bit.mp hb
      have e : k' = k := name_inj hw h1' h1 (h2'.trans h2.symm)
      rw [e, h3] at h3'
      exact absurd h3' (by decide)
theorem bn_or {T : Nat → Nat} {c x : Nat} (hx : x < 26) (h : okC T c (97 + x)) : bnM T c ||| 2 ^ x = bnM T (adC T c (97 + x)) := by
  refine mk_eq (fun i => ?_)
  have hb : ∀ k, (adC T c (97 + x)).testBit k = true ↔ k < T 3 ∧ (c.testBit k = true ∨ T (12 + k) = 97 + x) := fun k => mk_bit _ _ _
  rw [or_bit, bn_bit]
  constructor
  · rintro (⟨h1, k, h2, h3, h4⟩ | h1)
    · exact ⟨h1, k, h2, h3, (hb k).mpr ⟨h2, Or.inl h4⟩⟩
    · subst h1
      obtain ⟨k, h2, h3, -⟩ := h
      exact ⟨hx, k, h2, h3, (hb k).mpr ⟨h2, Or.inr h3⟩⟩
  · rintro ⟨h1, k, h2, h3, h4⟩
    rcases ((hb k).mp h4).2 with q | q
    · exact Or.inl ⟨h1, k, h2, h3, q⟩
    · exact Or.inr (by omega)
theorem ad_or {T : Nat → Nat} {c x j : Nat} (hw : WFT T) (hc : c < 2 ^ T 3) (hj : j < T 3) (e : T (12 + j) = x) : c ||| 2 ^ j = adC T c x := by
  refine mk_eq (fun i => ?_)
  rw [or_bit]
  constructor
  · rintro (h | h)
    · exact ⟨lt_bit hc h, Or.inl h⟩
    · subst h; exact ⟨hj, Or.inr e⟩
  · rintro ⟨h1, h | h⟩
    · exact Or.inl h
    · exact Or.inr (name_inj hw h1 hj (h.trans e.symm))
theorem WFD.n {T : Nat → Nat} {c l v : Nat} (h : WFD T c l) (h1 : T 1 = 0) (h2 : T 2 = 0) (h3 : T 3 = 0) (hv : 2 ≤ v ∧ v ≤ 6) : WFD (updN T 0 v) c l := by
  have e3 : updN T 0 v 3 = T 3 := updN_ne (by decide)
  have e0 : updN T 0 v 0 = v := updN_eq _ _ _
  have e1 : updN T 0 v 1 = T 1 := updN_ne (by decide)
  have e2 : updN T 0 v 2 = T 2 := updN_ne (by decide)
  have hp := Nat.two_pow_pos v
  unfold WFD WFT
  rw [e3, e0, e1, e2, nm_congr e3 (fun k hk => updN_ne (by omega)), h1, h2]
  exact ⟨⟨hv, ⟨hp, hp⟩, h.1.2.2.1, fun k hk => absurd hk (by omega), fun i k _ hk => absurd hk (by omega)⟩, h.2⟩
theorem WFD.s {T : Nat → Nat} {c l v i : Nat} (h : WFD T c l) (hi : i = 1 ∨ i = 2) (hv : v < T 0) : WFD (updN T i (T i ||| 2 ^ v)) c l := by
  have e3 : updN T i (T i ||| 2 ^ v) 3 = T 3 := updN_ne (by omega)
  have e0 : updN T i (T i ||| 2 ^ v) 0 = T 0 := updN_ne (by omega)
  have hb : ∀ y, y < 2 ^ T 0 → y ||| 2 ^ v < 2 ^ T 0 := fun y hy => Nat.or_lt_two_pow hy (Nat.pow_lt_pow_right (by decide) hv)
  have e1 : updN T i (T i ||| 2 ^ v) 1 < 2 ^ T 0 := by
    rcases hi with rfl | rfl
    · rw [updN_eq]; exact hb _ h.1.2.1.1
    · rw [updN_ne (by decide)]; exact h.1.2.1.1
  have e2 : updN T i (T i ||| 2 ^ v) 2 < 2 ^ T 0 := by
    rcases hi with rfl | rfl
    · rw [updN_ne (by decide)]; exact h.1.2.1.2
    · rw [updN_eq]; exact hb _ h.1.2.1.2
  have eo : ∀ j, 3 < j → updN T i (T i ||| 2 ^ v) j = T j := fun j hj => updN_ne (by omega)
  unfold WFD WFT
  rw [e3, e0, nm_congr e3 (fun k hk => eo _ (by omega))]
  refine ⟨⟨h.1.1, ⟨e1, e2⟩, h.1.2.2.1, fun k hk => ?_, fun j k hj hk => ?_⟩, h.2⟩
  · rw [eo _ (by omega), eo _ (by omega), eo _ (by omega), eo _ (by omega)]
    exact h.1.2.2.2.1 k hk
  · rw [eo _ (by omega), eo _ (by omega)]
    exact h.1.2.2.2.2 j k hj hk
theorem WFD.c {T : Nat → Nat} {c l : Nat} (h : WFD T c l) (x : Nat) : WFD T (adC T c x) l := ⟨h.1, mk_lt _ _, h.2.2⟩
theorem WFD.l {T : Nat → Nat} {c l : Nat} (h : WFD T c l) (x : Nat) : WFD T c (adC T l x) := ⟨h.1, h.2.1, mk_lt _ _, h.2.2.2⟩
theorem WFD.a {T : Nat → Nat} {c l κ x u v : Nat} (h : WFD T c l) (h8 : T 3 < 8) (hκ : κ < 3) (hx : x < 26) (hno : ∀ k, k < T 3 → ¬ T (12 + k) = 97 + x) (hu : u < T 0) (hv : κ ≠ 2 → v < T 0) : WFD (addS T κ (97 + x) u v) c l := by
  have hb : (nmM T).testBit x = false := by
    cases q : (nmM T).testBit x with
    | false => rfl
    | true =>
      obtain ⟨-, k, h1, h2⟩ := nm_bit.mp q
      exact absurd h2 (hno k h1)
  have hp : (2 : Nat) ^ T 3 ≤ 2 ^ (T 3 + 1) := Nat.pow_le_pow_right (by decide) (by omega)
  have hn : pcn 26 (nmM (addS T κ (97 + x) u v)) = T 3 + 1 := by
    rw [← nm_add (by omega) hx, pcn_add hb, if_pos hx, h.2.2.2]
  unfold WFD WFT
  rw [hn, as_3, as_lo (by decide), as_lo (by decide), as_lo (by decide)]
  refine ⟨⟨h.1.1, h.1.2.1, by omega, fun k hk => ?_, fun j k hj hk => ?_⟩, Nat.lt_of_lt_of_le h.2.1 hp, Nat.lt_of_lt_of_le h.2.2.1 hp, rfl⟩
  · by_cases e : k = T 3
    · subst e
      rw [as_n.1, as_n.2.1, as_n.2.2.1, as_n.2.2.2]
      exact ⟨hκ, ⟨by omega, by omega⟩, hu, hv⟩
    · have hk3 : k < T 3 := by omega
      rw [(as_k (by omega) hk3).1, (as_k (by omega) hk3).2.1, (as_k (by omega) hk3).2.2.1, (as_k (by omega) hk3).2.2.2]
      exact h.1.2.2.2.1 k hk3
  · have hj3 : j < T 3 := by omega
    rw [(as_k (by omega) hj3).2.1]
    by_cases e : k = T 3
    · subst e
      rw [as_n.2.1]
      exact hno j hj3
    · have hk3 : k < T 3 := by omega
      rw [(as_k (by omega) hk3).2.1]
      exact h.1.2.2.2.2 j k hj hk3
/-! One item, then the semicolon. -/
section IT
variable (a : Nat → Nat) (n : Nat)
noncomputable def rN (p : Nat) (T : Nat → Nat) (c l : Nat) : Sum Nat (Nat × (Nat → Nat) × Nat × Nat) := cif (tK a n p = 2 ∧ 2 ≤ tV a n p ∧ tV a n p ≤ 6) (.inr (tN a n p, updN T 0 (tV a n p), c, l)) (.inl (tS a n p))
noncomputable def rS (i p : Nat) (T : Nat → Nat) (c l : Nat) : Sum Nat (Nat × (Nat → Nat) × Nat × Nat) := cif (tK a n p = 2 ∧ tV a n p < T 0 ∧ (T i).testBit (tV a n p) = false) (.inr (tN a n p, updN T i (T i ||| 2 ^ tV a n p), c, l)) (.inl (tS a n p))
noncomputable def rC (p : Nat) (T : Nat → Nat) (c l : Nat) : Sum Nat (Nat × (Nat → Nat) × Nat × Nat) := cif (tK a n p = 1 ∧ okC T c (tV a n p)) (.inr (tN a n p, T, adC T c (tV a n p), l)) (.inl (tS a n p))
noncomputable def rL (p : Nat) (T : Nat → Nat) (c l : Nat) : Sum Nat (Nat × (Nat → Nat) × Nat × Nat) := cif (tK a n p = 1 ∧ okC T l (tV a n p)) (.inr (tN a n p, T, c, adC T l (tV a n p))) (.inl (tS a n p))
noncomputable def rW3 (κ x u p : Nat) (T : Nat → Nat) (c l : Nat) : Sum Nat (Nat × (Nat → Nat) × Nat × Nat) := cif (tK a n p = 2 ∧ tV a n p < T 0 ∧ ¬ tV a n p = u) (.inr (tN a n p, addS T κ x u (tV a n p), c, l)) (.inl (tS a n p))
noncomputable def rW2 (κ x p : Nat) (T : Nat → Nat) (c l : Nat) : Sum Nat (Nat × (Nat → Nat) × Nat × Nat) := cif (tK a n p = 2 ∧ tV a n p < T 0) (if κ = 2 then .inr (tN a n p, addS T κ x (tV a n p) 0, c, l) else rW3 a n κ x (tV a n p) (tN a n p) T c l) (.inl (tS a n p))
noncomputable def rW (κ f p : Nat) (T : Nat → Nat) (c l : Nat) : Sum Nat (Nat × (Nat → Nat) × Nat × Nat) := cif (T 3 < 8) (cif (tK a n p = 1 ∧ ∀ k, k < T 3 → ¬ T (12 + k) = tV a n p) (rW2 a n κ (tV a n p) (tN a n p) T c l) (.inl (tS a n p))) (.inl f)
noncomputable def itL (x items f p : Nat) (T : Nat → Nat) (c l : Nat) : Sum Nat (Nat × (Nat → Nat) × Nat × Nat) :=
  if x = 110 then (if items = 0 then rN a n p T c l else .inl f) else if x = 115 then rS a n 1 p T c l else if x = 100 then rS a n 2 p T c l else if x = 98 then rW a n 0 f p T c l else if x = 105 then rW a n 1 f p T c l else if x = 101 then rW a n 2 f p T c l else if x = 99 then rC a n p T c l else if x = 107 then rL a n p T c l else .inl f
noncomputable def itm (p items : Nat) (T : Nat → Nat) (c l : Nat) : Sum Nat (Nat × (Nat → Nat) × Nat × Nat) := if tK a n p = 1 then itL a n (tV a n p) items (tS a n p) (tN a n p) T c l else .inl (tS a n p)
noncomputable def smc : Sum Nat (Nat × (Nat → Nat) × Nat × Nat) → Sum Nat (Nat × (Nat → Nat) × Nat × Nat)
  | .inl f => .inl f
  | .inr (p, T, c, l) => if tK a n p = 3 then .inr (tN a n p, T, c, l) else .inl (tS a n p)
noncomputable def prs : Nat → Nat → Nat → (Nat → Nat) → Nat → Nat → Sum Nat (Nat × (Nat → Nat) × Nat × Nat)
  | 0, _, _, _, _, _ => .inl 0
  | d + 1, p, items, T, c, l => if tK a n p = 0 then .inr (items, T, c, l) else match smc a n (itm a n p items T c l) with
    | .inl f => .inl f
    | .inr (p', T', c', l') => prs d p' (items + 1) T' c' l'
def pOK (p0 : Nat) : Sum Nat (Nat × (Nat → Nat) × Nat × Nat) → Prop
  | .inl f => f ≤ n
  | .inr (p, T, c, l) => WFD T c l ∧ p0 ≤ p ∧ p ≤ n
end IT
section IO
variable {a : Nat → Nat} {n p : Nat} {T : Nat → Nat} {c l : Nat}
theorem rN_ok (hp : p ≤ n) (h : WFD T c l) (h1 : T 1 = 0) (h2 : T 2 = 0) (h3 : T 3 = 0) : pOK n p (rN a n p T c l) := by
  have q := (tk_all (a := a) hp).1
  unfold rN
  by_cases e : tK a n p = 2 ∧ 2 ≤ tV a n p ∧ tV a n p ≤ 6
  · rw [cif_pos e]; exact ⟨h.n h1 h2 h3 e.2, q.2.2.2, q.2.2.1⟩
  · rw [cif_neg e]; exact q.2.1
theorem rS_ok {i : Nat} (hi : i = 1 ∨ i = 2) (hp : p ≤ n) (h : WFD T c l) : pOK n p (rS a n i p T c l) := by
  have q := (tk_all (a := a) hp).1
  unfold rS
  by_cases e : tK a n p = 2 ∧ tV a n p < T 0 ∧ (T i).testBit (tV a n p) = false
  · rw [cif_pos e]; exact ⟨h.s hi e.2.1, q.2.2.2, q.2.2.1⟩
  · rw [cif_neg e]; exact q.2.1
theorem rC_ok (hp : p ≤ n) (h : WFD T c l) : pOK n p (rC a n p T c l) := by
  have q := (tk_all (a := a) hp).1
  unfold rC
  by_cases e : tK a n p = 1 ∧ okC T c (tV a n p)
  · rw [cif_pos e]; exact ⟨h.c _, q.2.2.2, q.2.2.1⟩
  · rw [cif_neg e]; exact q.2.1
theorem rL_ok (hp : p ≤ n) (h : WFD T c l) : pOK n p (rL a n p T c l) := by
  have q := (tk_all (a := a) hp).1
  unfold rL
  by_cases e : tK a n p = 1 ∧ okC T l (tV a n p)
  · rw [cif_pos e]; exact ⟨h.l _, q.2.2.2, q.2.2.1⟩
  · rw [cif_neg e]; exact q.2.1
theorem rW3_ok {κ x u p0 : Nat} (h0 : p0 ≤ p) (hp : p ≤ n) (h : WFD T c l) (h8 : T 3 < 8) (hκ : κ < 3) (hx : 97 ≤ x ∧ x ≤ 122) (hno : ∀ k, k < T 3 → ¬ T (12 + k) = x) (hu : u < T 0) : pOK n p0 (rW3 a n κ x u p T c l) := by
  have q := (tk_all (a := a) hp).1
  obtain ⟨y, hy, rfl⟩ : ∃ y, y < 26 ∧ x = 97 + y := ⟨x - 97, by omega, by omega⟩
  unfold rW3
  by_cases e : tK a n p = 2 ∧ tV a n p < T 0 ∧ ¬ tV a n p = u
  · rw [cif_pos e]; exact ⟨h.a h8 hκ hy hno hu (fun _ => e.2.1), Nat.le_trans h0 q.2.2.2, q.2.2.1⟩
  · rw [cif_neg e]; exact q.2.1
theorem rW2_ok {κ x p0 : Nat} (h0 : p0 ≤ p) (hp : p ≤ n) (h : WFD T c l) (h8 : T 3 < 8) (hκ : κ < 3) (hx : 97 ≤ x ∧ x ≤ 122) (hno : ∀ k, k < T 3 → ¬ T (12 + k) = x) : pOK n p0 (rW2 a n κ x p T c l) := by
  have q := (tk_all (a := a) hp).1
  unfold rW2
  by_cases e : tK a n p = 2 ∧ tV a n p < T 0
  · rw [cif_pos e]
    by_cases e2 : κ = 2
    · rw [if_pos e2]
      obtain ⟨y, hy, rfl⟩ : ∃ y, y < 26 ∧ x = 97 + y := ⟨x - 97, by omega, by omega⟩
      exact ⟨h.a h8 hκ hy hno e.2 (fun z => absurd e2 z), Nat.le_trans h0 q.2.2.2, q.2.2.1⟩
    · rw [if_neg e2]
      exact rW3_ok (Nat.le_trans h0 q.2.2.2) q.2.2.1 h h8 hκ hx hno e.2
  · rw [cif_neg e]; exact q.2.1
theorem rW_ok {κ f : Nat} (hf : f ≤ n) (hp : p ≤ n) (h : WFD T c l) (hκ : κ < 3) : pOK n p (rW a n κ f p T c l) := by
  have q := tk_all (a := a) hp
  unfold rW
  by_cases h8 : T 3 < 8
  · rw [cif_pos h8]
    by_cases e : tK a n p = 1 ∧ ∀ k, k < T 3 → ¬ T (12 + k) = tV a n p
    · rw [cif_pos e]
      exact rW2_ok q.1.2.2.2 q.1.2.2.1 h h8 hκ (q.2.2.1 e.1) e.2
    · rw [cif_neg e]; exact q.1.2.1
  · rw [cif_neg h8]; exact hf
theorem itL_ok {x items f : Nat} (hf : f ≤ n) (hp : p ≤ n) (h : WFD T c l) (hi : items = 0 → T 1 = 0 ∧ T 2 = 0 ∧ T 3 = 0) : pOK n p (itL a n x items f p T c l) := by
  unfold itL
  split
  · split
    · next e => exact rN_ok hp h (hi e).1 (hi e).2.1 (hi e).2.2
    · exact hf
  · split
    · exact rS_ok (Or.inl rfl) hp h
    · split
      · exact rS_ok (Or.inr rfl) hp h
      · split
        · exact rW_ok hf hp h (by decide)
        · split
          · exact rW_ok hf hp h (by decide)
          · split
            · exact rW_ok hf hp h (by decide)
            · split
              · exact rC_ok hp h
              · split
                · exact rL_ok hp h
                · exact hf
theorem itm_ok {items : Nat} (hp : p ≤ n) (h : WFD T c l) (hi : items = 0 → T 1 = 0 ∧ T 2 = 0 ∧ T 3 = 0) : pOK n (p + 1) (itm a n p items T c l) := by
  have q := tk_all (a := a) hp
  unfold itm
  split
  · next e =>
    have z := itL_ok (a := a) (x := tV a n p) (f := tS a n p) (p := tN a n p) q.1.2.1 q.1.2.2.1 h hi
    have y := q.2.1 (by rw [e]; decide)
    revert z
    cases itL a n (tV a n p) items (tS a n p) (tN a n p) T c l with
    | inl f => exact fun z => z
    | inr r => exact fun z => ⟨z.1, Nat.le_trans y z.2.1, z.2.2⟩
  · exact q.1.2.1
theorem smc_ok {p0 : Nat} {r : Sum Nat (Nat × (Nat → Nat) × Nat × Nat)} (h : pOK n p0 r) : pOK n p0 (smc a n r) := by
  cases r with
  | inl f => exact h
  | inr r =>
    obtain ⟨p, T, c, l⟩ := r
    have q := (tk_all (a := a) h.2.2).1
    show pOK n p0 (if tK a n p = 3 then .inr (tN a n p, T, c, l) else .inl (tS a n p))
    split
    · exact ⟨h.1, Nat.le_trans h.2.1 q.2.2.2, q.2.2.1⟩
    · exact q.2.1
theorem prs_ok : ∀ (d p items : Nat) (T : Nat → Nat) (c l : Nat), p ≤ n → n < p + d → WFD T c l → (items = 0 → T 1 = 0 ∧ T 2 = 0 ∧ T 3 = 0) → match prs a n d p items T c l with
    | .inl f => f ≤ n
    | .inr (_, T', c', l') => WFD T' c' l'
  | 0, p, items, T, c, l, h1, h2, h3, h4 => by omega
  | d + 1, p, items, T, c, l, h1, h2, h3, h4 => by
    show match (if tK a n p = 0 then Sum.inr (items, T, c, l) else match smc a n (itm a n p items T c l) with
      | .inl f => .inl f
      | .inr (p', T', c', l') => prs a n d p' (items + 1) T' c' l') with
      | .inl f => f ≤ n
      | .inr (_, T', c', l') => WFD T' c' l'
    by_cases e : tK a n p = 0
    · rw [if_pos e]; exact h3
    · rw [if_neg e]
      have z := smc_ok (a := a) (itm_ok (a := a) h1 h3 h4)
      revert z
      cases smc a n (itm a n p items T c l) with
      | inl f => exact fun z => z
      | inr r =>
        obtain ⟨p', T', c', l'⟩ := r
        exact fun z => prs_ok d p' (items + 1) T' c' l' z.2.2 (by have := z.2.1; omega) z.1 (fun q => absurd q (by omega))
end IO
