/-! Hanging together. -/
section CON
variable {T : Nat → Nat} {c j : Nat} {u v w : Nat}
theorem Cnj.rf : Cnj T c j u u := fun _ _ => Iff.rfl
theorem Cnj.sy (h : Cnj T c j u v) : Cnj T c j v u := fun S hS => (h S hS).symm
theorem Cnj.tr (h : Cnj T c j u v) (h2 : Cnj T c j v w) : Cnj T c j u w := fun S hS => (h S hS).trans (h2 S hS)
theorem Cnj.ed {k : Nat} (hk : k < j) (ha : t_act T c k) : Cnj T c j (T (20 + k)) (T (28 + k)) := fun S hS => hS k hk ha
theorem Cnj.mono {i : Nat} (hi : i ≤ j) (h : Cnj T c i u v) : Cnj T c j u v := fun S hS => h S (fun k hk ha => hS k (by omega) ha)
theorem Cnj.zero (h : Cnj T c 0 u v) : u = v := by
  have := h (fun x => u = x) (fun k hk => absurd hk (Nat.not_lt_zero k))
  exact this.mp rfl
theorem Cnj.skip (ha : ¬ t_act T c j) (h : Cnj T c (j + 1) u v) : Cnj T c j u v := fun S hS => h S (fun k hk hk2 => by
  by_cases e : k = j
  · subst e; exact absurd hk2 ha
  · exact hS k (by omega) hk2)
theorem Cnj.step (h : Cnj T c (j + 1) u v) : Cnj T c j u v ∨ (Cnj T c j u (T (20 + j)) ∧ Cnj T c j (T (28 + j)) v) ∨ (Cnj T c j u (T (28 + j)) ∧ Cnj T c j (T (20 + j)) v) := by
  have h1 := h (fun x => Cnj T c j u x ∨ (Cnj T c j u (T (20 + j)) ∧ Cnj T c j (T (28 + j)) x) ∨ (Cnj T c j u (T (28 + j)) ∧ Cnj T c j (T (20 + j)) x)) ?_
  · exact h1.mp (Or.inl Cnj.rf)
  · intro k hk ha
    by_cases e : k = j
    · subst e
      constructor
      · rintro (h | ⟨h1, h2⟩ | ⟨h1, h2⟩)
        · exact Or.inr (Or.inl ⟨h, Cnj.rf⟩)
        · exact Or.inr (Or.inl ⟨h1, Cnj.rf⟩)
        · exact Or.inl h1
      · rintro (h | ⟨h1, h2⟩ | ⟨h1, h2⟩)
        · exact Or.inr (Or.inr ⟨h, Cnj.rf⟩)
        · exact Or.inl h1
        · exact Or.inr (Or.inr ⟨h1, Cnj.rf⟩)
    · have he := Cnj.ed (T := T) (c := c) (j := j) (k := k) (by omega) ha
      constructor
      · rintro (h | ⟨h1, h2⟩ | ⟨h1, h2⟩)
        · exact Or.inl (h.tr he)
        · exact Or.inr (Or.inl ⟨h1, h2.tr he⟩)
        · exact Or.inr (Or.inr ⟨h1, h2.tr he⟩)
      · rintro (h | ⟨h1, h2⟩ | ⟨h1, h2⟩)
        · exact Or.inl (h.tr he.sy)
        · exact Or.inr (Or.inl ⟨h1, h2.tr he.sy⟩)
        · exact Or.inr (Or.inr ⟨h1, h2.tr he.sy⟩)
theorem Cn.rf : Cn T c u u := Cnj.rf
theorem Cn.sy (h : Cn T c u v) : Cn T c v u := Cnj.sy h
theorem Cn.tr (h : Cn T c u v) (h2 : Cn T c v w) : Cn T c u w := Cnj.tr h h2
theorem Cn.ed {k : Nat} (ha : t_act T c k) : Cn T c (T (20 + k)) (T (28 + k)) := Cnj.ed ha.1 ha
end CON
/-- how many below n -/
noncomputable def cnt : Nat → (Nat → Prop) → Nat
  | 0, _ => 0
  | n + 1, P => cnt n P + @ite _ (P n) (Classical.propDecidable _) 1 0
theorem cnt_le (P : Nat → Prop) : ∀ n, cnt n P ≤ n
  | 0 => Nat.le_refl _
  | n + 1 => by
    have := cnt_le P n
    show cnt n P + @ite _ (P n) (Classical.propDecidable _) 1 0 ≤ n + 1
    split <;> omega
theorem cnt_mono {P Q : Nat → Prop} : ∀ n, (∀ i, i < n → P i → Q i) → cnt n P ≤ cnt n Q
  | 0, _ => Nat.le_refl _
  | n + 1, h => by
    have ih := cnt_mono n (fun i hi => h i (by omega))
    show cnt n P + @ite _ (P n) (Classical.propDecidable _) 1 0 ≤ cnt n Q + @ite _ (Q n) (Classical.propDecidable _) 1 0
    by_cases hp : P n
    · rw [if_pos hp, if_pos (h n (by omega) hp)]
      omega
    · rw [if_neg hp]
      omega
theorem cnt_more {P Q : Nat → Prop} {s : Nat} : ∀ n, (∀ i, i < n → P i → Q i) → s < n → Q s → ¬ P s → cnt n P + 1 ≤ cnt n Q
  | 0, _, hs, _, _ => absurd hs (Nat.not_lt_zero s)
  | n + 1, h, hs, hq, hp => by
    show cnt n P + @ite _ (P n) (Classical.propDecidable _) 1 0 + 1 ≤ cnt n Q + @ite _ (Q n) (Classical.propDecidable _) 1 0
    by_cases e : s = n
    · subst e
      have := cnt_mono (P := P) (Q := Q) s (fun i hi => h i (by omega))
      rw [if_neg hp, if_pos hq]
      omega
    · have ih := cnt_more n (fun i hi => h i (by omega)) (by omega) hq hp
      by_cases hpn : P n
      · rw [if_pos hpn, if_pos (h n (by omega) hpn)]
        omega
      · rw [if_neg hpn]
        omega
theorem cnt_pos {P : Nat → Prop} {s n : Nat} (hs : s < n) (h : P s) : 1 ≤ cnt n P := by
  have h0 : cnt n (fun _ => False) = 0 := by
    clear hs
    induction n with
    | zero => rfl
    | succ n ih =>
      show cnt n (fun _ => False) + @ite _ False (Classical.propDecidable _) 1 0 = 0
      rw [ih, if_neg (fun q => q)]
  have := cnt_more (P := fun _ => False) (Q := P) n (fun _ _ q => q.elim) hs h (fun q => q)
  omega
/-! Labels that fall along the switches. -/
def LInv (T : Nat → Nat) (c : Nat) (lab : Nat → Nat) : Prop := ∀ u, u < T 0 → lab u ≤ u ∧ Cn T c u (lab u)
def WF0 (T : Nat → Nat) : Prop := T 0 ≤ 6 ∧ T 3 ≤ 8 ∧ (∀ k, k < T 3 → T (20 + k) < T 0 ∧ (T (4 + k) ≠ 2 → T (28 + k) < T 0)) ∧ ∀ k, k < T 3 → T (4 + k) < 3
theorem WFT.w0 {T : Nat → Nat} (h : WFT T) : WF0 T := ⟨h.1.2, h.2.2.1, fun k hk => ⟨(h.2.2.2.1 k hk).2.2.1, (h.2.2.2.1 k hk).2.2.2⟩, fun k hk => (h.2.2.2.1 k hk).1⟩
def root (T : Nat → Nat) (c w : Nat) : Prop := w < T 0 ∧ ∀ v, v < T 0 → Cn T c w v → w ≤ v
/-- one step over the switch k -/
def lstep (lab : Nat → Nat) (f s : Nat) : Nat → Nat := fun u => if u = s then min (lab f) (lab s) else if u = f then min (lab f) (lab s) else lab u
theorem lstep_le (lab : Nat → Nat) (f s u : Nat) : lstep lab f s u ≤ lab u := by
  unfold lstep
  split
  · next e => rw [e]; exact Nat.min_le_right _ _
  · split
    · next e => rw [e]; exact Nat.min_le_left _ _
    · exact Nat.le_refl _
theorem lstep_f (lab : Nat → Nat) (f s : Nat) : lstep lab f s f ≤ lab s := by
  unfold lstep
  split
  · exact Nat.min_le_right _ _
  · rw [if_pos rfl]; exact Nat.min_le_right _ _
theorem lstep_s (lab : Nat → Nat) (f s : Nat) : lstep lab f s s ≤ lab f := by
  unfold lstep
  rw [if_pos rfl]
  exact Nat.min_le_left _ _
theorem LInv.step {T : Nat → Nat} {c k : Nat} {lab : Nat → Nat} (hw : WF0 T) (h : LInv T c lab) (ha : t_act T c k) : LInv T c (lstep lab (T (20 + k)) (T (28 + k))) := by
  have hf := (hw.2.2.1 k ha.1).1
  have hs := (hw.2.2.1 k ha.1).2 ha.2.2
  have he := Cn.ed ha
  intro u hu
  refine ⟨Nat.le_trans (lstep_le _ _ _ _) (h u hu).1, ?_⟩
  unfold lstep
  split
  · next e =>
    rw [e]
    rcases Nat.le_total (lab (T (20 + k))) (lab (T (28 + k))) with g | g
    · rw [Nat.min_eq_left g]; exact he.sy.tr (h _ hf).2
    · rw [Nat.min_eq_right g]; exact (h _ hs).2
  · split
    · next e =>
      rw [e]
      rcases Nat.le_total (lab (T (20 + k))) (lab (T (28 + k))) with g | g
      · rw [Nat.min_eq_left g]; exact (h _ hf).2
      · rw [Nat.min_eq_right g]; exact he.tr (h _ hs).2
    · exact (h u hu).2
/-- what a round over the first j switches does -/
def LRnd (T : Nat → Nat) (c j : Nat) (l0 l1 : Nat → Nat) : Prop := (∀ u, l1 u ≤ l0 u) ∧ ∀ k, k < j → t_act T c k → l1 (T (20 + k)) ≤ l0 (T (28 + k)) ∧ l1 (T (28 + k)) ≤ l0 (T (20 + k))
theorem LRnd.z {T : Nat → Nat} {c : Nat} {l0 : Nat → Nat} : LRnd T c 0 l0 l0 := ⟨fun _ => Nat.le_refl _, fun k hk => absurd hk (Nat.not_lt_zero k)⟩
theorem LRnd.no {T : Nat → Nat} {c j : Nat} {l0 l1 : Nat → Nat} (h : LRnd T c j l0 l1) (ha : ¬ t_act T c j) : LRnd T c (j + 1) l0 l1 := ⟨h.1, fun k hk hk2 => by
  by_cases e : k = j
  · subst e; exact absurd hk2 ha
  · exact h.2 k (by omega) hk2⟩
theorem LRnd.yes {T : Nat → Nat} {c j : Nat} {l0 l1 : Nat → Nat} (h : LRnd T c j l0 l1) : LRnd T c (j + 1) l0 (lstep l1 (T (20 + j)) (T (28 + j))) := ⟨fun u => Nat.le_trans (lstep_le _ _ _ _) (h.1 u), fun k hk hk2 => by
  by_cases e : k = j
  · subst e
    exact ⟨Nat.le_trans (lstep_f _ _ _) (h.1 _), Nat.le_trans (lstep_s _ _ _) (h.1 _)⟩
  · have := h.2 k (by omega) hk2
    exact ⟨Nat.le_trans (lstep_le _ _ _ _) this.1, Nat.le_trans (lstep_le _ _ _ _) this.2⟩⟩
def LCv (T : Nat → Nat) (c r : Nat) (lab : Nat → Nat) : Prop := ∀ w, root T c w → (∀ u, u < T 0 → Cn T c w u → lab u = w) ∨ r + 1 ≤ cnt (T 0) (fun u => Cn T c w u ∧ lab u = w)
theorem root_lab {T : Nat → Nat} {c w u : Nat} {lab : Nat → Nat} (h : LInv T c lab) (hr : root T c w) (hu : u < T 0) (hc : Cn T c w u) : w ≤ lab u := hr.2 (lab u) (Nat.lt_of_le_of_lt (h u hu).1 hu) (hc.tr (h u hu).2)
theorem LCv.z {T : Nat → Nat} {c : Nat} : LCv T c 0 (fun u => u) := fun w hr => Or.inr (cnt_pos hr.1 ⟨Cn.rf, rfl⟩)
theorem LCv.step {T : Nat → Nat} {c r : Nat} {l0 l1 : Nat → Nat} (hw : WF0 T) (h0 : LInv T c l0) (h1 : LInv T c l1) (hr : LRnd T c (T 3) l0 l1) (h : LCv T c r l0) : LCv T c (r + 1) l1 := by
  intro w hwr
  rcases h w hwr with g | g
  · refine Or.inl (fun u hu hc => Nat.le_antisymm ?_ (root_lab h1 hwr hu hc))
    rw [← g u hu hc]
    exact hr.1 u
  · by_cases hall : ∀ u, u < T 0 → Cn T c w u → l1 u = w
    · exact Or.inl hall
    · right
      have hA : ∀ u, u < T 0 → (Cn T c w u ∧ l0 u = w) → (Cn T c w u ∧ l1 u = w) := fun u hu q => ⟨q.1, Nat.le_antisymm (by rw [← q.2]; exact hr.1 u) (root_lab h1 hwr hu q.1)⟩
      obtain ⟨v, hv⟩ := Classical.not_forall.mp hall
      have hv1 : v < T 0 := Classical.byContradiction (fun q => hv (fun a => absurd a q))
      have hv2 : Cn T c w v := Classical.byContradiction (fun q => hv (fun _ a => absurd a q))
      have hv3 : ¬ l1 v = w := fun q => hv (fun _ _ => q)
      have hv4 : ¬ l0 v = w := fun q => hv3 (hA v hv1 ⟨hv2, q⟩).2
      have hlw : l0 w = w := Nat.le_antisymm (h0 w hwr.1).1 (root_lab h0 hwr hwr.1 Cn.rf)
      have hex : ∃ k, t_act T c k ∧ ¬ ((Cn T c w (T (20 + k)) ∧ l0 (T (20 + k)) = w) ↔ (Cn T c w (T (28 + k)) ∧ l0 (T (28 + k)) = w)) := by
        apply Classical.byContradiction
        intro hno
        have := hv2 (fun u => Cn T c w u ∧ l0 u = w) (fun k hk ha => Classical.byContradiction (fun q => hno ⟨k, ha, q⟩))
        exact hv4 (this.mp ⟨Cn.rf, hlw⟩).2
      obtain ⟨k, ha, hk⟩ := hex
      have hf := (hw.2.2.1 k ha.1).1
      have hs := (hw.2.2.1 k ha.1).2 ha.2.2
      have he := Cn.ed ha
      have hrk := hr.2 k ha.1 ha
      by_cases hfA : Cn T c w (T (20 + k)) ∧ l0 (T (20 + k)) = w
      · have hsc : Cn T c w (T (28 + k)) := hfA.1.tr he
        have hsl : ¬ (Cn T c w (T (28 + k)) ∧ l0 (T (28 + k)) = w) := fun q => hk ⟨fun _ => q, fun _ => hfA⟩
        have := cnt_more (P := fun u => Cn T c w u ∧ l0 u = w) (Q := fun u => Cn T c w u ∧ l1 u = w) (T 0) hA hs ⟨hsc, Nat.le_antisymm (by have := hrk.2; rw [hfA.2] at this; exact this) (root_lab h1 hwr hs hsc)⟩ hsl
        omega
      · have hsA : Cn T c w (T (28 + k)) ∧ l0 (T (28 + k)) = w := Classical.byContradiction (fun q => hk ⟨fun a => absurd a hfA, fun a => absurd a q⟩)
        have hfc : Cn T c w (T (20 + k)) := hsA.1.tr he.sy
        have := cnt_more (P := fun u => Cn T c w u ∧ l0 u = w) (Q := fun u => Cn T c w u ∧ l1 u = w) (T 0) hA hf ⟨hfc, Nat.le_antisymm (by have := hrk.1; rw [hsA.2] at this; exact this) (root_lab h1 hwr hf hfc)⟩ hfA
        omega
/-- the parts as they must be: the lowest node of each -/
def POK (T : Nat → Nat) (c : Nat) (lab : Nat → Nat) : Prop := ∀ u, u < T 0 → (lab u < T 0 ∧ Cn T c u (lab u)) ∧ ∀ v, v < T 0 → Cn T c u v → lab u ≤ v
theorem LCv.ok {T : Nat → Nat} {c : Nat} {lab : Nat → Nat} (h : LInv T c lab) (hc : LCv T c (T 0) lab) : POK T c lab := by
  have hroot : ∀ u, u < T 0 → ∃ w, root T c w ∧ Cn T c u w := by
    intro u hu
    obtain ⟨w, ⟨h1, h2⟩, h3⟩ := pk_least (fun w => w < T 0 ∧ Cn T c u w) ⟨u, hu, Cn.rf⟩
    refine ⟨w, ⟨h1, fun v hv hwv => ?_⟩, h2⟩
    exact Nat.le_of_not_lt (fun q => h3 v q ⟨hv, h2.tr hwv⟩)
  intro u hu
  obtain ⟨w, hr, huw⟩ := hroot u hu
  have hall : ∀ u, u < T 0 → Cn T c w u → lab u = w := by
    rcases hc w hr with g | g
    · exact g
    · have := cnt_le (fun u => Cn T c w u ∧ lab u = w) (T 0)
      omega
  have e := hall u hu huw.sy
  rw [e]
  exact ⟨⟨hr.1, huw⟩, fun v hv huv => hr.2 v hv (huw.sy.tr huv)⟩
theorem POK.iff {T : Nat → Nat} {c u v : Nat} {lab : Nat → Nat} (h : POK T c lab) (hu : u < T 0) (hv : v < T 0) : lab u = lab v ↔ Cn T c u v := by
  constructor
  · intro e
    have h1 := (h u hu).1.2
    rw [e] at h1
    exact h1.tr (h v hv).1.2.sy
  · intro hc
    exact Nat.le_antisymm ((h u hu).2 (lab v) (h v hv).1.1 (hc.tr (h v hv).1.2)) ((h v hv).2 (lab u) (h u hu).1.1 (hc.sy.tr (h u hu).1.2))
