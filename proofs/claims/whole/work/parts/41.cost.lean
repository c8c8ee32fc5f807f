/-! Cheapest costs, free of the net: ok s k: a move is lawful; p: its price; W: what is wanted. -/
def Co (ok : Nat → Nat → Prop) (p : Nat → Nat) (W : Nat → Prop) (s n : Nat) : Prop := ∀ R : Nat → Nat → Prop, (∀ s, W s → R s 0) → (∀ s k n, ok s k → R (s ^^^ 2 ^ k) n → R s (n + p k)) → R s n
def IsC (ok : Nat → Nat → Prop) (p : Nat → Nat) (W : Nat → Prop) (s n : Nat) : Prop := Co ok p W s n ∧ ∀ m, Co ok p W s m → n ≤ m
theorem xx (s k : Nat) : s ^^^ 2 ^ k ^^^ 2 ^ k = s := by rw [Nat.xor_assoc, Nat.xor_self, Nat.xor_zero]
theorem xx_ne (s k : Nat) : s ^^^ 2 ^ k ≠ s := fun h => by
  have := congrArg (fun a => a ^^^ s) h
  simp only [Nat.xor_self] at this
  rw [Nat.xor_comm s, Nat.xor_assoc, Nat.xor_self, Nat.xor_zero] at this
  exact absurd this (by have := Nat.two_pow_pos k; omega)
section CO
variable {ok : Nat → Nat → Prop} {p : Nat → Nat} {W sd : Nat → Prop} {N s k n m x : Nat}
theorem Co_zero (h : W s) : Co ok p W s 0 := fun _ h0 _ => h0 s h
theorem Co_step (h : ok s k) (c : Co ok p W (s ^^^ 2 ^ k) n) : Co ok p W s (n + p k) := fun R h0 h1 => h1 s k n h (c R h0 h1)
theorem Co_inv (c : Co ok p W s n) : (n = 0 ∧ W s) ∨ ∃ k m, ok s k ∧ Co ok p W (s ^^^ 2 ^ k) m ∧ n = m + p k := by
  have h := c (fun s n => Co ok p W s n ∧ ((n = 0 ∧ W s) ∨ ∃ k m, ok s k ∧ Co ok p W (s ^^^ 2 ^ k) m ∧ n = m + p k)) (fun s h => ⟨Co_zero h, Or.inl ⟨rfl, h⟩⟩) (fun s k n h r => ⟨Co_step h r.1, Or.inr ⟨k, n, h, r.1, rfl⟩⟩)
  exact h.2
theorem IsC.ex : ∀ (b n : Nat), n ≤ b → Co ok p W s n → ∃ m, IsC ok p W s m
  | 0, n, hb, c => ⟨n, c, fun m _ => by omega⟩
  | b + 1, n, hb, c => by
    by_cases h : ∃ m, Co ok p W s m ∧ m < n
    · obtain ⟨m, h1, h2⟩ := h
      exact IsC.ex b m (by omega) h1
    · exact ⟨n, c, fun m hm => Nat.le_of_not_lt (fun q => h ⟨m, hm, q⟩)⟩
theorem IsC.one (h : IsC ok p W s n) (h2 : IsC ok p W s m) : n = m := Nat.le_antisymm (h.2 m h2.1) (h2.2 n h.1)
theorem IsC.inv (h : IsC ok p W s n) (hn : n ≠ 0) : ∃ k m, ok s k ∧ IsC ok p W (s ^^^ 2 ^ k) m ∧ n = m + p k := by
  rcases Co_inv h.1 with ⟨h1, _⟩ | ⟨k, m, h1, h2, h3⟩
  · exact absurd h1 hn
  · refine ⟨k, m, h1, ⟨h2, fun m' hm => ?_⟩, h3⟩
    have := h.2 _ (Co_step h1 hm)
    omega
theorem IsC.w (h : W s) : IsC ok p W s 0 := ⟨Co_zero h, fun m _ => Nat.zero_le m⟩
theorem IsC.zero (hp : ∀ s k, ok s k → 1 ≤ p k ∧ p k ≤ 9) (h : IsC ok p W s 0) : W s := by
  rcases Co_inv h.1 with ⟨_, h1⟩ | ⟨k, m, h1, h2, h3⟩
  · exact h1
  · have := hp s k h1
    omega
theorem IsC.bound (hp : ∀ s k, ok s k → 1 ≤ p k ∧ p k ≤ 9) (hN : ∀ s k, ok s k → s < N → s ^^^ 2 ^ k < N) : ∀ (b n s : Nat), n ≤ b → s < N → IsC ok p W s n → n ≤ 9 * cnt N (fun t => ∃ y, IsC ok p W t y ∧ y < n)
  | 0, n, s, hb, hs, h => by omega
  | b + 1, n, s, hb, hs, h => by
    by_cases hn : n = 0
    · omega
    · obtain ⟨k, m, h1, h2, h3⟩ := h.inv hn
      have hk := hp s k h1
      have ih := IsC.bound hp hN b m (s ^^^ 2 ^ k) (by omega) (hN s k h1 hs) h2
      have hm := cnt_more (P := fun t => ∃ y, IsC ok p W t y ∧ y < m) (Q := fun t => ∃ y, IsC ok p W t y ∧ y < n) (s := s ^^^ 2 ^ k) N (fun i _ ⟨y, a, b⟩ => ⟨y, a, by omega⟩) (hN s k h1 hs) ⟨m, h2, by omega⟩ (fun ⟨y, a, b⟩ => by
        have := a.one h2
        omega)
      omega
theorem IsC.le (hp : ∀ s k, ok s k → 1 ≤ p k ∧ p k ≤ 9) (hN : ∀ s k, ok s k → s < N → s ^^^ 2 ^ k < N) (h256 : N ≤ 256) (hs : s < N) (h : IsC ok p W s n) : n ≤ 2295 := by
  have h1 := IsC.bound hp hN n n s (Nat.le_refl _) hs h
  have h2 := cnt_more (P := fun t => ∃ y, IsC ok p W t y ∧ y < n) (Q := fun _ => True) (s := s) N (fun _ _ _ => trivial) hs trivial (fun ⟨y, a, b⟩ => by
    have := a.one h
    omega)
  have h3 := cnt_le (fun _ : Nat => True) N
  omega
noncomputable def dst (ok : Nat → Nat → Prop) (p : Nat → Nat) (W : Nat → Prop) (s : Nat) : Option Nat := @dite _ (∃ n, IsC ok p W s n) (Classical.propDecidable _) (fun h => some (Classical.choose h)) (fun _ => none)
theorem dst_some : dst ok p W s = some n ↔ IsC ok p W s n := by
  unfold dst
  by_cases h : ∃ n, IsC ok p W s n
  · rw [dif_pos h]
    constructor
    · intro e
      have := Option.some.inj e
      subst this
      exact Classical.choose_spec h
    · intro e
      rw [e.one (Classical.choose_spec h)]
  · rw [dif_neg h]
    constructor
    · intro e; cases e
    · intro e; exact absurd ⟨n, e⟩ h
theorem dst_of (c : Co ok p W s n) : ∃ m, dst ok p W s = some m ∧ m ≤ n := by
  obtain ⟨m, hm⟩ := IsC.ex n n (Nat.le_refl _) c
  exact ⟨m, dst_some.mpr hm, hm.2 n c⟩
noncomputable def dS (ok : Nat → Nat → Prop) (p : Nat → Nat) (W sd : Nat → Prop) (s : Nat) : Option Nat := @ite _ (sd s) (Classical.propDecidable _) (dst ok p W s) none
theorem dS_yes (h : sd s) : dS ok p W sd s = dst ok p W s := if_pos h
theorem dS_no (h : ¬ sd s) : dS ok p W sd s = none := if_neg h
/-! The class: the costs are spread from what is wanted. -/
def CI (ok : Nat → Nat → Prop) (p : Nat → Nat) (W sd : Nat → Prop) (N : Nat) (D : Nat → Option Nat) : Prop := (∀ s, s < N → ∀ n, D s = some n → sd s ∧ Co ok p W s n ∧ n ≤ 2304) ∧ ∀ s, s < N → sd s → W s → D s = some 0
def CR (ok : Nat → Nat → Prop) (p : Nat → Nat) (W sd : Nat → Prop) (N : Nat) (D : Nat → Option Nat) (x : Nat) : Prop := ∀ t m k, t < N → sd t → IsC ok p W t m → m < x → ok t k → ∃ n, D (t ^^^ 2 ^ k) = some n ∧ n ≤ m + p k
def CP (ok : Nat → Nat → Prop) (p : Nat → Nat) (W sd : Nat → Prop) (D : Nat → Option Nat) (x j : Nat) : Prop := ∀ t k, t < j → sd t → IsC ok p W t x → ok t k → ∃ n, D (t ^^^ 2 ^ k) = some n ∧ n ≤ x + p k
def CQ (ok : Nat → Nat → Prop) (p : Nat → Nat) (D : Nat → Option Nat) (x j k : Nat) : Prop := ∀ k', k' < k → ok j k' → ∃ n, D (j ^^^ 2 ^ k') = some n ∧ n ≤ x + p k'
def Rlx (D D' : Nat → Option Nat) : Prop := ∀ s n, D s = some n → ∃ n', D' s = some n' ∧ n' ≤ n
theorem settle {D : Nat → Option Nat} (hp : ∀ s k, ok s k → 1 ≤ p k ∧ p k ≤ 9) (hN : ∀ s k, ok s k → s < N → s ^^^ 2 ^ k < N) (h1 : ∀ s k, ok s k → sd (s ^^^ 2 ^ k)) (h2 : ∀ s k, sd s → ok s k → ok (s ^^^ 2 ^ k) k) (ci : CI ok p W sd N D) (cr : CR ok p W sd N D x) (hs : s < N) (hd : sd s) (h : IsC ok p W s n) (hn : n ≤ x) : D s = some n := by
  by_cases h0 : n = 0
  · subst h0
    exact ci.2 s hs hd (h.zero hp)
  · obtain ⟨k, m, a1, a2, a3⟩ := h.inv h0
    have hk := hp s k a1
    obtain ⟨n', b1, b2⟩ := cr (s ^^^ 2 ^ k) m k (hN s k a1 hs) (h1 s k a1) a2 (by omega) (h2 s k hd a1)
    rw [xx] at b1
    have := h.2 n' (ci.1 s hs n' b1).2.1
    have : n' = n := by omega
    subst this
    exact b1
theorem cfin {D : Nat → Option Nat} (hp : ∀ s k, ok s k → 1 ≤ p k ∧ p k ≤ 9) (hN : ∀ s k, ok s k → s < N → s ^^^ 2 ^ k < N) (h256 : N ≤ 256) (h1 : ∀ s k, ok s k → sd (s ^^^ 2 ^ k)) (h2 : ∀ s k, sd s → ok s k → ok (s ^^^ 2 ^ k) k) (ci : CI ok p W sd N D) (cr : CR ok p W sd N D x) (hx : 2295 < x ∨ ∀ s n, s < N → D s = some n → n < x) : ∀ s, s < N → D s = dS ok p W sd s := by
  have key : ∀ (b n s : Nat), n ≤ b → s < N → sd s → IsC ok p W s n → D s = some n := by
    intro b
    induction b with
    | zero =>
      intro n s hb hs hd h
      obtain rfl : n = 0 := by omega
      exact ci.2 s hs hd (h.zero hp)
    | succ b ih =>
      intro n s hb hs hd h
      by_cases h0 : n = 0
      · subst h0
        exact ci.2 s hs hd (h.zero hp)
      · obtain ⟨k, m, a1, a2, a3⟩ := h.inv h0
        have hk := hp s k a1
        have ht := hN s k a1 hs
        have hi := ih m (s ^^^ 2 ^ k) (by omega) ht (h1 s k a1) a2
        have hm : m < x := by
          rcases hx with g | g
          · have := a2.le hp hN h256 ht
            omega
          · exact g _ _ ht hi
        obtain ⟨n', b1, b2⟩ := cr (s ^^^ 2 ^ k) m k ht (h1 s k a1) a2 hm (h2 s k hd a1)
        rw [xx] at b1
        have := h.2 n' (ci.1 s hs n' b1).2.1
        have : n' = n := by omega
        subst this
        exact b1
  intro s hs
  by_cases hd : sd s
  · rw [dS_yes hd]
    cases hD : D s with
    | none =>
      cases hE : dst ok p W s with
      | none => rfl
      | some n =>
        have := key n n s (Nat.le_refl _) hs hd (dst_some.mp hE)
        rw [hD] at this
        cases this
    | some n =>
      obtain ⟨m, hm, _⟩ := dst_of (ci.1 s hs n hD).2.1
      have := key m m s (Nat.le_refl _) hs hd (dst_some.mp hm)
      rw [hD] at this
      rw [hm, this]
  · rw [dS_no hd]
    cases hD : D s with
    | none => rfl
    | some n => exact absurd (ci.1 s hs n hD).1 hd
def updO (D : Nat → Option Nat) (s v : Nat) : Nat → Option Nat := fun t => if t = s then some v else D t
theorem updO_rlx {D : Nat → Option Nat} {v : Nat} (h : D s = none ∨ ∃ n, D s = some n ∧ v < n) : Rlx D (updO D s v) := fun t n ht => by
  unfold updO
  by_cases e : t = s
  · subst e
    rw [if_pos rfl]
    rcases h with g | ⟨n', g1, g2⟩
    · rw [g] at ht; cases ht
    · rw [g1] at ht
      have := Option.some.inj ht
      exact ⟨v, rfl, by omega⟩
  · rw [if_neg e]
    exact ⟨n, ht, Nat.le_refl _⟩
theorem CR.rlx {D D' : Nat → Option Nat} (h : CR ok p W sd N D x) (r : Rlx D D') : CR ok p W sd N D' x := fun t m k a b c d e => by
  obtain ⟨n, h1, h2⟩ := h t m k a b c d e
  obtain ⟨n', h3, h4⟩ := r _ _ h1
  exact ⟨n', h3, by omega⟩
theorem CP.rlx {D D' : Nat → Option Nat} {j : Nat} (h : CP ok p W sd D x j) (r : Rlx D D') : CP ok p W sd D' x j := fun t k a b c e => by
  obtain ⟨n, h1, h2⟩ := h t k a b c e
  obtain ⟨n', h3, h4⟩ := r _ _ h1
  exact ⟨n', h3, by omega⟩
theorem CQ.rlx {D D' : Nat → Option Nat} {j : Nat} (h : CQ ok p D x j k) (r : Rlx D D') : CQ ok p D' x j k := fun k' a b => by
  obtain ⟨n, h1, h2⟩ := h k' a b
  obtain ⟨n', h3, h4⟩ := r _ _ h1
  exact ⟨n', h3, by omega⟩
theorem CI.upd {D : Nat → Option Nat} {j : Nat} (h2 : ∀ s k, sd s → ok s k → ok (s ^^^ 2 ^ k) k) (h1 : ∀ s k, ok s k → sd (s ^^^ 2 ^ k)) (ci : CI ok p W sd N D) (hd : sd j) (c : Co ok p W j x) (ho : ok j k) (hx : x + p k ≤ 2304) (h : D (j ^^^ 2 ^ k) = none ∨ ∃ n, D (j ^^^ 2 ^ k) = some n ∧ x + p k < n) : CI ok p W sd N (updO D (j ^^^ 2 ^ k) (x + p k)) := by
  refine ⟨fun s hs n hn => ?_, fun s hs hsd hw => ?_⟩
  · unfold updO at hn
    by_cases e : s = j ^^^ 2 ^ k
    · rw [if_pos e] at hn
      have := Option.some.inj hn
      subst this
      subst e
      exact ⟨h1 j k ho, Co_step (h2 j k hd ho) (by rw [xx]; exact c), hx⟩
    · rw [if_neg e] at hn
      exact ci.1 s hs n hn
  · obtain ⟨n', g1, g2⟩ := updO_rlx h s 0 (ci.2 s hs hsd hw)
    obtain rfl : n' = 0 := by omega
    exact g1
/-! The model: what is cheaper is taken until nothing is. -/
def sm (E : Nat → Nat) : Nat → Nat
  | 0 => 0
  | n + 1 => sm E n + E n
def updN (E : Nat → Nat) (s v : Nat) : Nat → Nat := fun t => if t = s then v else E t
theorem updN_eq (E : Nat → Nat) (s v : Nat) : updN E s v s = v := if_pos rfl
theorem updN_ne {E : Nat → Nat} {s v t : Nat} (h : t ≠ s) : updN E s v t = E t := if_neg h
theorem updN_self (E : Nat → Nat) (s : Nat) : updN E s (E s) = E := funext fun t => by
  unfold updN
  split
  · next e => rw [e]
  · rfl
theorem sm_out {E : Nat → Nat} {s v : Nat} : ∀ n, n ≤ s → sm (updN E s v) n = sm E n
  | 0, _ => rfl
  | n + 1, h => by
    show sm (updN E s v) n + updN E s v n = sm E n + E n
    rw [sm_out n (by omega), updN_ne (by omega)]
theorem sm_in {E : Nat → Nat} {s v : Nat} : ∀ n, s < n → sm (updN E s v) n + E s = sm E n + v
  | 0, h => absurd h (Nat.not_lt_zero s)
  | n + 1, h => by
    show sm (updN E s v) n + updN E s v n + E s = sm E n + E n + v
    by_cases e : s = n
    · subst e
      rw [sm_out s (Nat.le_refl _), updN_eq]
      omega
    · have := sm_in (E := E) (s := s) (v := v) n (by omega)
      rw [updN_ne (by omega : n ≠ s)]
      omega
def fI (o : Option Nat) : Nat := o.getD 99999
def oI (o : Option Nat) : Int32 := match o with
  | some n => nI n
  | none => -1
def MI (ok : Nat → Nat → Prop) (p : Nat → Nat) (W : Nat → Prop) (N : Nat) (E : Nat → Nat) : Prop := ∀ s, s < N → E s ≤ 99999 ∧ (E s < 99999 → Co ok p W s (E s)) ∧ (W s → E s = 0)
theorem mfin {E : Nat → Nat} (hp : ∀ s k, ok s k → 1 ≤ p k ∧ p k ≤ 9) (hN : ∀ s k, ok s k → s < N → s ^^^ 2 ^ k < N) (h256 : N ≤ 256) (mi : MI ok p W N E) (mr : ∀ s k, s < N → ok s k → E s ≤ E (s ^^^ 2 ^ k) + p k) : ∀ s, s < N → E s = fI (dst ok p W s) := by
  have key : ∀ (b n s : Nat), n ≤ b → s < N → IsC ok p W s n → E s ≤ n := by
    intro b
    induction b with
    | zero =>
      intro n s hb hs h
      obtain rfl : n = 0 := by omega
      rw [(mi s hs).2.2 (h.zero hp)]
      exact Nat.le_refl _
    | succ b ih =>
      intro n s hb hs h
      by_cases h0 : n = 0
      · subst h0
        rw [(mi s hs).2.2 (h.zero hp)]
        exact Nat.le_refl _
      · obtain ⟨k, m, a1, a2, a3⟩ := h.inv h0
        have hk := hp s k a1
        have hi := ih m _ (by omega) (hN s k a1 hs) a2
        have := mr s k hs a1
        omega
  intro s hs
  cases hE : dst ok p W s with
  | none =>
    show E s = 99999
    have h := mi s hs
    by_cases g : E s < 99999
    · obtain ⟨m, hm, _⟩ := dst_of (h.2.1 g)
      rw [hE] at hm; cases hm
    · omega
  | some n =>
    have hc := dst_some.mp hE
    have h1 := key n n s (Nat.le_refl _) hs hc
    have h2 := hc.le hp hN h256 hs
    have h3 := hc.2 _ ((mi s hs).2.1 (by omega))
    show E s = n
    omega
theorem MI.upd {E : Nat → Nat} (hN : ∀ s k, ok s k → s < N → s ^^^ 2 ^ k < N) (hp : ∀ s k, ok s k → 1 ≤ p k ∧ p k ≤ 9) (mi : MI ok p W N E) (hs : s < N) (ho : ok s k) (h : E (s ^^^ 2 ^ k) + p k < E s) : MI ok p W N (updN E s (E (s ^^^ 2 ^ k) + p k)) := fun t ht => by
  have hk := hp s k ho
  by_cases e : t = s
  · subst e
    rw [updN_eq]
    have := (mi t ht).1
    have h2 := (mi _ (hN t k ho ht)).2.1 (by omega)
    refine ⟨by omega, fun _ => Co_step ho h2, fun hw => ?_⟩
    have := (mi t ht).2.2 hw
    omega
  · rw [updN_ne e]
    exact mi t ht
def NI (ok : Nat → Nat → Prop) (p : Nat → Nat) (W sd : Nat → Prop) (N : Nat) (E : Nat → Nat) : Prop := ∀ s, s < N → E s ≤ 99999 ∧ (E s < 99999 → sd s ∧ Co ok p W s (E s)) ∧ (W s → E s = 0)
theorem nfin {E : Nat → Nat} (hp : ∀ s k, ok s k → 1 ≤ p k ∧ p k ≤ 9) (hN : ∀ s k, ok s k → s < N → s ^^^ 2 ^ k < N) (h256 : N ≤ 256) (h1 : ∀ s k, ok s k → sd (s ^^^ 2 ^ k)) (h2 : ∀ s k, sd s → ok s k → ok (s ^^^ 2 ^ k) k) (mi : NI ok p W sd N E) (mr : ∀ s k, s < N → E s < 99999 → ok s k → E (s ^^^ 2 ^ k) ≤ E s + p k) : ∀ s, s < N → E s = fI (dS ok p W sd s) := by
  have key : ∀ (b n s : Nat), n ≤ b → s < N → sd s → IsC ok p W s n → E s ≤ n := by
    intro b
    induction b with
    | zero =>
      intro n s hb hs hd h
      obtain rfl : n = 0 := by omega
      rw [(mi s hs).2.2 (h.zero hp)]
      exact Nat.le_refl _
    | succ b ih =>
      intro n s hb hs hd h
      by_cases h0 : n = 0
      · subst h0
        rw [(mi s hs).2.2 (h.zero hp)]
        exact Nat.le_refl _
      · obtain ⟨k, m, a1, a2, a3⟩ := h.inv h0
        have hk := hp s k a1
        have ht := hN s k a1 hs
        have hi := ih m _ (by omega) ht (h1 s k a1) a2
        have hb2 := a2.le hp hN h256 ht
        have := mr (s ^^^ 2 ^ k) k ht (by omega) (h2 s k hd a1)
        rw [xx] at this
        omega
  intro s hs
  have h := mi s hs
  by_cases hd : sd s
  · rw [dS_yes hd]
    cases hE : dst ok p W s with
    | none =>
      show E s = 99999
      by_cases g : E s < 99999
      · obtain ⟨m, hm, _⟩ := dst_of (h.2.1 g).2
        rw [hE] at hm; cases hm
      · omega
    | some n =>
      have hc := dst_some.mp hE
      have g1 := key n n s (Nat.le_refl _) hs hd hc
      have g2 := hc.le hp hN h256 hs
      have g3 := hc.2 _ (h.2.1 (by omega)).2
      show E s = n
      omega
  · rw [dS_no hd]
    show E s = 99999
    by_cases g : E s < 99999
    · exact absurd (h.2.1 g).1 hd
    · omega
theorem NI.upd {E : Nat → Nat} (hN : ∀ s k, ok s k → s < N → s ^^^ 2 ^ k < N) (hp : ∀ s k, ok s k → 1 ≤ p k ∧ p k ≤ 9) (h1 : ∀ s k, ok s k → sd (s ^^^ 2 ^ k)) (h2 : ∀ s k, sd s → ok s k → ok (s ^^^ 2 ^ k) k) (mi : NI ok p W sd N E) (hs : s < N) (ho : ok s k) (hf : E s < 99999) (h : E s + p k < E (s ^^^ 2 ^ k)) : NI ok p W sd N (updN E (s ^^^ 2 ^ k) (E s + p k)) := fun t ht => by
  have hk := hp s k ho
  by_cases e : t = s ^^^ 2 ^ k
  · subst e
    rw [updN_eq]
    have hm := mi _ ht
    have h3 := (mi s hs).2.1 hf
    refine ⟨by omega, fun _ => ⟨h1 s k ho, Co_step (h2 s k h3.1 ho) (by rw [xx]; exact h3.2)⟩, fun hw => ?_⟩
    have := hm.2.2 hw
    omega
  · rw [updN_ne e]
    exact mi t ht
/-! The steps of the cheapest row. -/
def Sq (ok : Nat → Nat → Prop) (p : Nat → Nat) (W : Nat → Prop) (s e : Nat) : Prop := ok s e ∧ ∃ y, dst ok p W (s ^^^ 2 ^ e) = some y ∧ dst ok p W s = some (y + p e)
def St1 (ok : Nat → Nat → Prop) (p : Nat → Nat) (W : Nat → Prop) (s e : Nat) : Prop := Sq ok p W s e ∧ ∀ e', e' < e → ¬ Sq ok p W s e'
theorem St1.one {e e' : Nat} (h : St1 ok p W s e) (h2 : St1 ok p W s e') : e = e' := by
  rcases Nat.lt_trichotomy e e' with g | g | g
  · exact absurd h.1 (h2.2 e g)
  · exact g
  · exact absurd h2.1 (h.2 e' g)
theorem St1.ex (h : dst ok p W s = some n) (hn : n ≠ 0) : ∃ e, Sq ok p W s e := by
  obtain ⟨k, m, a1, a2, a3⟩ := (dst_some.mp h).inv hn
  exact ⟨k, a1, m, dst_some.mpr a2, by rw [h, a3]⟩
noncomputable def nxt (ok : Nat → Nat → Prop) (p : Nat → Nat) (W : Nat → Prop) (s : Nat) : Nat := @dite _ (∃ e, St1 ok p W s e) (Classical.propDecidable _) (fun h => Classical.choose h) (fun _ => 0)
theorem St1.isN {e : Nat} (h : St1 ok p W s e) : e = nxt ok p W s := by
  unfold nxt
  rw [dif_pos ⟨e, h⟩]
  exact h.one (Classical.choose_spec (⟨e, h⟩ : ∃ e, St1 ok p W s e))
noncomputable def trk (ok : Nat → Nat → Prop) (p : Nat → Nat) (W : Nat → Prop) (c : Nat) : Nat → Nat
  | 0 => c
  | i + 1 => trk ok p W c i ^^^ 2 ^ nxt ok p W (trk ok p W c i)
/-- what is told of a place k of the cheapest row -/
noncomputable def ansK (ok : Nat → Nat → Prop) (p : Nat → Nat) (W : Nat → Prop) (c k : Nat) : Int32 := @ite _ (∃ i, i ≤ k ∧ dst ok p W (trk ok p W c i) = some 0) (Classical.propDecidable _) (-9) (nI (nxt ok p W (trk ok p W c k)))
end CO
