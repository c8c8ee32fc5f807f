/-! Pair odds. -/
def sumTo (f : Nat → Nat) : Nat → Nat
  | 0 => 0
  | n + 1 => sumTo f n + f n
theorem sumTo_add (f : Nat → Nat) (a : Nat) : ∀ b, sumTo f (a + b) = sumTo f a + sumTo (fun s => f (a + s)) b
  | 0 => rfl
  | b + 1 => by
    show sumTo f (a + b) + f (a + b) = sumTo f a + (sumTo (fun s => f (a + s)) b + f (a + b))
    rw [sumTo_add f a b, Nat.add_assoc]
theorem sumTo_congr {f h : Nat → Nat} : ∀ n, (∀ s, s < n → f s = h s) → sumTo f n = sumTo h n
  | 0, _ => rfl
  | n + 1, e => by
    show sumTo f n + f n = sumTo h n + h n
    rw [sumTo_congr n (fun s hs => e s (by omega)), e n (by omega)]
theorem sumTo_mul (f : Nat → Nat) (a : Nat) : ∀ n, sumTo (fun s => f s * a) n = sumTo f n * a
  | 0 => (Nat.zero_mul a).symm
  | n + 1 => by
    show sumTo (fun s => f s * a) n + f n * a = (sumTo f n + f n) * a
    rw [sumTo_mul f a n, Nat.add_mul]
theorem sumTo_le {f h : Nat → Nat} : ∀ n, (∀ s, s < n → f s ≤ h s) → sumTo f n ≤ sumTo h n
  | 0, _ => Nat.le_refl _
  | n + 1, e => by
    have := sumTo_le n (fun s hs => e s (by omega))
    have := e n (by omega)
    show sumTo f n + f n ≤ sumTo h n + h n
    omega
theorem sumTo_mono (f : Nat → Nat) {m : Nat} : ∀ n, m ≤ n → sumTo f m ≤ sumTo f n
  | 0, h => by
    obtain rfl : m = 0 := by omega
    exact Nat.le_refl _
  | n + 1, h => by
    by_cases e : m = n + 1
    · rw [e]; exact Nat.le_refl _
    · exact Nat.le_trans (sumTo_mono f n (by omega)) (Nat.le_add_right _ _)
theorem sumTo_zero {f : Nat → Nat} {m : Nat} : ∀ n, m ≤ n → (∀ s, m ≤ s → s < n → f s = 0) → sumTo f n = sumTo f m
  | 0, h, _ => by
    obtain rfl : m = 0 := by omega
    rfl
  | n + 1, h, e => by
    by_cases g : m = n + 1
    · rw [g]
    · show sumTo f n + f n = _
      rw [sumTo_zero n (by omega) (fun s h1 h2 => e s h1 (by omega)), e n (by omega) (by omega), Nat.add_zero]
def ffo (x br S : Nat) : Nat → Nat
  | 0 => 1
  | n + 1 => ffo x br S n * (if br.testBit n = true then (if S.testBit n = true then x else 10 - x) else (if S.testBit n = true then 0 else 1))
theorem ffo_low (x br n S : Nat) : ∀ m, m ≤ n → ffo x br (2 ^ n + S) m = ffo x br S m
  | 0, _ => rfl
  | m + 1, h => by
    show ffo x br (2 ^ n + S) m * _ = ffo x br S m * _
    rw [ffo_low x br n S m (by omega), Nat.testBit_two_pow_add_gt (by omega)]
theorem ffo_sum {x br : Nat} (hx : x ≤ 10) : ∀ n, sumTo (fun S => ffo x br S n) (2 ^ n) = 10 ^ pcn n br
  | 0 => rfl
  | n + 1 => by
    have ih := ffo_sum (x := x) (br := br) hx n
    have hs : ∀ S, S < 2 ^ n → S.testBit n = false := fun S h => Nat.testBit_lt_two_pow h
    rw [show 2 ^ (n + 1) = 2 ^ n + 2 ^ n by rw [Nat.pow_succ]; omega, sumTo_add]
    have e1 : sumTo (fun S => ffo x br S (n + 1)) (2 ^ n) = sumTo (fun S => ffo x br S n) (2 ^ n) * (if br.testBit n = true then 10 - x else 1) := by
      rw [← sumTo_mul]
      refine sumTo_congr _ (fun S h => ?_)
      show ffo x br S n * _ = ffo x br S n * _
      rw [hs S h]
      simp
    have e2 : sumTo (fun S => ffo x br (2 ^ n + S) (n + 1)) (2 ^ n) = sumTo (fun S => ffo x br S n) (2 ^ n) * (if br.testBit n = true then x else 0) := by
      rw [← sumTo_mul]
      refine sumTo_congr _ (fun S h => ?_)
      show ffo x br (2 ^ n + S) n * _ = ffo x br S n * _
      rw [ffo_low x br n S n (Nat.le_refl _), Nat.testBit_two_pow_add_eq, hs S h]
      simp
    rw [e1, e2, ih, ← Nat.mul_add]
    show _ = 10 ^ (pcn n br + (br.testBit n).toNat)
    rw [Nat.pow_add]
    congr 1
    cases br.testBit n with
    | false => simp
    | true =>
      show 10 - x + x = 10
      omega
def tmo (x br S n : Nat) : Nat := x ^ pcn n S * (10 - x) ^ pcn n (andN br S)
theorem tmo_zero (x br S : Nat) : tmo x br S 0 = 1 := rfl
theorem pcn_suc (n a : Nat) : pcn (n + 1) a = pcn n a + (a.testBit n).toNat := rfl
theorem tmo_no {x br S n : Nat} (hs : andN S br = 0) (h : br.testBit n = false) : tmo x br S n * 1 = tmo x br S (n + 1) := by
  have h2 : S.testBit n = false := by
    have := congrArg (fun a => Nat.testBit a n) hs
    simp only [andN_bit, Nat.zero_testBit, h] at this
    simpa using this
  unfold tmo
  rw [pcn_suc, pcn_suc, andN_bit, h, h2]
  simp
theorem tmo_in {x br S n : Nat} (h : br.testBit n = true) (h2 : S.testBit n = true) : tmo x br S n * x = tmo x br S (n + 1) := by
  unfold tmo
  rw [pcn_suc, pcn_suc, andN_bit, h, h2]
  simp [Nat.pow_succ]
  rw [Nat.mul_right_comm]
theorem tmo_out {x br S n : Nat} (h : br.testBit n = true) (h2 : S.testBit n = false) : tmo x br S n * (10 - x) = tmo x br S (n + 1) := by
  unfold tmo
  rw [pcn_suc, pcn_suc, andN_bit, h, h2]
  simp [Nat.pow_succ]
  rw [Nat.mul_assoc]
theorem tmo_ffo {x br S : Nat} (hs : andN S br = 0) : ∀ n, tmo x br S n = ffo x br S n
  | 0 => rfl
  | n + 1 => by
    have ih := tmo_ffo (x := x) hs n
    show _ = ffo x br S n * _
    cases h : br.testBit n with
    | false =>
      have h2 : S.testBit n = false := by
        have := congrArg (fun a => Nat.testBit a n) hs
        simp only [andN_bit, Nat.zero_testBit, h] at this
        simpa using this
      rw [← tmo_no hs h, ih, h2]
      simp
    | true =>
      cases h2 : S.testBit n with
      | false => rw [← tmo_out h h2, ih]; simp
      | true => rw [← tmo_in h h2, ih]; simp
theorem pcn_top {a m : Nat} (h : a < 2 ^ m) : ∀ n, m ≤ n → pcn n a = pcn m a
  | 0, g => by
    obtain rfl : m = 0 := by omega
    rfl
  | n + 1, g => by
    by_cases e : m = n + 1
    · rw [e]
    · rw [pcn_suc, pcn_top h n (by omega), Nat.testBit_lt_two_pow (Nat.lt_of_lt_of_le h (Nat.pow_le_pow_right (by decide) (by omega)))]
      rfl
theorem sub_le {S br : Nat} (h : andN S br = 0) : S ≤ br := by
  have := andN_sub.mp h
  rw [← this]
  exact Nat.and_le_left
/-- what a set of tripped breakers weighs -/
noncomputable def wgt (T : Nat → Nat) (c br ms x S : Nat) : Nat := if andN S br = 0 ∧ liveM T (andN c S) &&& ms = ms then tmo x br S 8 else 0
theorem wgt_le {T : Nat → Nat} {c br ms x : Nat} (hx : x ≤ 10) {m : Nat} (hm : m ≤ 256) : sumTo (wgt T c br ms x) m ≤ 10 ^ pcn 8 br := by
  refine Nat.le_trans (sumTo_mono _ 256 hm) ?_
  rw [← ffo_sum (x := x) hx 8]
  refine sumTo_le 256 (fun S _ => ?_)
  unfold wgt
  split
  · next h => rw [tmo_ffo h.1]; exact Nat.le_refl _
  · exact Nat.zero_le _
theorem wgt_all {T : Nat → Nat} {c br ms x n : Nat} (hb : br < n) : sumTo (wgt T c br ms x) n = sumTo (wgt T c br ms x) (br + 1) := sumTo_zero n (by omega) (fun S h1 _ => by
  unfold wgt
  rw [if_neg (fun h => by have := sub_le h.1; omega)])
theorem wgt_yes {T : Nat → Nat} {c br ms x S : Nat} (h : andN S br = 0) (h2 : liveM T (andN c S) &&& ms = ms) : sumTo (wgt T c br ms x) S + tmo x br S 8 = sumTo (wgt T c br ms x) (S + 1) := by
  show _ = sumTo (wgt T c br ms x) S + wgt T c br ms x S
  unfold wgt
  rw [if_pos ⟨h, h2⟩]
theorem wgt_no {T : Nat → Nat} {c br ms x S : Nat} (h : ¬ (andN S br = 0 ∧ liveM T (andN c S) &&& ms = ms)) : sumTo (wgt T c br ms x) S = sumTo (wgt T c br ms x) (S + 1) := by
  show _ = sumTo (wgt T c br ms x) S + wgt T c br ms x S
  unfold wgt
  rw [if_neg h]
  rfl
theorem gcd_step {a b : Nat} : Nat.gcd b (a % b) = Nat.gcd a b := by
  rw [Nat.gcd_comm a b, Nat.gcd_rec b a, Nat.gcd_comm]
theorem half_mod {a b : Nat} (hb : 0 < b) (h : b ≤ a) : 2 * (a % b) < a := by
  have h1 := Nat.div_add_mod a b
  have h2 := Nat.mod_lt a hb
  have h3 : 1 ≤ a / b := Nat.div_pos h hb
  have h4 : b * 1 ≤ b * (a / b) := Nat.mul_le_mul_left b h3
  omega
theorem L_pw {X : gX} {g : gS} {a e : Nat} (he : e < 100) : ∀ (d i : Nat), i + d = e → EvP X 124 4 [some (.int (nI a)), some (.int (nI e)), some (.int (nI (a ^ i))), some (.int (nI i))] [] g (fun v g1 => v = some (.int (nI (a ^ e))) ∧ g1 = g)
  | 0, i, hk => by
    obtain rfl : e = i := by omega
    refine ep_iln t124_4 rfl ?_
    refine ep_iln t124_5 rfl ?_
    refine ep_ifP t124_6 (ic_ge (by omega) (by omega)) (fun (c6 : e ≤ e) => ?_) (fun (c6 : ¬ (e ≤ e)) => (by exact absurd (Nat.le_refl _) c6))
    refine ep_iln t124_19 rfl ?_
    refine ep_ri t124_20 (fun h => absurd h (by decide)) ?_
    exact ⟨rfl, rfl⟩
  | d + 1, i, hk => by
    refine ep_iln t124_4 rfl ?_
    refine ep_iln t124_5 rfl ?_
    refine ep_ifP t124_6 (ic_ge (by omega) (by omega)) (fun (c6 : e ≤ i) => (by omega)) (fun (c6 : ¬ (e ≤ i)) => ?_)
    refine ep_iln t124_9 rfl ?_
    refine ep_iln t124_10 rfl ?_
    refine ep_mulN (a := a ^ i) (b := a) t124_11 ?_
    refine ep_isn (L' := [some (.int (nI a)), some (.int (nI e)), some (.int (nI ((a ^ i) * a))), some (.int (nI i))]) t124_12 rfl (Nat.le_of_ble_eq_true rfl) ?_
    refine ep_inc (b := nI (i + 1)) (L' := [some (.int (nI a)), some (.int (nI e)), some (.int (nI ((a ^ i) * a))), some (.int (nI (i + 1)))]) t124_13 rfl (nI_add i 1) rfl (Nat.le_of_ble_eq_true rfl) ?_
    refine ep_gt t124_16 ?_
    rw [← Nat.pow_succ]
    exact L_pw he d (i + 1) (by omega)
theorem cl_B_power {X : gX} {g : gS} {a e : Nat} (he : e < 100) : Cl X 124 [.int (nI a), .int (nI e)] g (some (.int (nI (a ^ e)))) g := by
  refine Cl.of ⟨Nat.le_of_ble_eq_true rfl, rfl⟩ ?_
  show EvP X 124 0 [some (.int (nI a)), some (.int (nI e)), none, none] [] g _
  refine ep_k1 (w := nI 1) t124_0 rfl ?_
  refine ep_isn (L' := [some (.int (nI a)), some (.int (nI e)), some (.int (nI 1)), none]) t124_1 rfl (Nat.le_of_ble_eq_true rfl) ?_
  refine ep_k1 (w := nI 0) t124_2 rfl ?_
  refine ep_isn (L' := [some (.int (nI a)), some (.int (nI e)), some (.int (nI 1)), some (.int (nI 0))]) t124_3 rfl (Nat.le_of_ble_eq_true rfl) ?_
  exact L_pw he e 0 (by omega)
theorem L_gcb {X : gX} {g : gS} {G : Nat} {oa ob : Option Value} : ∀ (d i a b : Nat) (o5 : Option Value), d + i ≤ 100 → a * b < 2 ^ d → b ≤ a → 0 < a → a < 2147483648 → Nat.gcd a b = G → EvP X 126 7 [oa, ob, some (.int (nI a)), some (.int (nI b)), some (.int (nI i)), o5] [] g (fun v g1 => v = some (.int (nI G)) ∧ g1 = g)
  | 0, i, a, b, o5, hk, hm, hle, ha, hlt, hg => by
    have hb0 : b = 0 := by
      rcases Nat.eq_zero_or_pos b with h | h
      · exact h
      · have := Nat.mul_pos ha h
        have : (2 : Nat) ^ 0 = 1 := rfl
        omega
    have hgg : a = G := by rw [← hg, hb0, Nat.gcd_zero_right]
    refine ep_il t126_7 rfl ?_
    refine ep_k2 (w := nI 100) t126_9 rfl ?_
    refine ep_ifP t126_11 (ic_ge (by omega) (by omega)) (fun (c11 : 100 ≤ i) => ?_) (fun (c11 : ¬ (100 ≤ i)) => ?_)
    · refine ep_iln t126_34 rfl ?_
      refine ep_ri t126_35 (fun h => absurd h (by decide)) ?_
      rw [hgg]
      exact ⟨rfl, rfl⟩
    · refine ep_iln t126_14 rfl ?_
      refine ep_if0P t126_15 (ic0_eq (by omega)) (fun (c15 : b = 0) => ?_) (fun (c15 : ¬ (b = 0)) => (by exact absurd hb0 c15))
      refine ep_iln t126_34 rfl ?_
      refine ep_ri t126_35 (fun h => absurd h (by decide)) ?_
      rw [hgg]
      exact ⟨rfl, rfl⟩
  | d + 1, i, a, b, o5, hk, hm, hle, ha, hlt, hg => by
    refine ep_il t126_7 rfl ?_
    refine ep_k2 (w := nI 100) t126_9 rfl ?_
    refine ep_ifP t126_11 (ic_ge (by omega) (by omega)) (fun (c11 : 100 ≤ i) => (by omega)) (fun (c11 : ¬ (100 ≤ i)) => ?_)
    refine ep_iln t126_14 rfl ?_
    refine ep_if0P t126_15 (ic0_eq (by omega)) (fun (c15 : b = 0) => ?_) (fun (c15 : ¬ (b = 0)) => ?_)
    · refine ep_iln t126_34 rfl ?_
      refine ep_ri t126_35 (fun h => absurd h (by decide)) ?_
      have hgg : a = G := by rw [← hg, c15, Nat.gcd_zero_right]
      rw [hgg]
      exact ⟨rfl, rfl⟩
    · refine ep_iln t126_18 rfl ?_
      refine ep_iln t126_19 rfl ?_
      refine ep_remN (a := a) (b := b) t126_20 (by omega) (by omega) (by omega) ?_
      refine ep_is (L' := [oa, ob, some (.int (nI a)), some (.int (nI b)), some (.int (nI i)), some (.int (nI (a % b)))]) t126_21 rfl (Nat.le_of_ble_eq_true rfl) ?_
      refine ep_iln t126_23 rfl ?_
      refine ep_isn (L' := [oa, ob, some (.int (nI b)), some (.int (nI b)), some (.int (nI i)), some (.int (nI (a % b)))]) t126_24 rfl (Nat.le_of_ble_eq_true rfl) ?_
      refine ep_il t126_25 rfl ?_
      refine ep_isn (L' := [oa, ob, some (.int (nI b)), some (.int (nI (a % b))), some (.int (nI i)), some (.int (nI (a % b)))]) t126_27 rfl (Nat.le_of_ble_eq_true rfl) ?_
      refine ep_inc (b := nI (i + 1)) (L' := [oa, ob, some (.int (nI b)), some (.int (nI (a % b))), some (.int (nI (i + 1))), some (.int (nI (a % b)))]) t126_28 rfl (nI_add i 1) rfl (Nat.le_of_ble_eq_true rfl) ?_
      refine ep_gt t126_31 ?_
      have hb1 : 0 < b := by omega
      have hh := half_mod hb1 hle
      have hml := Nat.mod_lt a hb1
      refine L_gcb d (i + 1) b (a % b) _ (by omega) ?_ (by omega) hb1 (by omega) (gcd_step.trans hg)
      have h1 : b * (2 * (a % b)) < b * a := Nat.mul_lt_mul_of_pos_left hh hb1
      have h2 : b * (2 * (a % b)) = 2 * (b * (a % b)) := Nat.mul_left_comm b 2 (a % b)
      rw [Nat.mul_comm b a] at h1
      rw [Nat.pow_succ] at hm
      omega
theorem cl_B_gcd {X : gX} {g : gS} {a b : Nat} (hm : a * b < 2 ^ 54) (hle : b ≤ a) (ha : 0 < a) (hlt : a < 2147483648) : Cl X 126 [.int (nI a), .int (nI b)] g (some (.int (nI (Nat.gcd a b)))) g := by
  refine Cl.of ⟨Nat.le_of_ble_eq_true rfl, rfl⟩ ?_
  show EvP X 126 0 [some (.int (nI a)), some (.int (nI b)), none, none, none, none] [] g _
  refine ep_iln t126_0 rfl ?_
  refine ep_isn (L' := [some (.int (nI a)), some (.int (nI b)), some (.int (nI a)), none, none, none]) t126_1 rfl (Nat.le_of_ble_eq_true rfl) ?_
  refine ep_iln t126_2 rfl ?_
  refine ep_isn (L' := [some (.int (nI a)), some (.int (nI b)), some (.int (nI a)), some (.int (nI b)), none, none]) t126_3 rfl (Nat.le_of_ble_eq_true rfl) ?_
  refine ep_k1 (w := nI 0) t126_4 rfl ?_
  refine ep_is (L' := [some (.int (nI a)), some (.int (nI b)), some (.int (nI a)), some (.int (nI b)), some (.int (nI 0)), none]) t126_5 rfl (Nat.le_of_ble_eq_true rfl) ?_
  exact L_gcb 54 0 a b _ (by omega) hm hle ha hlt rfl
theorem L_gcm {X : gX} {g : gS} {G : Nat} {oa ob : Option Value} : ∀ (d a b : Nat) (o4 : Option Value), b ≤ d → a < 2147483648 → b < 2147483648 → Nat.gcd a b = G → EvP X 128 4 [oa, ob, some (.int (nI a)), some (.int (nI b)), o4] [] g (fun v g1 => v = some (.int (nI G)) ∧ g1 = g)
  | 0, a, b, o4, hk, ha, hb, hg => by
    refine ep_iln t128_4 rfl ?_
    refine ep_if0P t128_5 (ic0_eq (by omega)) (fun (c5 : b = 0) => ?_) (fun (c5 : ¬ (b = 0)) => (by omega))
    refine ep_iln t128_21 rfl ?_
    refine ep_ri t128_22 (fun h => absurd h (by decide)) ?_
    have hgg : a = G := by rw [← hg, c5, Nat.gcd_zero_right]
    rw [hgg]
    exact ⟨rfl, rfl⟩
  | d + 1, a, b, o4, hk, ha, hb, hg => by
    refine ep_iln t128_4 rfl ?_
    refine ep_if0P t128_5 (ic0_eq (by omega)) (fun (c5 : b = 0) => ?_) (fun (c5 : ¬ (b = 0)) => ?_)
    · refine ep_iln t128_21 rfl ?_
      refine ep_ri t128_22 (fun h => absurd h (by decide)) ?_
      have hgg : a = G := by rw [← hg, c5, Nat.gcd_zero_right]
      rw [hgg]
      exact ⟨rfl, rfl⟩
    · refine ep_iln t128_8 rfl ?_
      refine ep_iln t128_9 rfl ?_
      refine ep_remN (a := a) (b := b) t128_10 (by omega) (by omega) (by omega) ?_
      refine ep_is (L' := [oa, ob, some (.int (nI a)), some (.int (nI b)), some (.int (nI (a % b)))]) t128_11 rfl (Nat.le_of_ble_eq_true rfl) ?_
      refine ep_iln t128_13 rfl ?_
      refine ep_isn (L' := [oa, ob, some (.int (nI b)), some (.int (nI b)), some (.int (nI (a % b)))]) t128_14 rfl (Nat.le_of_ble_eq_true rfl) ?_
      refine ep_il t128_15 rfl ?_
      refine ep_isn (L' := [oa, ob, some (.int (nI b)), some (.int (nI (a % b))), some (.int (nI (a % b)))]) t128_17 rfl (Nat.le_of_ble_eq_true rfl) ?_
      refine ep_gt t128_18 ?_
      have hb1 : 0 < b := by omega
      have hml := Nat.mod_lt a hb1
      exact L_gcm d b (a % b) _ (by omega) hb (by omega) (gcd_step.trans hg)
theorem cl_M_gcd {X : gX} {g : gS} {a b : Nat} (ha : a < 2147483648) (hb : b < 2147483648) : Cl X 128 [.int (nI a), .int (nI b)] g (some (.int (nI (Nat.gcd a b)))) g := by
  refine Cl.of ⟨Nat.le_of_ble_eq_true rfl, rfl⟩ ?_
  show EvP X 128 0 [some (.int (nI a)), some (.int (nI b)), none, none, none] [] g _
  refine ep_iln t128_0 rfl ?_
  refine ep_isn (L' := [some (.int (nI a)), some (.int (nI b)), some (.int (nI a)), none, none]) t128_1 rfl (Nat.le_of_ble_eq_true rfl) ?_
  refine ep_iln t128_2 rfl ?_
  refine ep_isn (L' := [some (.int (nI a)), some (.int (nI b)), some (.int (nI a)), some (.int (nI b)), none]) t128_3 rfl (Nat.le_of_ble_eq_true rfl) ?_
  exact L_gcm b a b _ (Nat.le_refl _) ha hb rfl
theorem L_ok_7 {X : gX} {q : Bool} {σ : gT1} {T : Nat → Nat} (hN : NetC σ 7 T) (hw : WF0 T) : ∀ (d k : Nat), k + d = T 3 → EvP X 123 4 [some (.ref 7), some (.int (nI 0)), some (.int (nI (mk k (fun k => T (4 + k) = 0)))), some (.int (nI k))] [] (47, g_rho q, σ) (fun v g1 => v = some (.int (nI (mk (T 3) (fun k => T (4 + k) = 0)))) ∧ g1 = (47, g_rho q, σ))
  | 0, k, hk => by
    obtain rfl : k = T 3 := by omega
    refine ep_iln t123_4 rfl ?_
    refine ep_aln t123_5 rfl ?_
    refine ep_get t123_6 rfl (Nat.le_of_ble_eq_true rfl) rfl ?_
    refine ep_val (b := nI (T 3)) (hN.1 3 (by decide)) ?_
    refine ep_ifP t123_9 (ic_ge (by have := hw.2.1; omega) (by have := hw.2.1; omega)) (fun (c9 : (T 3) ≤ (T 3)) => ?_) (fun (c9 : ¬ ((T 3) ≤ (T 3))) => (by exact absurd (Nat.le_refl _) c9))
    refine ep_iln t123_34 rfl ?_
    refine ep_ri t123_35 (fun h => absurd h (by decide)) ?_
    exact ⟨rfl, rfl⟩
  | d + 1, k, hk => by
    have hk3 : k < T 3 := by omega
    refine ep_iln t123_4 rfl ?_
    refine ep_aln t123_5 rfl ?_
    refine ep_get t123_6 rfl (Nat.le_of_ble_eq_true rfl) rfl ?_
    refine ep_val (b := nI (T 3)) (hN.1 3 (by decide)) ?_
    refine ep_ifP t123_9 (ic_ge (by have := hw.2.1; have := hw.2.2.2 k hk3; omega) (by have := hw.2.1; have := hw.2.2.2 k hk3; omega)) (fun (c9 : (T 3) ≤ k) => (by omega)) (fun (c9 : ¬ ((T 3) ≤ k)) => ?_)
    refine ep_aln t123_12 rfl ?_
    refine ep_getr (q := 8) t123_13 rfl (Nat.le_of_ble_eq_true rfl) rfl (rfl) ?_
    refine ep_iln t123_16 rfl ?_
    refine ep_aldN t123_17 rfl (Nat.le_of_ble_eq_true rfl) (Nat.ne_of_beq_eq_false rfl) (Nat.le_of_ble_eq_true rfl) (by have := hw.2.1; have := hw.2.2.2 k hk3; omega) ?_
    refine ep_val (b := nI (T (4 + k))) ((hN.2.1 k hk3).1) ?_
    refine ep_iln t123_18 rfl ?_
    refine ep_ifP t123_19 (ic_ne (by have := hw.2.1; have := hw.2.2.2 k hk3; omega) (by have := hw.2.1; have := hw.2.2.2 k hk3; omega)) (fun (c19 : ¬ (T (4 + k)) = 0) => ?_) (fun (c19 : ¬ (¬ (T (4 + k)) = 0)) => ?_)
    · refine ep_inc (b := nI (k + 1)) (L' := [some (.ref 7), some (.int (nI 0)), some (.int (nI (mk k (fun k => T (4 + k) = 0)))), some (.int (nI (k + 1)))]) t123_28 rfl (nI_add k 1) rfl (Nat.le_of_ble_eq_true rfl) ?_
      refine ep_gt t123_31 ?_
      rw [mk_no (P := fun k => T (4 + k) = 0) c19]
      exact L_ok_7 hN hw d (k + 1) (by omega)
    · refine ep_iln t123_22 rfl ?_
      refine ep_k1 (w := nI 1) t123_23 rfl ?_
      refine ep_iln t123_24 rfl ?_
      refine ep_oneN (b := k) t123_25 (by have := hw.2.1; have := hw.2.2.2 k hk3; omega) ?_
      refine ep_orN (a := mk k (fun k => T (4 + k) = 0)) (b := 2 ^ k) t123_26 ?_
      refine ep_isn (L' := [some (.ref 7), some (.int (nI 0)), some (.int (nI ((mk k (fun k => T (4 + k) = 0)) ||| (2 ^ k)))), some (.int (nI k))]) t123_27 rfl (Nat.le_of_ble_eq_true rfl) ?_
      refine ep_inc (b := nI (k + 1)) (L' := [some (.ref 7), some (.int (nI 0)), some (.int (nI ((mk k (fun k => T (4 + k) = 0)) ||| (2 ^ k)))), some (.int (nI (k + 1)))]) t123_28 rfl (nI_add k 1) rfl (Nat.le_of_ble_eq_true rfl) ?_
      refine ep_gt t123_31 ?_
      rw [mk_yes (P := fun k => T (4 + k) = 0) (Classical.byContradiction c19)]
      exact L_ok_7 hN hw d (k + 1) (by omega)
theorem cl_Net_ofKind_7 {X : gX} {q : Bool} {σ : gT1} {T : Nat → Nat} (hN : NetC σ 7 T) (hw : WF0 T)  : Cl X 123 [.ref 7, .int (nI 0)] (47, g_rho q, σ) (some (.int (nI (mk (T 3) (fun k => T (4 + k) = 0))))) (47, g_rho q, σ) := by
  refine Cl.of ⟨Nat.le_of_ble_eq_true rfl, rfl⟩ ?_
  show EvP X 123 0 [some (.ref 7), some (.int (nI 0)), none, none] [] (47, g_rho q, σ) _
  refine ep_k1 (w := nI 0) t123_0 rfl ?_
  refine ep_isn (L' := [some (.ref 7), some (.int (nI 0)), some (.int (nI 0)), none]) t123_1 rfl (Nat.le_of_ble_eq_true rfl) ?_
  refine ep_k1 (w := nI 0) t123_2 rfl ?_
  refine ep_isn (L' := [some (.ref 7), some (.int (nI 0)), some (.int (nI 0)), some (.int (nI 0))]) t123_3 rfl (Nat.le_of_ble_eq_true rfl) ?_
  exact L_ok_7 hN hw (T 3) 0 (by omega)

theorem L_ws_7 {X : gX} {σ : gT1} {T : Nat → Nat} {c br x : Nat} (hN : NetC σ 7 T) (hw : WF0 T) (h22 : T 2 < 2147483648) (hc : c < 2 ^ T 3) (e4 : σ 0 4 = nI c) (hbr : br < 2 ^ T 3) (hx : x ≤ 10) : ∀ (d S : Nat), S + d = br + 1 → EvP X 125 27 [some (.ref 0), some (.int (nI br)), some (.int (nI x)), some (.int (nI (liveM T c &&& T 2))), some (.int (nI (sumTo (wgt T c br (liveM T c &&& T 2) x) S))), some (.int (nI S))] [] (47, g_rho false, σ) (fun v g1 => v = some (.int (nI (sumTo (wgt T c br (liveM T c &&& T 2) x) (br + 1)))) ∧ g1 = (47, g_rho false, σ))
  | 0, S, hk => by
    obtain rfl : S = br + 1 := by omega
    have hx8 := pow_le_256 hw.2.1
    refine ep_il t125_27 rfl ?_
    refine ep_iln t125_29 rfl ?_
    refine ep_ifP t125_30 (ic_gt (by omega) (by omega)) (fun (c30 : br < (br + 1)) => ?_) (fun (c30 : ¬ (br < (br + 1))) => (by omega))
    refine ep_il t125_102 rfl ?_
    refine ep_ri t125_104 (fun h => absurd h (by decide)) ?_
    exact ⟨rfl, rfl⟩
  | d + 1, S, hk => by
    have hx8 := pow_le_256 hw.2.1
    refine ep_il t125_27 rfl ?_
    refine ep_iln t125_29 rfl ?_
    refine ep_ifP t125_30 (ic_gt (by omega) (by omega)) (fun (c30 : br < S) => (by omega)) (fun (c30 : ¬ (br < S)) => ?_)
    have hS : S < 2 ^ T 3 := by omega
    have hcs : andN c S < 2 ^ T 3 := andN_le _ _ hc
    have hbs : andN br S < 2 ^ T 3 := andN_le _ _ hbr
    have hsb : andN S br < 2 ^ T 3 := andN_le _ _ hS
    have hlv := live_lt hw.1 (andN c S)
    have hlc := live_lt hw.1 c
    have hms := and_lt (b := T 2) hlc
    have hmm := and_lt (b := liveM T c &&& T 2) hlv
    refine ep_il t125_33 rfl ?_
    refine ep_iln t125_35 rfl ?_
    refine ep_k1 (w := (-1)) t125_36 rfl ?_
    refine ep_xor t125_37 ?_
    refine ep_and t125_38 ?_
    refine ep_val (b := nI (andN S br)) (and_notG _ _) ?_
    refine ep_if0P t125_39 (ic0_ne (by omega)) (fun (c39 : ¬ (andN S br) = 0) => ?_) (fun (c39 : ¬ (¬ (andN S br) = 0)) => ?_)
    · refine ep_inc (b := nI (S + 1)) (L' := [some (.ref 0), some (.int (nI br)), some (.int (nI x)), some (.int (nI (liveM T c &&& T 2))), some (.int (nI (sumTo (wgt T c br (liveM T c &&& T 2) x) S))), some (.int (nI (S + 1)))]) t125_96 rfl (nI_add S 1) rfl (Nat.le_of_ble_eq_true rfl) ?_
      refine ep_gt t125_99 ?_
      rw [wgt_no (T := T) (c := c) (br := br) (ms := liveM T c &&& T 2) (x := x) (S := S) (fun h => by first | exact c39 h.1 | exact c62 h.2)]
      exact L_ws_7 hN hw h22 hc e4 hbr hx d (S + 1) (by omega)
    · refine ep_aln t125_42 rfl ?_
      refine ep_getr (q := 7) t125_43 rfl (Nat.le_of_ble_eq_true rfl) rfl (rfl) ?_
      refine ep_getr (q := 12) t125_46 rfl (Nat.le_of_ble_eq_true rfl) rfl (rfl) ?_
      refine ep_aln t125_49 rfl ?_
      refine ep_get t125_50 rfl (Nat.le_of_ble_eq_true rfl) rfl ?_
      refine ep_val (b := nI c) (e4) ?_
      refine ep_il t125_53 rfl ?_
      refine ep_k1 (w := (-1)) t125_55 rfl ?_
      refine ep_xor t125_56 ?_
      refine ep_and t125_57 ?_
      refine ep_val (b := nI (andN c S)) (and_notG _ _) ?_
      refine ep_aldN t125_58 rfl (Nat.le_of_ble_eq_true rfl) (Nat.ne_of_beq_eq_false rfl) (Nat.le_of_ble_eq_true rfl) (by omega) ?_
      refine ep_val (b := nI (liveM T (andN c S))) ((hN.2.2 _ hcs).1) ?_
      refine ep_iln t125_59 rfl ?_
      refine ep_andN (a := liveM T (andN c S)) (b := liveM T c &&& T 2) t125_60 ?_
      refine ep_iln t125_61 rfl ?_
      refine ep_ifP t125_62 (ic_ne (by omega) (by omega)) (fun (c62 : ¬ ((liveM T (andN c S)) &&& (liveM T c &&& T 2)) = (liveM T c &&& T 2)) => ?_) (fun (c62 : ¬ (¬ ((liveM T (andN c S)) &&& (liveM T c &&& T 2)) = (liveM T c &&& T 2))) => ?_)
      · refine ep_inc (b := nI (S + 1)) (L' := [some (.ref 0), some (.int (nI br)), some (.int (nI x)), some (.int (nI (liveM T c &&& T 2))), some (.int (nI (sumTo (wgt T c br (liveM T c &&& T 2) x) S))), some (.int (nI (S + 1)))]) t125_96 rfl (nI_add S 1) rfl (Nat.le_of_ble_eq_true rfl) ?_
        refine ep_gt t125_99 ?_
        rw [wgt_no (T := T) (c := c) (br := br) (ms := liveM T c &&& T 2) (x := x) (S := S) (fun h => by first | exact c39 h.1 | exact c62 h.2)]
        exact L_ws_7 hN hw h22 hc e4 hbr hx d (S + 1) (by omega)
      · refine ep_il t125_65 rfl ?_
        refine ep_iln t125_67 rfl ?_
        refine ep_il t125_68 rfl ?_
        refine ep_cs t125_70 (Nat.ne_of_beq_eq_false rfl) rfl (Nat.le_of_ble_eq_true rfl) (cl_bitCount (by omega)) ?_
        refine ep_cs t125_73 (Nat.ne_of_beq_eq_false rfl) rfl (Nat.le_of_ble_eq_true rfl) (cl_B_power (by have := pcn_le S 8; have := pcn_le (andN br S) 8; omega)) ?_
        refine ep_k2 (w := nI 10) t125_76 rfl ?_
        refine ep_iln t125_78 rfl ?_
        refine ep_subN (a := 10) (b := x) t125_79 (by omega) ?_
        refine ep_iln t125_80 rfl ?_
        refine ep_il t125_81 rfl ?_
        refine ep_k1 (w := (-1)) t125_83 rfl ?_
        refine ep_xor t125_84 ?_
        refine ep_and t125_85 ?_
        refine ep_val (b := nI (andN br S)) (and_notG _ _) ?_
        refine ep_cs t125_86 (Nat.ne_of_beq_eq_false rfl) rfl (Nat.le_of_ble_eq_true rfl) (cl_bitCount (by omega)) ?_
        refine ep_cs t125_89 (Nat.ne_of_beq_eq_false rfl) rfl (Nat.le_of_ble_eq_true rfl) (cl_B_power (by have := pcn_le S 8; have := pcn_le (andN br S) 8; omega)) ?_
        refine ep_mulN (a := x ^ (pcn 8 S)) (b := (10 - x) ^ (pcn 8 (andN br S))) t125_92 ?_
        refine ep_addN (a := sumTo (wgt T c br (liveM T c &&& T 2) x) S) (b := (x ^ (pcn 8 S)) * ((10 - x) ^ (pcn 8 (andN br S)))) t125_93 ?_
        refine ep_is (L' := [some (.ref 0), some (.int (nI br)), some (.int (nI x)), some (.int (nI (liveM T c &&& T 2))), some (.int (nI ((sumTo (wgt T c br (liveM T c &&& T 2) x) S) + ((x ^ (pcn 8 S)) * ((10 - x) ^ (pcn 8 (andN br S))))))), some (.int (nI S))]) t125_94 rfl (Nat.le_of_ble_eq_true rfl) ?_
        refine ep_inc (b := nI (S + 1)) (L' := [some (.ref 0), some (.int (nI br)), some (.int (nI x)), some (.int (nI (liveM T c &&& T 2))), some (.int (nI ((sumTo (wgt T c br (liveM T c &&& T 2) x) S) + ((x ^ (pcn 8 S)) * ((10 - x) ^ (pcn 8 (andN br S))))))), some (.int (nI (S + 1)))]) t125_96 rfl (nI_add S 1) rfl (Nat.le_of_ble_eq_true rfl) ?_
        refine ep_gt t125_99 ?_
        rw [show (sumTo (wgt T c br (liveM T c &&& T 2) x) S) + ((x ^ (pcn 8 S)) * ((10 - x) ^ (pcn 8 (andN br S)))) = sumTo (wgt T c br (liveM T c &&& T 2) x) (S + 1) from wgt_yes (ms := liveM T c &&& T 2) (Classical.byContradiction c39) (Classical.byContradiction c62)]
        exact L_ws_7 hN hw h22 hc e4 hbr hx d (S + 1) (by omega)
theorem cl_B_ways_7 {X : gX} {σ : gT1} {T : Nat → Nat} {c br x : Nat} (hN : NetC σ 7 T) (hw : WF0 T) (h22 : T 2 < 2147483648) (hc : c < 2 ^ T 3) (e4 : σ 0 4 = nI c) (hbr : br < 2 ^ T 3) (hx : x ≤ 10)  : Cl X 125 [.ref 0, .int (nI br), .int (nI x)] (47, g_rho false, σ) (some (.int (nI (sumTo (wgt T c br (liveM T c &&& T 2) x) (br + 1))))) (47, g_rho false, σ) := by
  refine Cl.of ⟨Nat.le_of_ble_eq_true rfl, rfl⟩ ?_
  show EvP X 125 0 [some (.ref 0), some (.int (nI br)), some (.int (nI x)), none, none, none] [] (47, g_rho false, σ) _
  refine ep_aln t125_0 rfl ?_
  refine ep_getr (q := 7) t125_1 rfl (Nat.le_of_ble_eq_true rfl) rfl (rfl) ?_
  refine ep_getr (q := 12) t125_4 rfl (Nat.le_of_ble_eq_true rfl) rfl (rfl) ?_
  refine ep_aln t125_7 rfl ?_
  refine ep_get t125_8 rfl (Nat.le_of_ble_eq_true rfl) rfl ?_
  refine ep_val (b := nI c) (e4) ?_
  refine ep_aldN t125_11 rfl (Nat.le_of_ble_eq_true rfl) (Nat.ne_of_beq_eq_false rfl) (Nat.le_of_ble_eq_true rfl) (by have := pow_le_256 hw.2.1; omega) ?_
  refine ep_val (b := nI (liveM T c)) ((hN.2.2 c hc).1) ?_
  refine ep_aln t125_12 rfl ?_
  refine ep_getr (q := 7) t125_13 rfl (Nat.le_of_ble_eq_true rfl) rfl (rfl) ?_
  refine ep_get t125_16 rfl (Nat.le_of_ble_eq_true rfl) rfl ?_
  refine ep_val (b := nI (T 2)) (hN.1 2 (by decide)) ?_
  refine ep_andN (a := liveM T c) (b := T 2) t125_19 ?_
  refine ep_isn (L' := [some (.ref 0), some (.int (nI br)), some (.int (nI x)), some (.int (nI ((liveM T c) &&& (T 2)))), none, none]) t125_20 rfl (Nat.le_of_ble_eq_true rfl) ?_
  refine ep_k1 (w := nI 0) t125_21 rfl ?_
  refine ep_is (L' := [some (.ref 0), some (.int (nI br)), some (.int (nI x)), some (.int (nI ((liveM T c) &&& (T 2)))), some (.int (nI 0)), none]) t125_22 rfl (Nat.le_of_ble_eq_true rfl) ?_
  refine ep_k1 (w := nI 0) t125_24 rfl ?_
  refine ep_is (L' := [some (.ref 0), some (.int (nI br)), some (.int (nI x)), some (.int (nI ((liveM T c) &&& (T 2)))), some (.int (nI 0)), some (.int (nI 0))]) t125_25 rfl (Nat.le_of_ble_eq_true rfl) ?_
  exact L_ws_7 hN hw h22 hc e4 hbr hx (br + 1) 0 (by omega)

theorem L_ok_16 {X : gX} {q : Bool} {σ : gT1} {T : Nat → Nat} (hN : NetC σ 16 T) (hw : WF0 T) : ∀ (d k : Nat), k + d = T 3 → EvP X 123 4 [some (.ref 16), some (.int (nI 0)), some (.int (nI (mk k (fun k => T (4 + k) = 0)))), some (.int (nI k))] [] (47, g_rho q, σ) (fun v g1 => v = some (.int (nI (mk (T 3) (fun k => T (4 + k) = 0)))) ∧ g1 = (47, g_rho q, σ))
  | 0, k, hk => by
    obtain rfl : k = T 3 := by omega
    refine ep_iln t123_4 rfl ?_
    refine ep_aln t123_5 rfl ?_
    refine ep_get t123_6 rfl (Nat.le_of_ble_eq_true rfl) rfl ?_
    refine ep_val (b := nI (T 3)) (hN.1 3 (by decide)) ?_
    refine ep_ifP t123_9 (ic_ge (by have := hw.2.1; omega) (by have := hw.2.1; omega)) (fun (c9 : (T 3) ≤ (T 3)) => ?_) (fun (c9 : ¬ ((T 3) ≤ (T 3))) => (by exact absurd (Nat.le_refl _) c9))
    refine ep_iln t123_34 rfl ?_
    refine ep_ri t123_35 (fun h => absurd h (by decide)) ?_
    exact ⟨rfl, rfl⟩
  | d + 1, k, hk => by
    have hk3 : k < T 3 := by omega
    refine ep_iln t123_4 rfl ?_
    refine ep_aln t123_5 rfl ?_
    refine ep_get t123_6 rfl (Nat.le_of_ble_eq_true rfl) rfl ?_
    refine ep_val (b := nI (T 3)) (hN.1 3 (by decide)) ?_
    refine ep_ifP t123_9 (ic_ge (by have := hw.2.1; have := hw.2.2.2 k hk3; omega) (by have := hw.2.1; have := hw.2.2.2 k hk3; omega)) (fun (c9 : (T 3) ≤ k) => (by omega)) (fun (c9 : ¬ ((T 3) ≤ k)) => ?_)
    refine ep_aln t123_12 rfl ?_
    refine ep_getr (q := 17) t123_13 rfl (Nat.le_of_ble_eq_true rfl) rfl (rfl) ?_
    refine ep_iln t123_16 rfl ?_
    refine ep_aldN t123_17 rfl (Nat.le_of_ble_eq_true rfl) (Nat.ne_of_beq_eq_false rfl) (Nat.le_of_ble_eq_true rfl) (by have := hw.2.1; have := hw.2.2.2 k hk3; omega) ?_
    refine ep_val (b := nI (T (4 + k))) ((hN.2.1 k hk3).1) ?_
    refine ep_iln t123_18 rfl ?_
    refine ep_ifP t123_19 (ic_ne (by have := hw.2.1; have := hw.2.2.2 k hk3; omega) (by have := hw.2.1; have := hw.2.2.2 k hk3; omega)) (fun (c19 : ¬ (T (4 + k)) = 0) => ?_) (fun (c19 : ¬ (¬ (T (4 + k)) = 0)) => ?_)
    · refine ep_inc (b := nI (k + 1)) (L' := [some (.ref 16), some (.int (nI 0)), some (.int (nI (mk k (fun k => T (4 + k) = 0)))), some (.int (nI (k + 1)))]) t123_28 rfl (nI_add k 1) rfl (Nat.le_of_ble_eq_true rfl) ?_
      refine ep_gt t123_31 ?_
      rw [mk_no (P := fun k => T (4 + k) = 0) c19]
      exact L_ok_16 hN hw d (k + 1) (by omega)
    · refine ep_iln t123_22 rfl ?_
      refine ep_k1 (w := nI 1) t123_23 rfl ?_
      refine ep_iln t123_24 rfl ?_
      refine ep_oneN (b := k) t123_25 (by have := hw.2.1; have := hw.2.2.2 k hk3; omega) ?_
      refine ep_orN (a := mk k (fun k => T (4 + k) = 0)) (b := 2 ^ k) t123_26 ?_
      refine ep_isn (L' := [some (.ref 16), some (.int (nI 0)), some (.int (nI ((mk k (fun k => T (4 + k) = 0)) ||| (2 ^ k)))), some (.int (nI k))]) t123_27 rfl (Nat.le_of_ble_eq_true rfl) ?_
      refine ep_inc (b := nI (k + 1)) (L' := [some (.ref 16), some (.int (nI 0)), some (.int (nI ((mk k (fun k => T (4 + k) = 0)) ||| (2 ^ k)))), some (.int (nI (k + 1)))]) t123_28 rfl (nI_add k 1) rfl (Nat.le_of_ble_eq_true rfl) ?_
      refine ep_gt t123_31 ?_
      rw [mk_yes (P := fun k => T (4 + k) = 0) (Classical.byContradiction c19)]
      exact L_ok_16 hN hw d (k + 1) (by omega)
theorem cl_Net_ofKind_16 {X : gX} {q : Bool} {σ : gT1} {T : Nat → Nat} (hN : NetC σ 16 T) (hw : WF0 T)  : Cl X 123 [.ref 16, .int (nI 0)] (47, g_rho q, σ) (some (.int (nI (mk (T 3) (fun k => T (4 + k) = 0))))) (47, g_rho q, σ) := by
  refine Cl.of ⟨Nat.le_of_ble_eq_true rfl, rfl⟩ ?_
  show EvP X 123 0 [some (.ref 16), some (.int (nI 0)), none, none] [] (47, g_rho q, σ) _
  refine ep_k1 (w := nI 0) t123_0 rfl ?_
  refine ep_isn (L' := [some (.ref 16), some (.int (nI 0)), some (.int (nI 0)), none]) t123_1 rfl (Nat.le_of_ble_eq_true rfl) ?_
  refine ep_k1 (w := nI 0) t123_2 rfl ?_
  refine ep_isn (L' := [some (.ref 16), some (.int (nI 0)), some (.int (nI 0)), some (.int (nI 0))]) t123_3 rfl (Nat.le_of_ble_eq_true rfl) ?_
  exact L_ok_16 hN hw (T 3) 0 (by omega)

theorem L_ws_16 {X : gX} {σ : gT1} {T : Nat → Nat} {c br x : Nat} (hN : NetC σ 16 T) (hw : WF0 T) (h22 : T 2 < 2147483648) (hc : c < 2 ^ T 3) (e4 : σ 0 4 = nI c) (hbr : br < 2 ^ T 3) (hx : x ≤ 10) : ∀ (d S : Nat), S + d = br + 1 → EvP X 125 27 [some (.ref 0), some (.int (nI br)), some (.int (nI x)), some (.int (nI (liveM T c &&& T 2))), some (.int (nI (sumTo (wgt T c br (liveM T c &&& T 2) x) S))), some (.int (nI S))] [] (47, g_rho true, σ) (fun v g1 => v = some (.int (nI (sumTo (wgt T c br (liveM T c &&& T 2) x) (br + 1)))) ∧ g1 = (47, g_rho true, σ))
  | 0, S, hk => by
    obtain rfl : S = br + 1 := by omega
    have hx8 := pow_le_256 hw.2.1
    refine ep_il t125_27 rfl ?_
    refine ep_iln t125_29 rfl ?_
    refine ep_ifP t125_30 (ic_gt (by omega) (by omega)) (fun (c30 : br < (br + 1)) => ?_) (fun (c30 : ¬ (br < (br + 1))) => (by omega))
    refine ep_il t125_102 rfl ?_
    refine ep_ri t125_104 (fun h => absurd h (by decide)) ?_
    exact ⟨rfl, rfl⟩
  | d + 1, S, hk => by
    have hx8 := pow_le_256 hw.2.1
    refine ep_il t125_27 rfl ?_
    refine ep_iln t125_29 rfl ?_
    refine ep_ifP t125_30 (ic_gt (by omega) (by omega)) (fun (c30 : br < S) => (by omega)) (fun (c30 : ¬ (br < S)) => ?_)
    have hS : S < 2 ^ T 3 := by omega
    have hcs : andN c S < 2 ^ T 3 := andN_le _ _ hc
    have hbs : andN br S < 2 ^ T 3 := andN_le _ _ hbr
    have hsb : andN S br < 2 ^ T 3 := andN_le _ _ hS
    have hlv := live_lt hw.1 (andN c S)
    have hlc := live_lt hw.1 c
    have hms := and_lt (b := T 2) hlc
    have hmm := and_lt (b := liveM T c &&& T 2) hlv
    refine ep_il t125_33 rfl ?_
    refine ep_iln t125_35 rfl ?_
    refine ep_k1 (w := (-1)) t125_36 rfl ?_
    refine ep_xor t125_37 ?_
    refine ep_and t125_38 ?_
    refine ep_val (b := nI (andN S br)) (and_notG _ _) ?_
    refine ep_if0P t125_39 (ic0_ne (by omega)) (fun (c39 : ¬ (andN S br) = 0) => ?_) (fun (c39 : ¬ (¬ (andN S br) = 0)) => ?_)
    · refine ep_inc (b := nI (S + 1)) (L' := [some (.ref 0), some (.int (nI br)), some (.int (nI x)), some (.int (nI (liveM T c &&& T 2))), some (.int (nI (sumTo (wgt T c br (liveM T c &&& T 2) x) S))), some (.int (nI (S + 1)))]) t125_96 rfl (nI_add S 1) rfl (Nat.le_of_ble_eq_true rfl) ?_
      refine ep_gt t125_99 ?_
      rw [wgt_no (T := T) (c := c) (br := br) (ms := liveM T c &&& T 2) (x := x) (S := S) (fun h => by first | exact c39 h.1 | exact c62 h.2)]
      exact L_ws_16 hN hw h22 hc e4 hbr hx d (S + 1) (by omega)
    · refine ep_aln t125_42 rfl ?_
      refine ep_getr (q := 16) t125_43 rfl (Nat.le_of_ble_eq_true rfl) rfl (rfl) ?_
      refine ep_getr (q := 21) t125_46 rfl (Nat.le_of_ble_eq_true rfl) rfl (rfl) ?_
      refine ep_aln t125_49 rfl ?_
      refine ep_get t125_50 rfl (Nat.le_of_ble_eq_true rfl) rfl ?_
      refine ep_val (b := nI c) (e4) ?_
      refine ep_il t125_53 rfl ?_
      refine ep_k1 (w := (-1)) t125_55 rfl ?_
      refine ep_xor t125_56 ?_
      refine ep_and t125_57 ?_
      refine ep_val (b := nI (andN c S)) (and_notG _ _) ?_
      refine ep_aldN t125_58 rfl (Nat.le_of_ble_eq_true rfl) (Nat.ne_of_beq_eq_false rfl) (Nat.le_of_ble_eq_true rfl) (by omega) ?_
      refine ep_val (b := nI (liveM T (andN c S))) ((hN.2.2 _ hcs).1) ?_
      refine ep_iln t125_59 rfl ?_
      refine ep_andN (a := liveM T (andN c S)) (b := liveM T c &&& T 2) t125_60 ?_
      refine ep_iln t125_61 rfl ?_
      refine ep_ifP t125_62 (ic_ne (by omega) (by omega)) (fun (c62 : ¬ ((liveM T (andN c S)) &&& (liveM T c &&& T 2)) = (liveM T c &&& T 2)) => ?_) (fun (c62 : ¬ (¬ ((liveM T (andN c S)) &&& (liveM T c &&& T 2)) = (liveM T c &&& T 2))) => ?_)
      · refine ep_inc (b := nI (S + 1)) (L' := [some (.ref 0), some (.int (nI br)), some (.int (nI x)), some (.int (nI (liveM T c &&& T 2))), some (.int (nI (sumTo (wgt T c br (liveM T c &&& T 2) x) S))), some (.int (nI (S + 1)))]) t125_96 rfl (nI_add S 1) rfl (Nat.le_of_ble_eq_true rfl) ?_
        refine ep_gt t125_99 ?_
        rw [wgt_no (T := T) (c := c) (br := br) (ms := liveM T c &&& T 2) (x := x) (S := S) (fun h => by first | exact c39 h.1 | exact c62 h.2)]
        exact L_ws_16 hN hw h22 hc e4 hbr hx d (S + 1) (by omega)
      · refine ep_il t125_65 rfl ?_
        refine ep_iln t125_67 rfl ?_
        refine ep_il t125_68 rfl ?_
        refine ep_cs t125_70 (Nat.ne_of_beq_eq_false rfl) rfl (Nat.le_of_ble_eq_true rfl) (cl_bitCount (by omega)) ?_
        refine ep_cs t125_73 (Nat.ne_of_beq_eq_false rfl) rfl (Nat.le_of_ble_eq_true rfl) (cl_B_power (by have := pcn_le S 8; have := pcn_le (andN br S) 8; omega)) ?_
        refine ep_k2 (w := nI 10) t125_76 rfl ?_
        refine ep_iln t125_78 rfl ?_
        refine ep_subN (a := 10) (b := x) t125_79 (by omega) ?_
        refine ep_iln t125_80 rfl ?_
        refine ep_il t125_81 rfl ?_
        refine ep_k1 (w := (-1)) t125_83 rfl ?_
        refine ep_xor t125_84 ?_
        refine ep_and t125_85 ?_
        refine ep_val (b := nI (andN br S)) (and_notG _ _) ?_
        refine ep_cs t125_86 (Nat.ne_of_beq_eq_false rfl) rfl (Nat.le_of_ble_eq_true rfl) (cl_bitCount (by omega)) ?_
        refine ep_cs t125_89 (Nat.ne_of_beq_eq_false rfl) rfl (Nat.le_of_ble_eq_true rfl) (cl_B_power (by have := pcn_le S 8; have := pcn_le (andN br S) 8; omega)) ?_
        refine ep_mulN (a := x ^ (pcn 8 S)) (b := (10 - x) ^ (pcn 8 (andN br S))) t125_92 ?_
        refine ep_addN (a := sumTo (wgt T c br (liveM T c &&& T 2) x) S) (b := (x ^ (pcn 8 S)) * ((10 - x) ^ (pcn 8 (andN br S)))) t125_93 ?_
        refine ep_is (L' := [some (.ref 0), some (.int (nI br)), some (.int (nI x)), some (.int (nI (liveM T c &&& T 2))), some (.int (nI ((sumTo (wgt T c br (liveM T c &&& T 2) x) S) + ((x ^ (pcn 8 S)) * ((10 - x) ^ (pcn 8 (andN br S))))))), some (.int (nI S))]) t125_94 rfl (Nat.le_of_ble_eq_true rfl) ?_
        refine ep_inc (b := nI (S + 1)) (L' := [some (.ref 0), some (.int (nI br)), some (.int (nI x)), some (.int (nI (liveM T c &&& T 2))), some (.int (nI ((sumTo (wgt T c br (liveM T c &&& T 2) x) S) + ((x ^ (pcn 8 S)) * ((10 - x) ^ (pcn 8 (andN br S))))))), some (.int (nI (S + 1)))]) t125_96 rfl (nI_add S 1) rfl (Nat.le_of_ble_eq_true rfl) ?_
        refine ep_gt t125_99 ?_
        rw [show (sumTo (wgt T c br (liveM T c &&& T 2) x) S) + ((x ^ (pcn 8 S)) * ((10 - x) ^ (pcn 8 (andN br S)))) = sumTo (wgt T c br (liveM T c &&& T 2) x) (S + 1) from wgt_yes (ms := liveM T c &&& T 2) (Classical.byContradiction c39) (Classical.byContradiction c62)]
        exact L_ws_16 hN hw h22 hc e4 hbr hx d (S + 1) (by omega)
theorem cl_B_ways_16 {X : gX} {σ : gT1} {T : Nat → Nat} {c br x : Nat} (hN : NetC σ 16 T) (hw : WF0 T) (h22 : T 2 < 2147483648) (hc : c < 2 ^ T 3) (e4 : σ 0 4 = nI c) (hbr : br < 2 ^ T 3) (hx : x ≤ 10)  : Cl X 125 [.ref 0, .int (nI br), .int (nI x)] (47, g_rho true, σ) (some (.int (nI (sumTo (wgt T c br (liveM T c &&& T 2) x) (br + 1))))) (47, g_rho true, σ) := by
  refine Cl.of ⟨Nat.le_of_ble_eq_true rfl, rfl⟩ ?_
  show EvP X 125 0 [some (.ref 0), some (.int (nI br)), some (.int (nI x)), none, none, none] [] (47, g_rho true, σ) _
  refine ep_aln t125_0 rfl ?_
  refine ep_getr (q := 16) t125_1 rfl (Nat.le_of_ble_eq_true rfl) rfl (rfl) ?_
  refine ep_getr (q := 21) t125_4 rfl (Nat.le_of_ble_eq_true rfl) rfl (rfl) ?_
  refine ep_aln t125_7 rfl ?_
  refine ep_get t125_8 rfl (Nat.le_of_ble_eq_true rfl) rfl ?_
  refine ep_val (b := nI c) (e4) ?_
  refine ep_aldN t125_11 rfl (Nat.le_of_ble_eq_true rfl) (Nat.ne_of_beq_eq_false rfl) (Nat.le_of_ble_eq_true rfl) (by have := pow_le_256 hw.2.1; omega) ?_
  refine ep_val (b := nI (liveM T c)) ((hN.2.2 c hc).1) ?_
  refine ep_aln t125_12 rfl ?_
  refine ep_getr (q := 16) t125_13 rfl (Nat.le_of_ble_eq_true rfl) rfl (rfl) ?_
  refine ep_get t125_16 rfl (Nat.le_of_ble_eq_true rfl) rfl ?_
  refine ep_val (b := nI (T 2)) (hN.1 2 (by decide)) ?_
  refine ep_andN (a := liveM T c) (b := T 2) t125_19 ?_
  refine ep_isn (L' := [some (.ref 0), some (.int (nI br)), some (.int (nI x)), some (.int (nI ((liveM T c) &&& (T 2)))), none, none]) t125_20 rfl (Nat.le_of_ble_eq_true rfl) ?_
  refine ep_k1 (w := nI 0) t125_21 rfl ?_
  refine ep_is (L' := [some (.ref 0), some (.int (nI br)), some (.int (nI x)), some (.int (nI ((liveM T c) &&& (T 2)))), some (.int (nI 0)), none]) t125_22 rfl (Nat.le_of_ble_eq_true rfl) ?_
  refine ep_k1 (w := nI 0) t125_24 rfl ?_
  refine ep_is (L' := [some (.ref 0), some (.int (nI br)), some (.int (nI x)), some (.int (nI ((liveM T c) &&& (T 2)))), some (.int (nI 0)), some (.int (nI 0))]) t125_25 rfl (Nat.le_of_ble_eq_true rfl) ?_
  exact L_ws_16 hN hw h22 hc e4 hbr hx (br + 1) 0 (by omega)

