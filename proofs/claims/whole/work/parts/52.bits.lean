/-! bitCount of up to 26 bits. -/
theorem by_bit {b r : Nat} (hb : b < 256) (j : Nat) : (b + 256 * r).testBit j = if j < 8 then b.testBit j else r.testBit (j - 8) := by
  have h := Nat.testBit_two_pow_mul_add r (i := 8) (b := b) hb j
  rw [show b + 256 * r = 2 ^ 8 * r + b by omega]
  exact h
theorem by_and {b r m M s : Nat} (hb : b < 256) (hs : s ≤ 8) (hm : m < 2 ^ (8 - s)) : (b + 256 * r) / 2 ^ s &&& (m + 256 * M) = (b / 2 ^ s &&& m) + 256 * (r / 2 ^ s &&& M) := by
  have hm2 : m < 256 := Nat.lt_of_lt_of_le hm (Nat.pow_le_pow_right (n := 2) (by decide) (by omega : 8 - s ≤ 8))
  have h3 : b / 2 ^ s &&& m < 256 := Nat.lt_of_le_of_lt Nat.and_le_right hm2
  apply Nat.eq_of_testBit_eq
  intro j
  rw [by_bit h3, Nat.testBit_and, Nat.testBit_div_two_pow, by_bit hb, by_bit hm2]
  by_cases hj : j < 8
  · rw [if_pos hj, if_pos hj, Nat.testBit_and, Nat.testBit_div_two_pow]
    by_cases h8 : j + s < 8
    · rw [if_pos h8]
    · have : m.testBit j = false := Nat.testBit_lt_two_pow (Nat.lt_of_lt_of_le hm (Nat.pow_le_pow_right (by decide) (by omega)))
      rw [this, Bool.and_false, Bool.and_false]
  · rw [if_neg hj, if_neg hj, if_neg (by omega), Nat.testBit_and, Nat.testBit_div_two_pow, show j + s - 8 = j - 8 + s by omega]
theorem by_and0 {b r m M : Nat} (hb : b < 256) (hm : m < 256) : (b + 256 * r) &&& (m + 256 * M) = (b &&& m) + 256 * (r &&& M) := by
  have h := by_and (b := b) (r := r) (m := m) (M := M) (s := 0) hb (by decide) hm
  rw [Nat.pow_zero, Nat.div_one, Nat.div_one, Nat.div_one] at h
  exact h
def bc1 (a : Nat) : Nat := a - (a / 2 ^ 1 &&& 1431655765)
def bc2 (a : Nat) : Nat := (a &&& 858993459) + (a / 2 ^ 2 &&& 858993459)
def bc3 (a : Nat) : Nat := (a + a / 2 ^ 4) &&& 252645135
def bc4 (a : Nat) : Nat := a + a / 2 ^ 8
def bc5 (a : Nat) : Nat := a + a / 2 ^ 16
def gb1 (a : Nat) : Nat := a - (a / 2 ^ 1 &&& 85)
def gb2 (a : Nat) : Nat := (a &&& 51) + (a / 2 ^ 2 &&& 51)
theorem gb_ok : ∀ b, b < 256 → (gb1 b < 256 ∧ (b / 2 ^ 1 &&& 85) ≤ b) ∧ (gb2 (gb1 b) ≤ 68 ∧ gb2 (gb1 b) % 16 ≤ 4) ∧ (gb2 (gb1 b) + gb2 (gb1 b) / 16) % 16 = pcn 8 b := by decide +kernel
theorem bc1_by {b0 b1 b2 b3 : Nat} (h0 : b0 < 256) (h1 : b1 < 256) (h2 : b2 < 256) (h3 : b3 < 256) : bc1 (b0 + 256 * (b1 + 256 * (b2 + 256 * b3))) = gb1 b0 + 256 * (gb1 b1 + 256 * (gb1 b2 + 256 * gb1 b3)) := by
  unfold bc1 gb1
  have e : (1431655765 : Nat) = 85 + 256 * (85 + 256 * (85 + 256 * 85)) := rfl
  rw [e, by_and (s := 1) (m := 85) h0 (by decide) (by decide), by_and (s := 1) (m := 85) h1 (by decide) (by decide), by_and (s := 1) (m := 85) h2 (by decide) (by decide)]
  have q0 := (gb_ok b0 h0).1.2
  have q1 := (gb_ok b1 h1).1.2
  have q2 := (gb_ok b2 h2).1.2
  have q3 := (gb_ok b3 h3).1.2
  generalize b0 / 2 ^ 1 &&& 85 = x0 at *
  generalize b1 / 2 ^ 1 &&& 85 = x1 at *
  generalize b2 / 2 ^ 1 &&& 85 = x2 at *
  generalize b3 / 2 ^ 1 &&& 85 = x3 at *
  omega
theorem bc2_by {b0 b1 b2 b3 : Nat} (h0 : b0 < 256) (h1 : b1 < 256) (h2 : b2 < 256) : bc2 (b0 + 256 * (b1 + 256 * (b2 + 256 * b3))) = gb2 b0 + 256 * (gb2 b1 + 256 * (gb2 b2 + 256 * gb2 b3)) := by
  unfold bc2 gb2
  have e : (858993459 : Nat) = 51 + 256 * (51 + 256 * (51 + 256 * 51)) := rfl
  rw [e, by_and (s := 2) (m := 51) h0 (by decide) (by decide), by_and (s := 2) (m := 51) h1 (by decide) (by decide), by_and (s := 2) (m := 51) h2 (by decide) (by decide), by_and0 (m := 51) h0 (by decide), by_and0 (m := 51) h1 (by decide), by_and0 (m := 51) h2 (by decide)]
  omega
theorem bc3_by {b0 b1 b2 b3 : Nat} (h0 : b0 ≤ 68) (h1 : b1 ≤ 68 ∧ b1 % 16 ≤ 4) (h2 : b2 ≤ 68 ∧ b2 % 16 ≤ 4) (h3 : b3 ≤ 68 ∧ b3 % 16 ≤ 4) : bc3 (b0 + 256 * (b1 + 256 * (b2 + 256 * b3))) = (b0 + b0 / 16) % 16 + 256 * ((b1 + b1 / 16) % 16 + 256 * ((b2 + b2 / 16) % 16 + 256 * ((b3 + b3 / 16) % 16))) := by
  unfold bc3
  have e : (252645135 : Nat) = 15 + 256 * (15 + 256 * (15 + 256 * 15)) := rfl
  have e2 : b0 + 256 * (b1 + 256 * (b2 + 256 * b3)) + (b0 + 256 * (b1 + 256 * (b2 + 256 * b3))) / 2 ^ 4 = (b0 + b0 / 16 + 16 * (b1 % 16)) + 256 * ((b1 + b1 / 16 + 16 * (b2 % 16)) + 256 * ((b2 + b2 / 16 + 16 * (b3 % 16)) + 256 * (b3 + b3 / 16))) := by
    omega
  have k0 : b0 + b0 / 16 + 16 * (b1 % 16) < 256 := by omega
  have k1 : b1 + b1 / 16 + 16 * (b2 % 16) < 256 := by omega
  have k2 : b2 + b2 / 16 + 16 * (b3 % 16) < 256 := by omega
  rw [e2, e, by_and0 (m := 15) k0 (by decide), by_and0 (m := 15) k1 (by decide), by_and0 (m := 15) k2 (by decide), and15, and15, and15, and15]
  omega
theorem pcn_congr {a b : Nat} : ∀ n, (∀ j, j < n → a.testBit j = b.testBit j) → pcn n a = pcn n b
  | 0, _ => rfl
  | n + 1, h => by
    show pcn n a + _ = pcn n b + _
    rw [pcn_congr n (fun j hj => h j (by omega)), h n (by omega)]
theorem pcn_by {b r : Nat} (hb : b < 256) : ∀ n, pcn (8 + n) (b + 256 * r) = pcn 8 b + pcn n r
  | 0 => by
    show pcn 8 (b + 256 * r) = pcn 8 b + 0
    rw [Nat.add_zero]
    exact pcn_congr 8 (fun j hj => by rw [by_bit hb, if_pos hj])
  | n + 1 => by
    show pcn (8 + n) (b + 256 * r) + ((b + 256 * r).testBit (8 + n)).toNat = pcn 8 b + (pcn n r + (r.testBit n).toNat)
    rw [pcn_by hb n, by_bit hb, if_neg (by omega), Nat.add_sub_cancel_left, Nat.add_assoc]
theorem pcn_add {a x : Nat} (h : a.testBit x = false) : ∀ n, pcn n (a ||| 2 ^ x) = pcn n a + if x < n then 1 else 0
  | 0 => rfl
  | n + 1 => by
    show pcn n (a ||| 2 ^ x) + ((a ||| 2 ^ x).testBit n).toNat = pcn n a + (a.testBit n).toNat + _
    rw [pcn_add h n, Nat.testBit_or, Nat.testBit_two_pow]
    by_cases e : x = n
    · subst e
      rw [h, if_neg (Nat.lt_irrefl x), if_pos (Nat.lt_succ_self x), decide_eq_true rfl]
      rfl
    · rw [decide_eq_false e, Bool.or_false]
      by_cases q : x < n
      · rw [if_pos q, if_pos (by omega)]; omega
      · rw [if_neg q, if_neg (by omega)]; omega
theorem bc_fin {x0 x1 x2 x3 : Nat} (z0 : x0 ≤ 8) (z1 : x1 ≤ 8) (z2 : x2 ≤ 8) (z3 : x3 ≤ 8) : bc5 (bc4 (x0 + 256 * (x1 + 256 * (x2 + 256 * x3)))) % 64 = x0 + (x1 + (x2 + x3)) := by
  unfold bc5 bc4
  have f1 : (x0 + 256 * (x1 + 256 * (x2 + 256 * x3))) / 2 ^ 8 = x1 + 256 * (x2 + 256 * x3) := by omega
  rw [f1]
  have f2 : (x0 + 256 * (x1 + 256 * (x2 + 256 * x3)) + (x1 + 256 * (x2 + 256 * x3))) / 2 ^ 16 = x2 + x3 + 256 * x3 := by omega
  rw [f2]
  omega
theorem bc_all {a : Nat} (ha : a < 67108864) : bc5 (bc4 (bc3 (bc2 (bc1 a)))) &&& 63 = pcn 26 a := by
  obtain ⟨b0, r0, h0, hr0, rfl⟩ : ∃ b r, b < 256 ∧ r < 262144 ∧ a = b + 256 * r := ⟨a % 256, a / 256, by omega, by omega, by omega⟩
  obtain ⟨b1, r1, h1, hr1, rfl⟩ : ∃ b r, b < 256 ∧ r < 1024 ∧ r0 = b + 256 * r := ⟨r0 % 256, r0 / 256, by omega, by omega, by omega⟩
  obtain ⟨b2, b3, h2, hr2, rfl⟩ : ∃ b r, b < 256 ∧ r < 4 ∧ r1 = b + 256 * r := ⟨r1 % 256, r1 / 256, by omega, by omega, by omega⟩
  obtain ⟨⟨p0, -⟩, q0, w0⟩ := gb_ok b0 h0
  obtain ⟨⟨p1, -⟩, q1, w1⟩ := gb_ok b1 h1
  obtain ⟨⟨p2, -⟩, q2, w2⟩ := gb_ok b2 h2
  obtain ⟨⟨p3, -⟩, q3, w3⟩ := gb_ok b3 (by omega)
  rw [bc1_by h0 h1 h2 (by omega), bc2_by p0 p1 p2, bc3_by q0.1 q1 q2 q3, w0, w1, w2, w3]
  have z0 := pcn_le b0 8
  have z1 := pcn_le b1 8
  have z2 := pcn_le b2 8
  have z3 := pcn_le b3 8
  have e1 : pcn 26 (b0 + 256 * (b1 + 256 * (b2 + 256 * b3))) = pcn 8 b0 + pcn 18 (b1 + 256 * (b2 + 256 * b3)) := pcn_by h0 18
  have e2 : pcn 18 (b1 + 256 * (b2 + 256 * b3)) = pcn 8 b1 + pcn 10 (b2 + 256 * b3) := pcn_by h1 10
  have e3 : pcn 10 (b2 + 256 * b3) = pcn 8 b2 + pcn 2 b3 := pcn_by h2 2
  have e4 : pcn 8 b3 = pcn 2 b3 := pcn_top (m := 2) (by omega) 8 (by decide)
  rw [e1, e2, e3, ← e4]
  generalize pcn 8 b0 = x0 at *
  generalize pcn 8 b1 = x1 at *
  generalize pcn 8 b2 = x2 at *
  generalize pcn 8 b3 = x3 at *
  have e5 : ∀ y : Nat, y &&& 63 = y % 64 := fun y => Nat.and_two_pow_sub_one_eq_mod y 6
  rw [e5]
  exact bc_fin z0 z1 z2 z3
theorem cl_bitCount26 {X : gX} {g : gS} {a : Nat} (h : a < 67108864) : Cl X 26 [.int (nI a)] g (some (.int (nI (pcn 26 a)))) g := by
  have k1 : bc1 a ≤ a := Nat.sub_le _ _
  have k2 : bc2 (bc1 a) ≤ 858993459 + 858993459 := Nat.add_le_add Nat.and_le_right Nat.and_le_right
  have k3 : bc3 (bc2 (bc1 a)) ≤ 252645135 := Nat.and_le_right
  have k4 : bc4 (bc3 (bc2 (bc1 a))) ≤ bc3 (bc2 (bc1 a)) + bc3 (bc2 (bc1 a)) := Nat.add_le_add (Nat.le_refl _) (Nat.div_le_self _ _)
  refine Cl.of ⟨Nat.le_of_ble_eq_true rfl, rfl⟩ ?_
  show EvP X 26 0 [some (.int (nI a))] [] g _
  refine ep_iln t26_0 rfl ?_
  refine ep_iln t26_1 rfl ?_
  refine ep_k1 (w := nI 1) t26_2 rfl ?_
  refine ep_ushr t26_3 ?_
  refine ep_val (b := nI (a / 2 ^ 1)) (pk_ushrN (by omega) _ 1 (by decide)) ?_
  refine ep_k5 (w := nI 1431655765) t26_4 rfl ?_
  refine ep_andN (a := a / 2 ^ 1) (b := 1431655765) t26_7 ?_
  refine ep_subN (a := a) (b := (a / 2 ^ 1) &&& 1431655765) t26_8 (Nat.le_trans Nat.and_le_left (Nat.div_le_self _ _)) ?_
  refine ep_val (b := nI (bc1 a)) (rfl) ?_
  refine ep_isn (L' := [some (.int (nI (bc1 a)))]) t26_9 rfl (Nat.le_of_ble_eq_true rfl) ?_
  refine ep_iln t26_10 rfl ?_
  refine ep_k5 (w := nI 858993459) t26_11 rfl ?_
  refine ep_andN (a := bc1 a) (b := 858993459) t26_14 ?_
  refine ep_iln t26_15 rfl ?_
  refine ep_k1 (w := nI 2) t26_16 rfl ?_
  refine ep_ushr t26_17 ?_
  refine ep_val (b := nI ((bc1 a) / 2 ^ 2)) (pk_ushrN (by omega) _ 2 (by decide)) ?_
  refine ep_k5 (w := nI 858993459) t26_18 rfl ?_
  refine ep_andN (a := (bc1 a) / 2 ^ 2) (b := 858993459) t26_21 ?_
  refine ep_addN (a := (bc1 a) &&& 858993459) (b := ((bc1 a) / 2 ^ 2) &&& 858993459) t26_22 ?_
  refine ep_val (b := nI (bc2 (bc1 a))) (rfl) ?_
  refine ep_isn (L' := [some (.int (nI (bc2 (bc1 a))))]) t26_23 rfl (Nat.le_of_ble_eq_true rfl) ?_
  refine ep_iln t26_24 rfl ?_
  refine ep_iln t26_25 rfl ?_
  refine ep_k1 (w := nI 4) t26_26 rfl ?_
  refine ep_ushr t26_27 ?_
  refine ep_val (b := nI ((bc2 (bc1 a)) / 2 ^ 4)) (pk_ushrN (by omega) _ 4 (by decide)) ?_
  refine ep_addN (a := bc2 (bc1 a)) (b := (bc2 (bc1 a)) / 2 ^ 4) t26_28 ?_
  refine ep_k5 (w := nI 252645135) t26_29 rfl ?_
  refine ep_andN (a := (bc2 (bc1 a)) + ((bc2 (bc1 a)) / 2 ^ 4)) (b := 252645135) t26_32 ?_
  refine ep_val (b := nI (bc3 (bc2 (bc1 a)))) (rfl) ?_
  refine ep_isn (L' := [some (.int (nI (bc3 (bc2 (bc1 a)))))]) t26_33 rfl (Nat.le_of_ble_eq_true rfl) ?_
  refine ep_iln t26_34 rfl ?_
  refine ep_iln t26_35 rfl ?_
  refine ep_k2 (w := nI 8) t26_36 rfl ?_
  refine ep_ushr t26_38 ?_
  refine ep_val (b := nI ((bc3 (bc2 (bc1 a))) / 2 ^ 8)) (pk_ushrN (by omega) _ 8 (by decide)) ?_
  refine ep_addN (a := bc3 (bc2 (bc1 a))) (b := (bc3 (bc2 (bc1 a))) / 2 ^ 8) t26_39 ?_
  refine ep_val (b := nI (bc4 (bc3 (bc2 (bc1 a))))) (rfl) ?_
  refine ep_isn (L' := [some (.int (nI (bc4 (bc3 (bc2 (bc1 a))))))]) t26_40 rfl (Nat.le_of_ble_eq_true rfl) ?_
  refine ep_iln t26_41 rfl ?_
  refine ep_iln t26_42 rfl ?_
  refine ep_k2 (w := nI 16) t26_43 rfl ?_
  refine ep_ushr t26_45 ?_
  refine ep_val (b := nI ((bc4 (bc3 (bc2 (bc1 a)))) / 2 ^ 16)) (pk_ushrN (by omega) _ 16 (by decide)) ?_
  refine ep_addN (a := bc4 (bc3 (bc2 (bc1 a)))) (b := (bc4 (bc3 (bc2 (bc1 a)))) / 2 ^ 16) t26_46 ?_
  refine ep_val (b := nI (bc5 (bc4 (bc3 (bc2 (bc1 a)))))) (rfl) ?_
  refine ep_isn (L' := [some (.int (nI (bc5 (bc4 (bc3 (bc2 (bc1 a)))))))]) t26_47 rfl (Nat.le_of_ble_eq_true rfl) ?_
  refine ep_iln t26_48 rfl ?_
  refine ep_k2 (w := nI 63) t26_49 rfl ?_
  refine ep_andN (a := bc5 (bc4 (bc3 (bc2 (bc1 a))))) (b := 63) t26_51 ?_
  refine ep_val (b := nI (pcn 26 a)) (congrArg nI (bc_all h)) ?_
  refine ep_ri t26_52 (fun h => absurd h (by decide)) ?_
  exact ⟨rfl, rfl⟩

