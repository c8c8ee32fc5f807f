/-! Rules for walks of the small machine. Numbers are nI of naturals wherever they can be. -/
section RU
variable {X : gX} {m pc : Nat} {L : gLo} {st : List Value} {g : gS} {rr : gR}
theorem ev_val {a b : Int32} (e : a = b) (k : Ev X m pc L (.int b :: st) g rr) : Ev X m pc L (.int a :: st) g rr := e ▸ k
theorem ev_lv {L' : gLo} (e : L = L') (k : Ev X m pc L' st g rr) : Ev X m pc L st g rr := e ▸ k
theorem ev_get {n : Nat} {ρ : Nat → Nat → Option Nat} {σ : Nat → Nat → Int32} {i p c f : Nat} {z : Int32} (ht : g_at m pc = some (.getfield i, c, f, z)) (hs : g_shp p = .inr c) (hp : p < n) (hR : g_isR c f = false) (k : Ev X m (pc + 3) L (.int (σ p f) :: st) (n, ρ, σ) rr) : Ev X m pc L (.ref p :: st) (n, ρ, σ) rr := by
  refine ev_i ht ?_
  show g_obj (n, ρ, σ) p c _
  unfold g_obj
  rw [hs]
  refine ⟨rfl, hp, ?_⟩
  unfold g_av
  rw [hR]
  exact k
theorem ev_getr {n : Nat} {ρ : Nat → Nat → Option Nat} {σ : Nat → Nat → Int32} {i p c f q : Nat} {z : Int32} (ht : g_at m pc = some (.getfield i, c, f, z)) (hs : g_shp p = .inr c) (hp : p < n) (hR : g_isR c f = true) (hq : ρ p f = some q) (k : Ev X m (pc + 3) L (.ref q :: st) (n, ρ, σ) rr) : Ev X m pc L (.ref p :: st) (n, ρ, σ) rr := by
  refine ev_i ht ?_
  show g_obj (n, ρ, σ) p c _
  unfold g_obj
  rw [hs]
  refine ⟨rfl, hp, ?_⟩
  unfold g_av
  rw [hR]
  show Ev X m (pc + 3) L (va_rf (ρ p f) :: st) (n, ρ, σ) rr
  rw [hq]
  exact k
theorem ev_put {n : Nat} {ρ : Nat → Nat → Option Nat} {σ : Nat → Nat → Int32} {i p c f : Nat} {z v : Int32} (ht : g_at m pc = some (.putfield i, c, f, z)) (hs : g_shp p = .inr c) (hp : p < n) (hR : g_isR c f = false) (k : Ev X m (pc + 3) L st (n, ρ, g_up σ p f v) rr) : Ev X m pc L (.int v :: .ref p :: st) (n, ρ, σ) rr := by
  refine ev_i ht ?_
  show g_obj (n, ρ, σ) p c _
  unfold g_obj
  rw [hs]
  exact ⟨rfl, hp, hR, k⟩
theorem ev_putr {n : Nat} {ρ : Nat → Nat → Option Nat} {σ : Nat → Nat → Int32} {i p c f q : Nat} {z : Int32} (ht : g_at m pc = some (.putfield i, c, f, z)) (hs : g_shp p = .inr c) (hp : p < n) (hR : g_isR c f = true) (hq : q < 1000) (k : Ev X m (pc + 3) L st (n, g_ur ρ p f (some q), σ) rr) : Ev X m pc L (.ref q :: .ref p :: st) (n, ρ, σ) rr := by
  refine ev_i ht ?_
  show g_obj (n, ρ, σ) p c _
  unfold g_obj
  rw [hs]
  exact ⟨rfl, hp, hR, hq, k⟩
theorem ev_ald {n len : Nat} {ρ : Nat → Nat → Option Nat} {σ : Nat → Nat → Int32} {p a b : Nat} {z j : Int32} (ht : g_at m pc = some (.iaload, a, b, z)) (hs : g_shp p = .inl (false, len)) (hp : p < n) (h0 : p ≠ 1000) (hj : vp_in j len) (k : Ev X m (pc + 1) L (.int (σ p j.toNatClampNeg) :: st) (n, ρ, σ) rr) : Ev X m pc L (.int j :: .ref p :: st) (n, ρ, σ) rr := by
  refine ev_i ht ?_
  show g_ald X false (n, ρ, σ) p j (fun v => Ev X m (pc + 1) L (.int v :: st) (n, ρ, σ) rr)
  unfold g_ald
  rw [if_neg h0, hs]
  exact ⟨rfl, hp, hj, k⟩
theorem ev_bld {n len : Nat} {ρ : Nat → Nat → Option Nat} {σ : Nat → Nat → Int32} {p a b : Nat} {z j : Int32} (ht : g_at m pc = some (.baload, a, b, z)) (hs : g_shp p = .inl (true, len)) (hp : p < n) (h0 : p ≠ 1000) (hj : vp_in j len) (k : Ev X m (pc + 1) L (.int (σ p j.toNatClampNeg) :: st) (n, ρ, σ) rr) : Ev X m pc L (.int j :: .ref p :: st) (n, ρ, σ) rr := by
  refine ev_i ht ?_
  show g_ald X true (n, ρ, σ) p j (fun v => Ev X m (pc + 1) L (.int v :: st) (n, ρ, σ) rr)
  unfold g_ald
  rw [if_neg h0, hs]
  exact ⟨rfl, hp, hj, k⟩
theorem ev_xld {a b : Nat} {z j : Int32} (ht : g_at m pc = some (.iaload, a, b, z)) (hj : vp_in j X.1) (k : Ev X m (pc + 1) L (.int (X.2 j.toNatClampNeg) :: st) g rr) : Ev X m pc L (.int j :: .ref 1000 :: st) g rr := by
  refine ev_i ht ?_
  show g_ald X false g 1000 j (fun v => Ev X m (pc + 1) L (.int v :: st) g rr)
  unfold g_ald
  rw [if_pos rfl]
  exact ⟨rfl, hj, k⟩
theorem ev_xlen {a b : Nat} {z : Int32} (ht : g_at m pc = some (.arraylength, a, b, z)) (k : Ev X m (pc + 1) L (.int (nI X.1) :: st) g rr) : Ev X m pc L (.ref 1000 :: st) g rr := ev_i ht k
theorem ev_alen {n len : Nat} {w : Bool} {ρ : Nat → Nat → Option Nat} {σ : Nat → Nat → Int32} {p a b : Nat} {z : Int32} (ht : g_at m pc = some (.arraylength, a, b, z)) (hs : g_shp p = .inl (w, len)) (hp : p < n) (h0 : p ≠ 1000) (k : Ev X m (pc + 1) L (.int (nI len) :: st) (n, ρ, σ) rr) : Ev X m pc L (.ref p :: st) (n, ρ, σ) rr := by
  refine ev_i ht ?_
  show (if p = 1000 then Ev X m (pc + 1) L (.int (Int32.ofNat X.1) :: st) (n, ρ, σ) rr else
      match g_shp p with
      | .inl q => p < n ∧ Ev X m (pc + 1) L (.int (Int32.ofNat q.2) :: st) (n, ρ, σ) rr
      | .inr _ => False)
  rw [if_neg h0, hs]
  exact ⟨hp, k⟩
theorem ev_ast {n len : Nat} {ρ : Nat → Nat → Option Nat} {σ : Nat → Nat → Int32} {p a b : Nat} {z j v : Int32} (ht : g_at m pc = some (.iastore, a, b, z)) (hs : g_shp p = .inl (false, len)) (hp : p < n) (hj : vp_in j len) (k : Ev X m (pc + 1) L st (n, ρ, g_up σ p j.toNatClampNeg v) rr) : Ev X m pc L (.int v :: .int j :: .ref p :: st) (n, ρ, σ) rr := by
  refine ev_i ht ?_
  show g_ast false (n, ρ, σ) p j v (fun g1 => Ev X m (pc + 1) L st g1 rr)
  unfold g_ast
  rw [hs]
  exact ⟨rfl, hp, hj, k⟩
theorem ev_bst {n len : Nat} {ρ : Nat → Nat → Option Nat} {σ : Nat → Nat → Int32} {p a b : Nat} {z j v : Int32} (ht : g_at m pc = some (.bastore, a, b, z)) (hs : g_shp p = .inl (true, len)) (hp : p < n) (hj : vp_in j len) (k : Ev X m (pc + 1) L st (n, ρ, g_up σ p j.toNatClampNeg (v &&& 1)) rr) : Ev X m pc L (.int v :: .int j :: .ref p :: st) (n, ρ, σ) rr := by
  refine ev_i ht ?_
  show g_ast true (n, ρ, σ) p j (v &&& 1) (fun g1 => Ev X m (pc + 1) L st g1 rr)
  unfold g_ast
  rw [hs]
  exact ⟨rfl, hp, hj, k⟩
/-- indices that are naturals -/
theorem vp_inN {j len : Nat} (h : j < len) (hl : len ≤ 65536) : vp_in (nI j) len := vp_in_nI h (by omega)
theorem nI_cl {j : Nat} (h : j < 2147483648) : (nI j).toNatClampNeg = j := nI_clamp h
theorem ev_aldN {n len : Nat} {ρ : Nat → Nat → Option Nat} {σ : Nat → Nat → Int32} {p a b j : Nat} {z : Int32} (ht : g_at m pc = some (.iaload, a, b, z)) (hs : g_shp p = .inl (false, len)) (hp : p < n) (h0 : p ≠ 1000) (hl : len ≤ 65536) (hj : j < len) (k : Ev X m (pc + 1) L (.int (σ p j) :: st) (n, ρ, σ) rr) : Ev X m pc L (.int (nI j) :: .ref p :: st) (n, ρ, σ) rr :=
  ev_ald ht hs hp h0 (vp_inN hj hl) (by rw [nI_cl (by omega)]; exact k)
theorem ev_bldN {n len : Nat} {ρ : Nat → Nat → Option Nat} {σ : Nat → Nat → Int32} {p a b j : Nat} {z : Int32} (ht : g_at m pc = some (.baload, a, b, z)) (hs : g_shp p = .inl (true, len)) (hp : p < n) (h0 : p ≠ 1000) (hl : len ≤ 65536) (hj : j < len) (k : Ev X m (pc + 1) L (.int (σ p j) :: st) (n, ρ, σ) rr) : Ev X m pc L (.int (nI j) :: .ref p :: st) (n, ρ, σ) rr :=
  ev_bld ht hs hp h0 (vp_inN hj hl) (by rw [nI_cl (by omega)]; exact k)
theorem ev_astN {n len : Nat} {ρ : Nat → Nat → Option Nat} {σ : Nat → Nat → Int32} {p a b j : Nat} {z v : Int32} (ht : g_at m pc = some (.iastore, a, b, z)) (hs : g_shp p = .inl (false, len)) (hp : p < n) (hl : len ≤ 65536) (hj : j < len) (k : Ev X m (pc + 1) L st (n, ρ, g_up σ p j v) rr) : Ev X m pc L (.int v :: .int (nI j) :: .ref p :: st) (n, ρ, σ) rr :=
  ev_ast ht hs hp (vp_inN hj hl) (by rw [nI_cl (by omega)]; exact k)
theorem ev_bstN {n len : Nat} {ρ : Nat → Nat → Option Nat} {σ : Nat → Nat → Int32} {p a b j : Nat} {z v : Int32} (ht : g_at m pc = some (.bastore, a, b, z)) (hs : g_shp p = .inl (true, len)) (hp : p < n) (hl : len ≤ 65536) (hj : j < len) (k : Ev X m (pc + 1) L st (n, ρ, g_up σ p j (v &&& 1)) rr) : Ev X m pc L (.int v :: .int (nI j) :: .ref p :: st) (n, ρ, σ) rr :=
  ev_bst ht hs hp (vp_inN hj hl) (by rw [nI_cl (by omega)]; exact k)
theorem ev_xldN {a b j : Nat} {z : Int32} (ht : g_at m pc = some (.iaload, a, b, z)) (hX : X.1 ≤ 2048) (hj : j < X.1) (k : Ev X m (pc + 1) L (.int (X.2 j) :: st) g rr) : Ev X m pc L (.int (nI j) :: .ref 1000 :: st) g rr :=
  ev_xld ht (vp_in_nI hj (by omega)) (by rw [nI_cl (by omega)]; exact k)
/-- arithmetic of naturals -/
theorem ev_addN {a b x y : Nat} {z : Int32} (ht : g_at m pc = some (.iadd, x, y, z)) (k : Ev X m (pc + 1) L (.int (nI (a + b)) :: st) g rr) : Ev X m pc L (.int (nI b) :: .int (nI a) :: st) g rr := ev_i ht (by show Ev X m (pc + 1) L (.int (nI a + nI b) :: st) g rr; rw [nI_add]; exact k)
theorem ev_mulN {a b x y : Nat} {z : Int32} (ht : g_at m pc = some (.imul, x, y, z)) (k : Ev X m (pc + 1) L (.int (nI (a * b)) :: st) g rr) : Ev X m pc L (.int (nI b) :: .int (nI a) :: st) g rr := ev_i ht (by show Ev X m (pc + 1) L (.int (nI a * nI b) :: st) g rr; rw [pk_mul]; exact k)
theorem ev_subN {a b x y : Nat} {z : Int32} (ht : g_at m pc = some (.isub, x, y, z)) (h : b ≤ a) (k : Ev X m (pc + 1) L (.int (nI (a - b)) :: st) g rr) : Ev X m pc L (.int (nI b) :: .int (nI a) :: st) g rr := ev_i ht (by show Ev X m (pc + 1) L (.int (nI a - nI b) :: st) g rr; rw [pk_sub h]; exact k)
theorem nx_and' (a b : Nat) : nI a &&& nI b = nI (a &&& b) := by
  apply Int32.toBitVec_inj.mp
  rw [Int32.toBitVec_and]
  show BitVec.ofNat 32 a &&& BitVec.ofNat 32 b = BitVec.ofNat 32 (a &&& b)
  exact (BitVec.ofNat_and).symm
theorem nx_or' (a b : Nat) : nI a ||| nI b = nI (a ||| b) := by
  apply Int32.toBitVec_inj.mp
  rw [Int32.toBitVec_or]
  show BitVec.ofNat 32 a ||| BitVec.ofNat 32 b = BitVec.ofNat 32 (a ||| b)
  exact (BitVec.ofNat_or).symm
theorem nx_xor' (a b : Nat) : nI a ^^^ nI b = nI (a ^^^ b) := by
  apply Int32.toBitVec_inj.mp
  rw [Int32.toBitVec_xor]
  show BitVec.ofNat 32 a ^^^ BitVec.ofNat 32 b = BitVec.ofNat 32 (a ^^^ b)
  exact (BitVec.ofNat_xor).symm
theorem s_l' : ∀ n, n < 32 → ((nI n &&& 31).toBitVec.smod 32).toNat = n := by decide +kernel
theorem nx_shl {a k : Nat} (hk : k < 32) (h : a * 2 ^ k < 2 ^ 32) : nI a <<< (nI k &&& 31) = nI (a * 2 ^ k) := pk_shlN _ k (s_l' k hk) h
theorem nx_shr {a k : Nat} (hk : k < 32) (h : a < 2147483648) : nI a >>> (nI k &&& 31) = nI (a / 2 ^ k) := pk_shrN h _ k (s_l' k hk)
theorem nx_one {k : Nat} (hk : k < 32) : (1 : Int32) <<< (nI k &&& 31) = nI (2 ^ k) := by
  have h : (2 : Nat) ^ k < 2 ^ 32 := Nat.pow_lt_pow_right (by decide) hk
  have := nx_shl (a := 1) hk (by omega)
  rw [Nat.one_mul] at this
  exact this
theorem nx_bit' {a k : Nat} (hk : k < 32) (h : a < 2147483648) : (nI a >>> (nI k &&& 31)) &&& 1 = nI (a / 2 ^ k % 2) := by
  rw [nx_shr hk h]
  have e : (1 : Int32) = nI 1 := rfl
  rw [e, nx_and', Nat.and_one_is_mod]
theorem ev_andN {a b x y : Nat} {z : Int32} (ht : g_at m pc = some (.iand, x, y, z)) (k : Ev X m (pc + 1) L (.int (nI (a &&& b)) :: st) g rr) : Ev X m pc L (.int (nI b) :: .int (nI a) :: st) g rr := ev_i ht (by show Ev X m (pc + 1) L (.int (nI a &&& nI b) :: st) g rr; rw [nx_and']; exact k)
theorem ev_orN {a b x y : Nat} {z : Int32} (ht : g_at m pc = some (.ior, x, y, z)) (k : Ev X m (pc + 1) L (.int (nI (a ||| b)) :: st) g rr) : Ev X m pc L (.int (nI b) :: .int (nI a) :: st) g rr := ev_i ht (by show Ev X m (pc + 1) L (.int (nI a ||| nI b) :: st) g rr; rw [nx_or']; exact k)
theorem ev_xorN {a b x y : Nat} {z : Int32} (ht : g_at m pc = some (.ixor, x, y, z)) (k : Ev X m (pc + 1) L (.int (nI (a ^^^ b)) :: st) g rr) : Ev X m pc L (.int (nI b) :: .int (nI a) :: st) g rr := ev_i ht (by show Ev X m (pc + 1) L (.int (nI a ^^^ nI b) :: st) g rr; rw [nx_xor']; exact k)
theorem ev_shlN {a b x y : Nat} {z : Int32} (ht : g_at m pc = some (.ishl, x, y, z)) (hb : b < 31) (h : a * 2 ^ b < 4294967296) (k : Ev X m (pc + 1) L (.int (nI (a * 2 ^ b)) :: st) g rr) : Ev X m pc L (.int (nI b) :: .int (nI a) :: st) g rr := ev_i ht (by show Ev X m (pc + 1) L (.int (nI a <<< (nI b &&& 31)) :: st) g rr; rw [nx_shl (by omega) h]; exact k)
theorem ev_oneN {b x y : Nat} {z : Int32} (ht : g_at m pc = some (.ishl, x, y, z)) (hb : b < 31) (k : Ev X m (pc + 1) L (.int (nI (2 ^ b)) :: st) g rr) : Ev X m pc L (.int (nI b) :: .int (nI 1) :: st) g rr := ev_i ht (by show Ev X m (pc + 1) L (.int ((1 : Int32) <<< (nI b &&& 31)) :: st) g rr; rw [nx_one (by omega)]; exact k)
theorem ev_shrN {a b x y : Nat} {z : Int32} (ht : g_at m pc = some (.ishr, x, y, z)) (hb : b < 31) (h : a < 2147483648) (k : Ev X m (pc + 1) L (.int (nI (a / 2 ^ b)) :: st) g rr) : Ev X m pc L (.int (nI b) :: .int (nI a) :: st) g rr := ev_i ht (by show Ev X m (pc + 1) L (.int (nI a >>> (nI b &&& 31)) :: st) g rr; rw [nx_shr (by omega) h]; exact k)
/-- branches over naturals -/
theorem ic_ge {a b : Nat} (ha : a < 2147483648) (hb : b < 2147483648) : g_ic .ge (nI a) (nI b) ↔ b ≤ a := nI_leI hb ha
theorem ic_gt {a b : Nat} (ha : a < 2147483648) (hb : b < 2147483648) : g_ic .gt (nI a) (nI b) ↔ b < a := nI_ltI hb ha
theorem ic_le {a b : Nat} (ha : a < 2147483648) (hb : b < 2147483648) : g_ic .le (nI a) (nI b) ↔ a ≤ b := nI_leI ha hb
theorem ic_lt {a b : Nat} (ha : a < 2147483648) (hb : b < 2147483648) : g_ic .lt (nI a) (nI b) ↔ a < b := nI_ltI ha hb
theorem ic_eq {a b : Nat} (ha : a < 2147483648) (hb : b < 2147483648) : g_ic .eq (nI a) (nI b) ↔ a = b := nI_eq ha hb
theorem ic_ne {a b : Nat} (ha : a < 2147483648) (hb : b < 2147483648) : g_ic .ne (nI a) (nI b) ↔ ¬ a = b := not_congr (nI_eq ha hb)
theorem ev_if {c : ClassFile.Cond} {o : Int} {a b : Int32} {x y : Nat} {z : Int32} (ht : g_at m pc = some (.if_icmp c o, x, y, z)) (kt : g_ic c a b → Ev X m x L st g rr) (kf : ¬ g_ic c a b → Ev X m (pc + 3) L st g rr) : Ev X m pc L (.int b :: .int a :: st) g rr := ev_i ht ⟨kt, kf⟩
theorem ev_if0 {c : ClassFile.Cond} {o : Int} {a : Int32} {x y : Nat} {z : Int32} (ht : g_at m pc = some (.ifCond c o, x, y, z)) (kt : g_ic c a 0 → Ev X m x L st g rr) (kf : ¬ g_ic c a 0 → Ev X m (pc + 3) L st g rr) : Ev X m pc L (.int a :: st) g rr := ev_i ht ⟨kt, kf⟩
theorem ev_ifP {c : ClassFile.Cond} {o : Int} {a b : Int32} {x y : Nat} {z : Int32} {P : Prop} (ht : g_at m pc = some (.if_icmp c o, x, y, z)) (hP : g_ic c a b ↔ P) (kt : P → Ev X m x L st g rr) (kf : ¬ P → Ev X m (pc + 3) L st g rr) : Ev X m pc L (.int b :: .int a :: st) g rr := ev_i ht ⟨fun h => kt (hP.mp h), fun h => kf (fun q => h (hP.mpr q))⟩
theorem ev_if0P {c : ClassFile.Cond} {o : Int} {a : Int32} {x y : Nat} {z : Int32} {P : Prop} (ht : g_at m pc = some (.ifCond c o, x, y, z)) (hP : g_ic c a 0 ↔ P) (kt : P → Ev X m x L st g rr) (kf : ¬ P → Ev X m (pc + 3) L st g rr) : Ev X m pc L (.int a :: st) g rr := ev_i ht ⟨fun h => kt (hP.mp h), fun h => kf (fun q => h (hP.mpr q))⟩
/-- an answer that is a truth -/
def bI (b : Bool) : Int32 := if b then 1 else 0
theorem bI_eq0 {b : Bool} : g_ic .eq (bI b) 0 ↔ b = false := by
  show bI b = 0 ↔ b = false
  cases b <;> decide
theorem bI_ne0 {b : Bool} : g_ic .ne (bI b) 0 ↔ b = true := by
  show ¬ bI b = 0 ↔ b = true
  cases b <;> decide
theorem bI_and (b : Bool) : bI b &&& 1 = bI b := by cases b <;> decide
theorem bI_t {P : Prop} [Decidable P] (h : P) : (1 : Int32) = bI (decide P) := by rw [decide_eq_true h]; rfl
theorem bI_f {P : Prop} [Decidable P] (h : ¬ P) : (0 : Int32) = bI (decide P) := by rw [decide_eq_false h]; rfl
/-- calls -/
theorem ev_cs {i y nb : Nat} {z : Int32} {A r : List Value} {v : Option Value} {g1 : gS} (ht : g_at m pc = some (.invokestatic i, y, nb, z)) (h0 : y ≠ 998) (hp : g_pops nb st [] = some (A, r)) (hc : (r.map fun v => v.category).sum ≤ 8) (h : Cl X y A g v g1) (k : Ev X m (pc + 3) L (g_push v r) g1 rr) : Ev X m pc L st g rr := by
  refine ev_i ht ?_
  show (if y = 998 then _ else _)
  rw [if_neg h0]
  show (match g_pops nb st [] with
    | some (A, r) => g_call (Ev X) m pc y A L r g rr
    | none => False)
  rw [hp]
  exact ⟨hc, h.1, v, g1, h.2, k⟩
theorem ev_cv {i y nb q : Nat} {z : Int32} {A r : List Value} {v : Option Value} {g1 : gS} (ht : g_at m pc = some (.invokevirtual i, y, nb, z)) (hp : g_pops (nb + 1) st [] = some (.ref q :: A, r)) (hs : g_shp q = .inr (g_meth y).1) (hq : q < g.1) (hc : (r.map fun v => v.category).sum ≤ 8) (h : Cl X y (.ref q :: A) g v g1) (k : Ev X m (pc + 3) L (g_push v r) g1 rr) : Ev X m pc L st g rr := by
  refine ev_i ht ?_
  show (match g_pops (nb + 1) st [] with
    | some (.ref p :: A, r) => g_obj g p (g_meth y).1 (g_call (Ev X) m pc y (.ref p :: A) L r g rr)
    | _ => False)
  rw [hp]
  show g_obj g q (g_meth y).1 _
  unfold g_obj
  rw [hs]
  exact ⟨rfl, hq, hc, h.1, v, g1, h.2, k⟩
theorem ev_ci {i y nb q : Nat} {z : Int32} {A r : List Value} {v : Option Value} {g1 : gS} (ht : g_at m pc = some (.invokespecial i, y, nb, z)) (h0 : y ≠ 999) (hp : g_pops (nb + 1) st [] = some (.ref q :: A, r)) (hc : (r.map fun v => v.category).sum ≤ 8) (h : Cl X y (.ref q :: A) g v g1) (k : Ev X m (pc + 3) L (g_push v r) g1 rr) : Ev X m pc L st g rr := by
  refine ev_i ht ?_
  show (if y = 999 then _ else _)
  rw [if_neg h0]
  show (match g_pops (nb + 1) st [] with
    | some (.ref p :: A, r) => g_call (Ev X) m pc y (.ref p :: A) L r g rr
    | _ => False)
  rw [hp]
  exact ⟨hc, h.1, v, g1, h.2, k⟩
theorem ev_max {i nb a b : Nat} {z : Int32} (ht : g_at m pc = some (.invokestatic i, 998, nb, z)) (ha : a < 2147483648) (hb : b < 2147483648) (hc : (st.map fun v => v.category).sum ≤ 8) (k : Ev X m (pc + 3) L (.int (nI (max a b)) :: st) g rr) : Ev X m pc L (.int (nI b) :: .int (nI a) :: st) g rr := by
  refine ev_i ht ?_
  show (st.map fun v => v.category).sum ≤ 8 ∧ Ev X m (pc + 3) L (.int (if nI a < nI b then nI b else nI a) :: st) g rr
  refine ⟨hc, ?_⟩
  have e : (if nI a < nI b then nI b else nI a) = nI (max a b) := by
    by_cases h : a < b
    · rw [if_pos ((nI_ltI ha hb).mpr h), Nat.max_eq_right (by omega)]
    · rw [if_neg (fun q => h ((nI_ltI ha hb).mp q)), Nat.max_eq_left (by omega)]
  rw [e]
  exact k
theorem ev_ri {a b : Nat} {z v : Int32} (ht : g_at m pc = some (.ireturn, a, b, z)) (hz : g_isZ m = true → v &&& 1 = v) (h : rr = (some (.int v), g)) : Ev X m pc L [.int v] g rr := ev_i ht ⟨hz, h⟩
theorem ev_rv {a b : Nat} {z : Int32} (ht : g_at m pc = some (.return_, a, b, z)) (h : rr = (none, g)) : Ev X m pc L [] g rr := ev_i ht ⟨rfl, h⟩
end RU
