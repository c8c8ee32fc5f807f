section RV
variable {X : gX} {m pc : Nat} {L L' : gLo} {st : List Value} {g : gS} {rr : gR}
theorem ev_k1 {v : Int} {x y : Nat} {z w : Int32} (ht : g_at m pc = some (.iconst v, x, y, z)) (e : z = w) (k : Ev X m (pc + 1) L (.int w :: st) g rr) : Ev X m pc L st g rr := ev_i ht (by subst e; exact k)
theorem ev_k2 {v : Int} {x y : Nat} {z w : Int32} (ht : g_at m pc = some (.bipush v, x, y, z)) (e : z = w) (k : Ev X m (pc + 2) L (.int w :: st) g rr) : Ev X m pc L st g rr := ev_i ht (by subst e; exact k)
theorem ev_k3 {v : Int} {x y : Nat} {z w : Int32} (ht : g_at m pc = some (.sipush v, x, y, z)) (e : z = w) (k : Ev X m (pc + 3) L (.int w :: st) g rr) : Ev X m pc L st g rr := ev_i ht (by subst e; exact k)
theorem ev_k4 {v : Nat} {x y : Nat} {z w : Int32} (ht : g_at m pc = some (.ldc v, x, y, z)) (e : z = w) (k : Ev X m (pc + 2) L (.int w :: st) g rr) : Ev X m pc L st g rr := ev_i ht (by subst e; exact k)
theorem ev_k5 {v : Nat} {x y : Nat} {z w : Int32} (ht : g_at m pc = some (.ldc_w v, x, y, z)) (e : z = w) (k : Ev X m (pc + 3) L (.int w :: st) g rr) : Ev X m pc L st g rr := ev_i ht (by subst e; exact k)
theorem g_li_of {k : Nat} {a : Int32} {f : Int32 → Prop} (h : g_lg L k = some (.int a)) (q : f a) : g_li L k f := by unfold g_li; rw [h]; exact q
theorem g_lr_of {k : Nat} {a : Nat} {f : Nat → Prop} (h : g_lg L k = some (.ref a)) (q : f a) : g_lr L k f := by unfold g_lr; rw [h]; exact q
theorem ev_il {i x y : Nat} {z a : Int32} (ht : g_at m pc = some (.iload i, x, y, z)) (h : g_lg L i = some (.int a)) (k : Ev X m (pc + 2) L (.int a :: st) g rr) : Ev X m pc L st g rr := ev_i ht (g_li_of h k)
theorem ev_iln {i : Fin 4} {x y : Nat} {z a : Int32} (ht : g_at m pc = some (.iload_n i, x, y, z)) (h : g_lg L i.val = some (.int a)) (k : Ev X m (pc + 1) L (.int a :: st) g rr) : Ev X m pc L st g rr := ev_i ht (g_li_of h k)
theorem ev_al {i x y a : Nat} {z : Int32} (ht : g_at m pc = some (.aload i, x, y, z)) (h : g_lg L i = some (.ref a)) (k : Ev X m (pc + 2) L (.ref a :: st) g rr) : Ev X m pc L st g rr := ev_i ht (g_lr_of h k)
theorem ev_aln {i : Fin 4} {x y a : Nat} {z : Int32} (ht : g_at m pc = some (.aload_n i, x, y, z)) (h : g_lg L i.val = some (.ref a)) (k : Ev X m (pc + 1) L (.ref a :: st) g rr) : Ev X m pc L st g rr := ev_i ht (g_lr_of h k)
theorem ev_is {i x y : Nat} {z a : Int32} (ht : g_at m pc = some (.istore i, x, y, z)) (e : g_ls L i (.int a) = L') (hk : i < L.length) (k : Ev X m (pc + 2) L' st g rr) : Ev X m pc L (.int a :: st) g rr := ev_i ht ⟨hk, e ▸ k⟩
theorem ev_isn {i : Fin 4} {x y : Nat} {z a : Int32} (ht : g_at m pc = some (.istore_n i, x, y, z)) (e : g_ls L i.val (.int a) = L') (hk : i.val < L.length) (k : Ev X m (pc + 1) L' st g rr) : Ev X m pc L (.int a :: st) g rr := ev_i ht ⟨hk, e ▸ k⟩
theorem ev_as {i x y a : Nat} {z : Int32} (ht : g_at m pc = some (.astore i, x, y, z)) (e : g_ls L i (.ref a) = L') (hk : i < L.length) (k : Ev X m (pc + 2) L' st g rr) : Ev X m pc L (.ref a :: st) g rr := ev_i ht ⟨hk, e ▸ k⟩
theorem ev_asn {i : Fin 4} {x y a : Nat} {z : Int32} (ht : g_at m pc = some (.astore_n i, x, y, z)) (e : g_ls L i.val (.ref a) = L') (hk : i.val < L.length) (k : Ev X m (pc + 1) L' st g rr) : Ev X m pc L (.ref a :: st) g rr := ev_i ht ⟨hk, e ▸ k⟩
theorem ev_inc {i x y : Nat} {v : Int} {z a b : Int32} (ht : g_at m pc = some (.iinc i v, x, y, z)) (h : g_lg L i = some (.int a)) (eb : a + z = b) (e : g_ls L i (.int b) = L') (hk : i < L.length) (k : Ev X m (pc + 3) L' st g rr) : Ev X m pc L st g rr := ev_i ht (g_li_of h ⟨hk, by show Ev X m (pc + 3) (g_ls L i (.int (a + z))) st g rr; rw [eb, e]; exact k⟩)
theorem ev_gt {x y : Nat} {o : Int} {z : Int32} (ht : g_at m pc = some (.goto o, x, y, z)) (k : Ev X m x L st g rr) : Ev X m pc L st g rr := ev_i ht k
theorem ev_dup {x y : Nat} {z : Int32} {v : Value} (ht : g_at m pc = some (.dup, x, y, z)) (hc : v.category = 1) (k : Ev X m (pc + 1) L (v :: v :: st) g rr) : Ev X m pc L (v :: st) g rr := ev_i ht ⟨hc, k⟩
theorem ev_pop {x y : Nat} {z : Int32} {v : Value} (ht : g_at m pc = some (.pop, x, y, z)) (hc : v.category = 1) (k : Ev X m (pc + 1) L st g rr) : Ev X m pc L (v :: st) g rr := ev_i ht ⟨hc, k⟩
theorem ev_dup2 {x y : Nat} {z : Int32} {v w : Value} (ht : g_at m pc = some (.dup2, x, y, z)) (hc : v.category = 1) (hd : w.category = 1) (k : Ev X m (pc + 1) L (v :: w :: v :: w :: st) g rr) : Ev X m pc L (v :: w :: st) g rr := ev_i ht ⟨hc, hd, k⟩
theorem ev_add {x y : Nat} {z a b : Int32} (ht : g_at m pc = some (.iadd, x, y, z)) (k : Ev X m (pc + 1) L (.int (a + b) :: st) g rr) : Ev X m pc L (.int b :: .int a :: st) g rr := ev_i ht k
theorem ev_sub {x y : Nat} {z a b : Int32} (ht : g_at m pc = some (.isub, x, y, z)) (k : Ev X m (pc + 1) L (.int (a - b) :: st) g rr) : Ev X m pc L (.int b :: .int a :: st) g rr := ev_i ht k
theorem ev_mul {x y : Nat} {z a b : Int32} (ht : g_at m pc = some (.imul, x, y, z)) (k : Ev X m (pc + 1) L (.int (a * b) :: st) g rr) : Ev X m pc L (.int b :: .int a :: st) g rr := ev_i ht k
theorem ev_and {x y : Nat} {z a b : Int32} (ht : g_at m pc = some (.iand, x, y, z)) (k : Ev X m (pc + 1) L (.int (a &&& b) :: st) g rr) : Ev X m pc L (.int b :: .int a :: st) g rr := ev_i ht k
theorem ev_or {x y : Nat} {z a b : Int32} (ht : g_at m pc = some (.ior, x, y, z)) (k : Ev X m (pc + 1) L (.int (a ||| b) :: st) g rr) : Ev X m pc L (.int b :: .int a :: st) g rr := ev_i ht k
theorem ev_xor {x y : Nat} {z a b : Int32} (ht : g_at m pc = some (.ixor, x, y, z)) (k : Ev X m (pc + 1) L (.int (a ^^^ b) :: st) g rr) : Ev X m pc L (.int b :: .int a :: st) g rr := ev_i ht k
theorem ev_shl {x y : Nat} {z a b : Int32} (ht : g_at m pc = some (.ishl, x, y, z)) (k : Ev X m (pc + 1) L (.int (a <<< (b &&& 31)) :: st) g rr) : Ev X m pc L (.int b :: .int a :: st) g rr := ev_i ht k
theorem ev_shr {x y : Nat} {z a b : Int32} (ht : g_at m pc = some (.ishr, x, y, z)) (k : Ev X m (pc + 1) L (.int (a >>> (b &&& 31)) :: st) g rr) : Ev X m pc L (.int b :: .int a :: st) g rr := ev_i ht k
theorem ev_ushr {x y : Nat} {z a b : Int32} (ht : g_at m pc = some (.iushr, x, y, z)) (k : Ev X m (pc + 1) L (.int (a.toUInt32 >>> (b.toUInt32 &&& Int32.toUInt32 31)).toInt32 :: st) g rr) : Ev X m pc L (.int b :: .int a :: st) g rr := ev_i ht k
theorem ev_divN {x y a b : Nat} {z : Int32} (ht : g_at m pc = some (.idiv, x, y, z)) (ha : a < 2147483648) (h0 : 0 < b) (hb : b < 2147483648) (k : Ev X m (pc + 1) L (.int (nI (a / b)) :: st) g rr) : Ev X m pc L (.int (nI b) :: .int (nI a) :: st) g rr := ev_i ht ⟨nI_ne0 h0 hb, by show Ev X m (pc + 1) L (.int (nI a / nI b) :: st) g rr; rw [pk_div ha h0 hb]; exact k⟩
theorem ev_remN {x y a b : Nat} {z : Int32} (ht : g_at m pc = some (.irem, x, y, z)) (ha : a < 2147483648) (h0 : 0 < b) (hb : b < 2147483648) (k : Ev X m (pc + 1) L (.int (nI (a % b)) :: st) g rr) : Ev X m pc L (.int (nI b) :: .int (nI a) :: st) g rr := ev_i ht ⟨nI_ne0 h0 hb, by show Ev X m (pc + 1) L (.int (nI a - nI a / nI b * nI b) :: st) g rr; rw [pk_rem ha h0 hb]; exact k⟩
theorem ev_sw {d lo hi : Int} {offs : Array Int} {x y t : Nat} {z a : Int32} (ht : g_at m pc = some (.tableswitch d lo hi offs, x, y, z)) (e : g_tgt pc d lo hi offs a = t) (k : Ev X m t L st g rr) : Ev X m pc L (.int a :: st) g rr := ev_i ht (by show Ev X m (g_tgt pc d lo hi offs a) L st g rr; rw [e]; exact k)
theorem ev_bT {o : Int} {b : Bool} {x y : Nat} {z : Int32} (ht : g_at m pc = some (.ifCond .ne o, x, y, z)) (kt : b = true → Ev X m x L st g rr) (kf : b = false → Ev X m (pc + 3) L st g rr) : Ev X m pc L (.int (bI b) :: st) g rr := ev_i ht ⟨fun h => kt (bI_ne0.mp h), fun h => kf (by cases b; rfl; exact absurd (bI_ne0.mpr rfl) h)⟩
theorem ev_bF {o : Int} {b : Bool} {x y : Nat} {z : Int32} (ht : g_at m pc = some (.ifCond .eq o, x, y, z)) (kt : b = false → Ev X m x L st g rr) (kf : b = true → Ev X m (pc + 3) L st g rr) : Ev X m pc L (.int (bI b) :: st) g rr := ev_i ht ⟨fun h => kt (bI_eq0.mp h), fun h => kf (by cases b; exact absurd (bI_eq0.mpr rfl) h; rfl)⟩
theorem ev_b01 {b : Bool} {c1 c2 : Int32} (h1 : b = true → c1 = 1) (h2 : b = false → c1 = 0) (k : Ev X m pc L (.int (bI b) :: st) g rr) : Ev X m pc L (.int c1 :: st) g rr := by
  cases b
  · rw [h2 rfl]; exact k
  · rw [h1 rfl]; exact k
theorem ic0_eq {a : Nat} (ha : a < 2147483648) : g_ic .eq (nI a) 0 ↔ a = 0 := ic_eq (b := 0) ha (by decide)
theorem ic0_ne {a : Nat} (ha : a < 2147483648) : g_ic .ne (nI a) 0 ↔ ¬ a = 0 := ic_ne (b := 0) ha (by decide)
theorem ic0_lt {a : Nat} (ha : a < 2147483648) : g_ic .lt (nI a) 0 ↔ a < 0 := ic_lt (b := 0) ha (by decide)
theorem ic0_ge {a : Nat} (ha : a < 2147483648) : g_ic .ge (nI a) 0 ↔ 0 ≤ a := ic_ge (b := 0) ha (by decide)
theorem ic0_gt {a : Nat} (ha : a < 2147483648) : g_ic .gt (nI a) 0 ↔ 0 < a := ic_gt (b := 0) ha (by decide)
theorem ic0_le {a : Nat} (ha : a < 2147483648) : g_ic .le (nI a) 0 ↔ a ≤ 0 := ic_le (b := 0) ha (by decide)
end RV
