/-! How the small machine's state lies in the heap. -/
def g_cv (b0 b : Nat) : Value → Value
  | .ref p => .ref (if p = 1000 then b0 else b + p)
  | v => v
theorem g_cv_cat (b0 b : Nat) (v : Value) : (g_cv b0 b v).category = v.category := by cases v <;> rfl
def g_pl (Dd : va_G) (cI cZ : ClassId) (b0 b : Nat) (ρ : Nat → Nat → Option Nat) (σ : Nat → Nat → Int32) (p : Nat) (H : Heap) : Prop := match g_shp p with
  | .inl q => H[b + p]? = some (arrV (if q.1 then cZ else cI) q.2 (fun j => .int (σ p j)))
  | .inr c => ∃ r : vw_C, g_cls[c]? = some r ∧ t_OB (b + p) (Dd.1 c) r.2.2 (Dd.2 c) H (fun k => g_cv b0 b (g_av ρ σ p c k))
def g_WP (Dd : va_G) (cI cZ : ClassId) (b0 b : Nat) (g : gS) (H : Heap) : Prop := H.size = b + g.1 ∧ g.1 ≤ 47 ∧ ∀ p, p < g.1 → g_pl Dd cI cZ b0 b g.2.1 g.2.2 p H
def g_WH (Dd : va_G) (cI cZ : ClassId) (b0 b : Nat) (X : gX) (g : gS) (s : State) (H : Heap) : Prop := g_WP Dd cI cZ b0 b g H ∧ b0 < b ∧ va_X b0 X.1 X.2 s H
def g_En (Dd : va_G) (cI cZ : ClassId) (s : State) : Prop := va_K Dd g_cls [(cI, .int), (cZ, .boolean)] s ∧ ∀ w ∈ g_nest, va_Nw (.methodLinkNest w.1 w.2.1 w.2.2 "SwitchBook") s
theorem g_En.warm {Dd : va_G} {cI cZ : ClassId} {s U : State} (hW : s.WarmedH U.vm) (h : g_En Dd cI cZ s) : g_En Dd cI cZ U := ⟨va_K.moved hW.alike h.1, fun w hw => va_Nw.warmM hW (h.2 w hw)⟩
theorem g_En.same {Dd : va_G} {cI cZ : ClassId} {s U : State} (hv : s.vm = U.vm) (h : g_En Dd cI cZ s) : g_En Dd cI cZ U := ⟨va_K.moved (by rw [hv]; exact Vm.Alike.refl _) h.1, fun w hw => va_Nw.same rfl hv (h.2 w hw)⟩
/-- the locals -/
def g_ll (b0 b : Nat) : Nat → gLo → List (Nat × Value)
  | _, [] => []
  | k, none :: L => g_ll b0 b (k + 1) L
  | k, some v :: L => (k, g_cv b0 b v) :: g_ll b0 b (k + 1) L
theorem g_ll_mem {b0 b : Nat} {j : Nat} {w : Value} : ∀ (L : gLo) (k : Nat), (j, w) ∈ g_ll b0 b k L ↔ ∃ i v, j = k + i ∧ g_lg L i = some v ∧ w = g_cv b0 b v
  | [], k => ⟨fun h => (by cases h), fun ⟨i, v, _, h, _⟩ => by cases i <;> cases h⟩
  | none :: L, k => by
    have ih := g_ll_mem (b0 := b0) (b := b) (j := j) (w := w) L (k + 1)
    simp only [g_ll]
    rw [ih]
    constructor
    · rintro ⟨i, v, h1, h2, h3⟩
      exact ⟨i + 1, v, by omega, h2, h3⟩
    · rintro ⟨i, v, h1, h2, h3⟩
      cases i with
      | zero => cases h2
      | succ i => exact ⟨i, v, by omega, h2, h3⟩
  | some u :: L, k => by
    have ih := g_ll_mem (b0 := b0) (b := b) (j := j) (w := w) L (k + 1)
    simp only [g_ll, List.mem_cons, Prod.mk.injEq]
    rw [ih]
    constructor
    · rintro (⟨h1, h2⟩ | ⟨i, v, h1, h2, h3⟩)
      · exact ⟨0, u, by omega, rfl, h2⟩
      · exact ⟨i + 1, v, by omega, h2, h3⟩
    · rintro ⟨i, v, h1, h2, h3⟩
      cases i with
      | zero =>
        cases h2
        exact Or.inl ⟨by omega, h3⟩
      | succ i => exact Or.inr ⟨i, v, by omega, h2, h3⟩
theorem g_ls_length : ∀ (L : gLo) (k : Nat) (v : Value), (g_ls L k v).length = L.length
  | [], _, _ => rfl
  | _ :: _, 0, _ => rfl
  | _ :: L, k + 1, v => congrArg (· + 1) (g_ls_length L k v)
theorem g_lg_ls : ∀ (L : gLo) (k : Nat) (v w : Value) (j : Nat), g_lg (g_ls L k v) j = some w → (j = k ∧ w = v) ∨ (j ≠ k ∧ g_lg L j = some w)
  | [], _, _, _, j, h => by cases j <;> cases h
  | a :: L, 0, v, w, j, h => by
    cases j with
    | zero =>
      cases h
      exact Or.inl ⟨rfl, rfl⟩
    | succ j => exact Or.inr ⟨by omega, h⟩
  | a :: L, k + 1, v, w, j, h => by
    cases j with
    | zero => exact Or.inr ⟨by omega, h⟩
    | succ j =>
      rcases g_lg_ls L k v w j h with ⟨h1, h2⟩ | ⟨h1, h2⟩
      · exact Or.inl ⟨by omega, h2⟩
      · exact Or.inr ⟨by omega, h2⟩
def g_LR (b0 b : Nat) (ls : Array Slot) (nL : Nat) (L : gLo) : Prop := lv_has ls nL (g_ll b0 b 0 L) ∧ L.length = nL ∧ ∀ k v, g_lg L k = some v → v.category = 1
theorem g_LR.get {b0 b : Nat} {ls : Array Slot} {nL : Nat} {L : gLo} (h : g_LR b0 b ls nL L) {k : Nat} {v : Value} (hk : g_lg L k = some v) : ls[k]? = some (.val (g_cv b0 b v)) := h.1.2.2 (k, _) ((g_ll_mem L 0).mpr ⟨k, v, by omega, hk, rfl⟩)
theorem g_LR.set {b0 b : Nat} {ls ls' : Array Slot} {nL : Nat} {L : gLo} (h : g_LR b0 b ls nL L) {k : Nat} {v : Value} (hc : v.category = 1) (h' : lv_has ls' nL ((k, g_cv b0 b v) :: (g_ll b0 b 0 L).filter (fun q => !(q.1 == k) && !(q.1 + 1 == k && q.2.category == 2)))) : g_LR b0 b ls' nL (g_ls L k v) := by
  refine ⟨⟨h'.1, h'.2.1, fun q hq => ?_⟩, by rw [g_ls_length]; exact h.2.1, fun j w hj => ?_⟩
  · obtain ⟨j, w⟩ := q
    obtain ⟨i, u, h1, h2, h3⟩ := (g_ll_mem _ 0).mp hq
    have e : j = i := by omega
    subst e
    rcases g_lg_ls L k v u j h2 with ⟨e1, e2⟩ | ⟨e1, e2⟩
    · subst e1; subst e2; subst h3
      exact h'.2.2 _ List.mem_cons_self
    · refine h'.2.2 _ (List.mem_cons_of_mem _ (List.mem_filter.mpr ⟨(g_ll_mem L 0).mpr ⟨j, u, by omega, e2, h3⟩, ?_⟩))
      have hcat : w.category = 1 := by rw [h3, g_cv_cat]; exact h.2.2 j u e2
      simp [e1, hcat]
  · rcases g_lg_ls L k v w j hj with ⟨e1, e2⟩ | ⟨e1, e2⟩
    · rw [e2]; exact hc
    · exact h.2.2 j w e2
theorem g_lg_map : ∀ (A : List Value) (n i : Nat) (v : Value), g_lg (A.map some ++ List.replicate n none) i = some v → A[i]? = some v
  | [], n, i, v, h => by
    exfalso
    simp only [List.map_nil, List.nil_append] at h
    induction n generalizing i with
    | zero => cases i <;> cases h
    | succ n ih =>
      rw [List.replicate_succ] at h
      cases i with
      | zero => cases h
      | succ i => exact ih i h
  | a :: A, n, 0, v, h => by simpa [g_lg] using h
  | a :: A, n, i + 1, v, h => by
    have := g_lg_map A n i v (by simpa [g_lg] using h)
    simpa using this
theorem g_args_mem : ∀ (A : List Value) (k i : Nat) (v : Value), (∀ v ∈ A, v.category = 1) → A[i]? = some v → (k + i, v) ∈ lv_args k A
  | [], _, i, v, _, h => by simp at h
  | a :: A, k, 0, v, hc, h => by
    simp only [List.getElem?_cons_zero] at h
    cases h
    exact List.mem_cons_self
  | a :: A, k, i + 1, v, hc, h => by
    have h1 : a.category = 1 := hc a List.mem_cons_self
    simp only [List.getElem?_cons_succ] at h
    have := g_args_mem A (k + 1) i v (fun v hv => hc v (List.mem_cons_of_mem _ hv)) h
    rw [show k + (i + 1) = k + 1 + i by omega]
    show _ ∈ (k, a) :: lv_args (if a.category = 2 then k + 2 else k + 1) A
    rw [if_neg (by omega)]
    exact List.mem_cons_of_mem _ this
theorem g_sl_len : ∀ (A : List Value), (∀ v ∈ A, v.category = 1) → (lg_sl A).length = A.length
  | [], _ => rfl
  | a :: A, h => by
    have h1 : a.category = 1 := h a List.mem_cons_self
    have ih := g_sl_len A (fun v hv => h v (List.mem_cons_of_mem _ hv))
    simp only [lg_sl, List.flatMap_cons, List.length_append, List.length_cons] at ih ⊢
    rw [if_neg (by omega), ih]
    simp
    omega
/-- the locals at a method's entry -/
theorem g_LR.entry {b0 b : Nat} {A : List Value} {n : Nat} (hc : ∀ v ∈ A, v.category = 1) (hn : A.length ≤ n) : g_LR b0 b (lg_sl (A.map (g_cv b0 b)) ++ List.replicate (n - (lg_sl (A.map (g_cv b0 b))).length) Slot.unset).toArray n (A.map some ++ List.replicate (n - A.length) none) := by
  have hc' : ∀ v ∈ A.map (g_cv b0 b), v.category = 1 := by
    intro v hv
    obtain ⟨u, h1, h2⟩ := List.mem_map.mp hv
    rw [← h2, g_cv_cat]
    exact hc u h1
  have hl := g_sl_len _ hc'
  rw [List.length_map] at hl
  have h := lv_entry (A.map (g_cv b0 b)) (n := n) (by omega)
  refine ⟨⟨h.1, h.2.1, fun q hq => ?_⟩, by simp; omega, fun k v hk => hc v (List.mem_of_getElem? (g_lg_map A _ k v hk))⟩
  obtain ⟨j, w⟩ := q
  obtain ⟨i, u, h1, h2, h3⟩ := (g_ll_mem _ 0).mp hq
  have h4 := g_lg_map A _ i u h2
  have h5 := g_args_mem (A.map (g_cv b0 b)) 0 i (g_cv b0 b u) hc' (by rw [List.getElem?_map, h4]; rfl)
  rw [h1, h3]
  exact h.2.2 _ h5
/-! places that stay -/
theorem g_pl.congr {Dd : va_G} {cI cZ : ClassId} {b0 b : Nat} {ρ ρ' : Nat → Nat → Option Nat} {σ σ' : Nat → Nat → Int32} {p : Nat} {H H' : Heap} (h : g_pl Dd cI cZ b0 b ρ σ p H) (hr : ρ' p = ρ p) (hs : σ' p = σ p) (hH : H'[b + p]? = H[b + p]?) : g_pl Dd cI cZ b0 b ρ' σ' p H' := by
  unfold g_pl at *
  split
  · next q hq =>
    rw [hq] at h
    rw [hH, hs]
    exact h
  · next c hq =>
    rw [hq] at h
    obtain ⟨r, h1, h2⟩ := h
    refine ⟨r, h1, (h2.kept hH).to (fun k _ => ?_)⟩
    simp only [g_av, hr, hs]
theorem g_WP.set {Dd : va_G} {cI cZ : ClassId} {b0 b : Nat} {n : Nat} {ρ ρ' : Nat → Nat → Option Nat} {σ σ' : Nat → Nat → Int32} {H H' : Heap} {p : Nat} (h : g_WP Dd cI cZ b0 b (n, ρ, σ) H) (hr : ∀ q, q ≠ p → ρ' q = ρ q) (hs : ∀ q, q ≠ p → σ' q = σ q) (hz : H'.size = H.size) (ho : ∀ q, q ≠ b + p → H'[q]? = H[q]?) (hp : g_pl Dd cI cZ b0 b ρ' σ' p H') : g_WP Dd cI cZ b0 b (n, ρ', σ') H' := by
  refine ⟨hz.trans h.1, h.2.1, fun q hq => ?_⟩
  by_cases e : q = p
  · subst e; exact hp
  · exact (h.2.2 q hq).congr (hr q e) (hs q e) (ho _ (by omega))
theorem g_X.kept {b0 b : Nat} {X : gX} {s : State} {H H' : Heap} (hb : b0 < b) (h : va_X b0 X.1 X.2 s H) (ho : ∀ q, q < b → H'[q]? = H[q]?) : va_X b0 X.1 X.2 s H' := h.kept (ho b0 hb)
theorem g_slots_mono {a c : Nat} (h : a ≤ c) : g_slots a ≤ g_slots c := by
  induction h with
  | refl => exact Nat.le_refl _
  | step _ ih => exact Nat.le_trans ih (Nat.le_add_right _ _)
/-! the classes -/
theorem g_in0 : ∀ w ∈ u_ws RX0 TX0 9, w ∈ lw_tbl ∧ goodWord w = true := by decide +kernel
theorem g_in1 : ∀ w ∈ u_ws RX1 TX1 14, w ∈ lw_tbl ∧ goodWord w = true := by decide +kernel
theorem g_in2 : ∀ w ∈ u_ws RX2 TX2 6, w ∈ lw_tbl ∧ goodWord w = true := by decide +kernel
theorem g_in3 : ∀ w ∈ u_ws RX3 TX3 16, w ∈ lw_tbl ∧ goodWord w = true := by decide +kernel
theorem g_in4 : ∀ w ∈ u_ws RX4 TX4 25, w ∈ lw_tbl ∧ goodWord w = true := by decide +kernel
def g_clsOK (c : Nat) (q : vw_C) : Prop := (∀ k, k < q.2.2 → parseFieldDescriptor (q.2.1 k).2.2.1 = some (g_tyf c k)) ∧ (∀ a, a < q.2.2 → ∀ b, b < q.2.2 → a ≠ b → (q.2.1 a).2.1 ≠ (q.2.1 b).2.1) ∧ ∀ w ∈ u_ws q.1 q.2.1 q.2.2, w ∈ g_tbl
theorem g_cls_ok {c : Nat} {q : vw_C} (h : g_cls[c]? = some q) : g_clsOK c q := by
  match c, h with
  | 0, h => cases h; exact ⟨tyX0_ok, nmX0, fun w hw => List.mem_filter.mpr (g_in0 w hw)⟩
  | 1, h => cases h; exact ⟨tyX1_ok, nmX1, fun w hw => List.mem_filter.mpr (g_in1 w hw)⟩
  | 2, h => cases h; exact ⟨tyX2_ok, nmX2, fun w hw => List.mem_filter.mpr (g_in2 w hw)⟩
  | 3, h => cases h; exact ⟨tyX3_ok, nmX3, fun w hw => List.mem_filter.mpr (g_in3 w hw)⟩
  | 4, h => cases h; exact ⟨tyX4_ok, nmX4, fun w hw => List.mem_filter.mpr (g_in4 w hw)⟩
  | c + 5, h => simp [g_cls] at h
theorem g_sz_cls {c : Nat} {q : vw_C} (h : g_cls[c]? = some q) {p : Nat} (hp : g_shp p = .inr c) : g_sz p = q.2.2 := by
  unfold g_sz
  rw [hp]
  match c, h with
  | 0, h => cases h; rfl
  | 1, h => cases h; rfl
  | 2, h => cases h; rfl
  | 3, h => cases h; rfl
  | 4, h => cases h; rfl
  | c + 5, h => simp [g_cls] at h
section GWR
variable {p : Program} {l : Launch} {e : Env} {R : Room} {s : State} {m : MethodId} {args : Array Value} {below : List Frame} {meth : Method} {c : Code} {H : Heap} {locs : List Loc} {cells slots : Nat} {Q : State → Prop}
variable {cc : ByteArray} {pc : Nat} {ls : Array Slot} {rest : List Value} {Dd : va_G} {cl : List vw_C} {a : Nat} {tys : List (ClassId × FieldType)}
/-- a field is written: what else stays -/
theorem gw_put (hexec : p.tables.exec = Jvm.exec) (hb : c.code = cc) {own : String} {C : String} {T : u_T} {N ci index : Nat} {Ts : List Jvm.Cond} (hts : ∀ w ∈ Ts, w.before args s = true) (hin : ∀ w ∈ u_ws C T N, w ∈ Ts) (ty0 : Nat → FieldType) (hty : ∀ k, k < N → parseFieldDescriptor (T k).2.2.1 = some (ty0 k)) (hnm : ∀ a, a < N → ∀ b, b < N → a ≠ b → (T a).2.1 ≠ (T b).2.1) (hown : s.vm.findClass own = some m.cls) (hK : va_K Dd cl tys s) {V : Nat → Value} (hO : t_OB a (Dd.1 ci) N (Dd.2 ci) H V) (hc : cl[ci]? = some (C, T, N)) (k : Nat) (hk : k < N) (hlink : (Jvm.Cond.fieldLink own index (T k).1 (T k).2.1 (T k).2.2.1).before args s = true) (hfin : (T k).2.2.2 = false ∨ (meth.name = "<init>" ∧ (T k).1 = own)) {v : Value} (hn : narrow (ty0 k) v = v) (hfit : fits (ty0 k) v = true)
    (hdg : decode cc pc = .ok (.putfield index, 3)) (kk : ∀ (H1 : Heap) (locs1 : List Loc), t_OB a (Dd.1 ci) N (Dd.2 ci) H1 (updV V k v) → H1.size = H.size → (∀ q, q ≠ a → H1[q]? = H[q]?) → (∀ q ∈ locs1, q ∈ locs ∨ q.base = a) → W p l e R s m args below meth c H1 locs1 cells slots Q (F0 m (pc + 3) ls rest)) : W p l e R s m args below meth c H locs cells slots Q (F0 m pc ls (v :: .ref a :: rest)) := by
  have hap := va_apart (own := own) hts hin ty0 hty hnm hK hc
  obtain ⟨cell, q1, q2, q3, q4⟩ := hO
  obtain ⟨hS, hfc, kC, hkC, hkind⟩ := hK.1 ci _ hc
  obtain ⟨cf, kf, fi, f, hi, hsl⟩ := hS k hk
  have hlay := hts _ (hin _ (u_in_lay hk))
  have hst := (u_facts hfc hkC (u_lays hts hin hk) hi).1
  have fin : ∀ (H1 : Heap) (L1 : List Loc), L1 = locs ++ [⟨a, f.slot⟩] → H1[a]? = some (cell.setSlot f.slot v) → H1.size = H.size → (∀ q, q ≠ a → H1[q]? = H[q]?) → W p l e R s m args below meth c H1 L1 cells slots Q (F0 m (pc + 3) ls rest) := by
    intro H1 L1 hL1 e1 e2 e3
    subst hL1
    refine kk H1 _ ⟨cell.setSlot (Dd.2 ci k) v, by rw [hsl] at e1; exact e1, q2, q3, t_set q4 hap hk v⟩ e2 e3 (fun q hq => ?_)
    rcases List.mem_append.mp hq with h | h
    · exact Or.inl h
    · rw [List.mem_singleton.mp h]; exact Or.inr rfl
  rcases Bool.eq_false_or_eq_true (T k).2.2.2 with hf | hf
  · obtain ⟨hin2, hdecl⟩ : meth.name = "<init>" ∧ (T k).1 = own := by
      rcases hfin with h | h
      · rw [hf] at h; cases h
      · exact h
    unfold u_lay at hlay
    rw [if_pos hf] at hlay
    have hcf : m.cls = cf := by
      obtain ⟨_, _, c', _, _, _, -, -, hf', -, -, -, hown2, -⟩ := Cond.laysFinal_spec hlay
      have e1 : c' = cf := by have := hi.symm.trans hf'; simp at this; exact this.1.symm
      rw [hdecl] at hown2
      rw [← e1]; exact Option.some.inj (hown.symm.trans hown2)
    have h6 := u_fits hfc hkC hkind (Or.inr hlay) hi (hty k hk) hn hfit
    exact W.putFinK hexec hb hown hlink hi hst hcf hin2 (by rw [q2]; exact h6) q1 q3 (by rw [hsl]; exact k2_hasslot (q4 k hk)) rfl rfl hdg fun H' e1 e2 e3 => fin H' _ rfl e1 e2 e3
  · unfold u_lay at hlay
    rw [if_neg (by rw [hf]; decide)] at hlay
    have h6 := u_store hfc hkC hkind hlay hi (hty k hk) hn hfit
    exact W.putK hexec hb (f := f) ⟨hown, hlink, ⟨_, _, _, hi⟩, hst⟩ (by rw [q2]; exact h6) q1 q3 (by rw [hsl]; exact k2_hasslot (q4 k hk)) rfl rfl hdg fun H' e1 e2 e3 => fin H' _ rfl e1 e2 e3
end GWR
