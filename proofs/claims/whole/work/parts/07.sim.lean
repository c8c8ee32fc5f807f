/-! THE SMALL MACHINE IS THE MACHINE: what it answers, the bytecode answers. -/
def g_Q (Dd : va_G) (cI cZ : ClassId) (b0 b : Nat) (rr : gR) : Array Value → State → Outcome → State → Prop := fun _ st o t => o = .returned (rr.1.map (g_cv b0 b)) ∧ g_WP Dd cI cZ b0 b rr.2 t.heap ∧ ∀ q, q < b → t.heap[q]? = st.heap[q]?
def g_Cx (Dd : va_G) (cI cZ : ClassId) (p : Program) (R : Room) (s : State) (mm : MethodId) (args : Array Value) (meth : Method) (c : Code) (m : Nat) : Prop :=
  (p.tables.exec = Jvm.exec ∧ c.code = (g_meth m).2.2.1 ∧ meth.sig.returnType = (g_meth m).2.2.2.2.1 ∧ c.maxLocals = (g_meth m).2.2.2.1 ∧ s.vm.findClass (g_own m) = some mm.cls) ∧ (∀ w ∈ g_tbl, w.before args s = true) ∧ meth.locks = false ∧ ((g_meth m).2.1.name = "<init>" → meth.name = "<init>") ∧ (g_meth m).2.2.2.2.2.1 ≤ R.frames ∧ (g_meth m).2.2.2.2.2.2.1 ≤ R.locals ∧ g_En Dd cI cZ s
def g_Goal (l : Launch) (Dd : va_G) (cI cZ : ClassId) (b0 b : Nat) (X : gX) (n : Nat) : Prop := ∀ (m pc : Nat) (L : gLo) (st : List Value) (g : gS) (rr : gR), EvN X n m pc L st g rr →
  ∀ (p : Program) (e : Env) (R : Room) (s : State) (mm : MethodId) (args : Array Value) (below : List Frame) (meth : Method) (c : Code) (H : Heap) (locs : List Loc) (cells slots mc ms : Nat) (ls : Array Slot),
  g_Cx Dd cI cZ p R s mm args meth c m → g_LR b0 b ls (g_meth m).2.2.2.1 L → g_WH Dd cI cZ b0 b X g s H → va_S (fun q => b ≤ q) s.heap H locs → b ≤ s.heap.size →
  (cells + rr.2.1 = mc + g.1 ∧ slots + g_slots rr.2.1 = ms + g_slots g.1 ∧ mc ≤ R.cells ∧ ms ≤ R.slots) →
  W p l e R s mm args below meth c H locs cells slots (MQ below (g_Q Dd cI cZ b0 b rr) args s mc ms (fun q => b ≤ q)) (F0 mm pc ls (st.map (g_cv b0 b)))
def g_ws (y : Nat) : List Jvm.Cond := .code (g_meth y).2.1 (g_meth y).2.2.1 (g_meth y).2.2.2.1 (g_meth y).2.2.2.2.1 :: g_tbl
theorem g_good {y : Nat} (h : Jvm.Cond.code (g_meth y).2.1 (g_meth y).2.2.1 (g_meth y).2.2.2.1 (g_meth y).2.2.2.2.1 ∈ g_tbl) : GoodIn g_tbl (g_ws y) := by
  intro w hw
  have h1 : w ∈ g_tbl := by
    rcases List.mem_cons.mp hw with e | e
    · rw [e]; exact h
    · exact e
  exact ⟨h1, good_of_word (List.mem_filter.mp h1).2⟩
/-! how many cells stand never falls -/
theorem g_s1_out {st : List Value} {f : Int32 → List Value → Prop} {P : Prop} (h : ∀ a r, f a r → P) (k : g_s1 st f) : P := by
  unfold g_s1 at k
  split at k
  · exact h _ _ k
  · exact k.elim
theorem g_sr_out {st : List Value} {f : Nat → List Value → Prop} {P : Prop} (h : ∀ a r, f a r → P) (k : g_sr st f) : P := by
  unfold g_sr at k
  split at k
  · exact h _ _ k
  · exact k.elim
theorem g_s2_out {st : List Value} {f : Int32 → Int32 → List Value → Prop} {P : Prop} (h : ∀ a b r, f a b r → P) (k : g_s2 st f) : P := g_s1_out (fun _ _ k => g_s1_out (fun _ _ k => h _ _ _ k) k) k
theorem g_li_out {L : gLo} {k : Nat} {f : Int32 → Prop} {P : Prop} (h : ∀ a, f a → P) (q : g_li L k f) : P := by
  unfold g_li at q
  split at q
  · exact h _ q
  · exact q.elim
theorem g_lr_out {L : gLo} {k : Nat} {f : Nat → Prop} {P : Prop} (h : ∀ a, f a → P) (q : g_lr L k f) : P := by
  unfold g_lr at q
  split at q
  · exact h _ q
  · exact q.elim
theorem g_ald_out {X : gX} {z : Bool} {g : gS} {p : Nat} {i : Int32} {f : Int32 → Prop} {P : Prop} (h : ∀ a, f a → P) (q : g_ald X z g p i f) : P := by
  unfold g_ald at q
  split at q
  · exact h _ q.2.2
  · split at q
    · exact h _ q.2.2.2
    · exact q.elim
theorem g_ast_out {z : Bool} {g : gS} {p : Nat} {i v : Int32} {f : gS → Prop} {P : Prop} (h : ∀ s, f (g.1, g.2.1, s) → P) (q : g_ast z g p i v f) : P := by
  unfold g_ast at q
  split at q
  · exact h _ q.2.2.2
  · exact q.elim
theorem g_obj_out {g : gS} {p c : Nat} {P Q : Prop} (h : P → Q) (q : g_obj g p c P) : Q := by
  unfold g_obj at q
  split at q
  · exact q.elim
  · exact h q.2.2
theorem g_call_le {m pc y : Nat} {A : List Value} {L : gLo} {r : List Value} {g : gS} {rr : gR} (q : g_call (fun _ _ _ _ g rr => g.1 ≤ rr.2.1) m pc y A L r g rr) : g.1 ≤ rr.2.1 := by
  obtain ⟨-, -, v, g1, h1, h2⟩ := q
  exact Nat.le_trans h1 h2
set_option maxHeartbeats 4000000 in
theorem g_do_le {X : gX} {m pc : Nat} {i : gI} {L : gLo} {st : List Value} {g : gS} {rr : gR} (q : g_do X (fun _ _ _ _ g rr => g.1 ≤ rr.2.1) m pc i L st g rr) : g.1 ≤ rr.2.1 := by
  obtain ⟨ins, a, b, z⟩ := i
  cases ins
  case iconst => exact q
  case bipush => exact q
  case sipush => exact q
  case ldc => exact q
  case ldc_w => exact q
  case goto => exact q
  case iload => exact g_li_out (fun _ k => k) q
  case iload_n => exact g_li_out (fun _ k => k) q
  case aload => exact g_lr_out (fun _ k => k) q
  case aload_n => exact g_lr_out (fun _ k => k) q
  case istore => exact g_s1_out (fun _ _ k => k.2) q
  case istore_n => exact g_s1_out (fun _ _ k => k.2) q
  case astore => exact g_sr_out (fun _ _ k => k.2) q
  case astore_n => exact g_sr_out (fun _ _ k => k.2) q
  case iinc => exact g_li_out (fun _ k => k.2) q
  case iadd => exact g_s2_out (fun _ _ _ k => k) q
  case isub => exact g_s2_out (fun _ _ _ k => k) q
  case imul => exact g_s2_out (fun _ _ _ k => k) q
  case iand => exact g_s2_out (fun _ _ _ k => k) q
  case ior => exact g_s2_out (fun _ _ _ k => k) q
  case ixor => exact g_s2_out (fun _ _ _ k => k) q
  case ishl => exact g_s2_out (fun _ _ _ k => k) q
  case ishr => exact g_s2_out (fun _ _ _ k => k) q
  case iushr => exact g_s2_out (fun _ _ _ k => k) q
  case idiv => exact g_s2_out (fun _ _ _ k => k.2) q
  case irem => exact g_s2_out (fun _ _ _ k => k.2) q
  case dup =>
    match st, q with
    | v :: r, q => exact q.2
  case pop =>
    match st, q with
    | v :: r, q => exact q.2
  case dup2 =>
    match st, q with
    | v :: w :: r, q => exact q.2.2
  case if_icmp c _ => exact g_s2_out (fun x y _ k => (Classical.em (g_ic c x y)).elim k.1 k.2) q
  case ifCond c _ => exact g_s1_out (fun x _ k => (Classical.em (g_ic c x 0)).elim k.1 k.2) q
  case tableswitch => exact g_s1_out (fun _ _ k => k) q
  case getfield => exact g_sr_out (fun _ _ => g_obj_out (fun k => k)) q
  case putfield =>
    match st, q with
    | .int v :: r, q => exact g_sr_out (fun _ _ => g_obj_out (fun k => k.2)) q
    | .ref v :: r, q => exact g_sr_out (fun _ _ => g_obj_out (fun k => k.2.2)) q
  case iaload => exact g_s1_out (fun _ _ => g_sr_out (fun _ _ => g_ald_out (fun _ k => k))) q
  case baload => exact g_s1_out (fun _ _ => g_sr_out (fun _ _ => g_ald_out (fun _ k => k))) q
  case iastore => exact g_s1_out (fun _ _ => g_s1_out (fun _ _ => g_sr_out (fun _ _ => g_ast_out (fun _ k => k)))) q
  case bastore => exact g_s1_out (fun _ _ => g_s1_out (fun _ _ => g_sr_out (fun _ _ => g_ast_out (fun _ k => k)))) q
  case arraylength =>
    refine g_sr_out (fun p r k => ?_) q
    by_cases hp : p = 1000
    · rw [if_pos hp] at k
      exact k
    · rw [if_neg hp] at k
      split at k
      · exact k.2
      · exact k.elim
  case new => exact Nat.le_trans (Nat.le_succ _) q.2.2.2.2
  case newarray => exact g_s1_out (fun _ _ k => Nat.le_trans (Nat.le_succ _) k.2.2.2.2.2.2) q
  case invokestatic =>
    simp only [g_do] at q
    split at q
    · exact g_s2_out (fun _ _ _ k => k.2) q
    · split at q
      · exact g_call_le q
      · exact q.elim
  case invokevirtual =>
    simp only [g_do] at q
    split at q
    · exact g_obj_out g_call_le q
    · exact q.elim
  case invokespecial =>
    simp only [g_do] at q
    split at q
    · split at q
      · exact q
      · exact q.elim
    · split at q
      · exact g_call_le q
      · exact q.elim
  case ireturn =>
    match st, q with
    | [.int v], q => rw [q.2]; exact Nat.le_refl _
  case return_ => rw [q.2]; exact Nat.le_refl _
  all_goals exact q.elim
theorem EvN_n {X : gX} : ∀ (n : Nat) {m pc : Nat} {L : gLo} {st : List Value} {g : gS} {rr : gR}, EvN X n m pc L st g rr → g.1 ≤ rr.2.1
  | 0, _, _, _, _, _, _, h => h.elim
  | n + 1, _, _, _, _, _, _, h => by
    obtain ⟨i, h1, h2⟩ := h
    exact g_do_le (g_do_mono (fun _ _ _ _ _ _ k => EvN_n n k) h2)
/-! contracts out of the goal -/
def g_rm (y : Nat) (mc ms : Nat) : Room := { frames := (g_meth y).2.2.2.2.2.1, cells := mc, slots := ms, locals := (g_meth y).2.2.2.2.2.2.1 }
def g_Pc (Dd : va_G) (cI cZ : ClassId) (b0 b : Nat) (X : gX) (A : List Value) (g : gS) : Array Value → State → Prop := va_Pc (A.map (g_cv b0 b)) (fun U => b ≤ U.heap.size ∧ g_En Dd cI cZ U ∧ g_WH Dd cI cZ b0 b X g U U.heap)
theorem g_Pc.blind {Dd : va_G} {cI cZ : ClassId} {b0 b : Nat} {X : gX} {A : List Value} {g : gS} : FrameBlind (g_Pc Dd cI cZ b0 b X A g) := by
  intro a U f mk h
  obtain ⟨h1, h2, h3, h4, h5, h6⟩ := h
  exact ⟨h1, h2, h3.same (U := U.calling f mk a) rfl, h4, h5, va_X.moved (u := U) (U := U.calling f mk a) (Vm.Alike.refl U.vm) h6⟩
theorem g_met {l : Launch} {Dd : va_G} {cI cZ : ClassId} {b0 b : Nat} {X : gX} {n : Nat} (IH : g_Goal l Dd cI cZ b0 b X n) {y : Nat} {A : List Value} {g g1 : gS} {v : Option Value} (hp : plainName (g_meth y).2.1.cls = true) (hcl : (g_meth y).2.1.cls = g_own y) (hA : A.length ≤ (g_meth y).2.2.2.1) (hc : (A.all fun v => v.category == 1) = true) (h : EvN X n y 0 (g_l0 y A) [] g (v, g1)) :
    Met l (g_meth y).2.1 (g_ws y) (g_rm y (g1.1 - g.1) (g_slots g1.1 - g_slots g.1)) (g_Pc Dd cI cZ b0 b X A g) (g_Q Dd cI cZ b0 b (v, g1)) (g1.1 - g.1) (g_slots g1.1 - g_slots g.1) (fun q => b ≤ q) := by
  refine Met.ofW (cc := (g_meth y).2.2.1) (maxL := (g_meth y).2.2.2.1) (ret := (g_meth y).2.2.2.2.1) hp rfl ?_
  intro p e s m args below meth c s₁ B hml hv
  obtain ⟨rfl, hbs, hE, hW⟩ := hv
  have hts := atoms_spec (ws := g_ws y) B.pre
  have hown : s.vm.findClass (g_own y) = some m.cls := by rw [← hcl]; exact findClass_of_methodNamed B.named
  have hname : (g_meth y).2.1.name = "<init>" → meth.name = "<init>" := fun q => by rw [← q]; exact (name_of_methodNamed B.named B.method).1
  have hn := EvN_n n h
  have hsl := g_slots_mono hn
  have hcat : ∀ v ∈ A, v.category = 1 := fun v hv => by have := List.all_eq_true.mp hc v hv; simpa using this
  rw [lg_entry_eq]
  exact IH y 0 (g_l0 y A) [] g (v, g1) h p e _ s m _ below meth c s.heap [] 0 0 _ _ _ ⟨⟨B.exec, B.bytes, B.returns, hml, hown⟩, fun w hw => hts w (List.mem_cons_of_mem _ hw), B.notSynchronized, hname, Nat.le_refl _, Nat.le_refl _, hE⟩ (g_LR.entry hcat hA) hW va_S.rf hbs ⟨by dsimp only at hn ⊢; omega, by dsimp only at hn hsl ⊢; omega, Nat.le_refl _, Nat.le_refl _⟩
theorem g_s1_inv {st : List Value} {f : Int32 → List Value → Prop} (k : g_s1 st f) : ∃ a r, st = .int a :: r ∧ f a r := by
  unfold g_s1 at k
  split at k
  · exact ⟨_, _, rfl, k⟩
  · exact k.elim
theorem g_sr_inv {st : List Value} {f : Nat → List Value → Prop} (k : g_sr st f) : ∃ (a : Nat) (r : List Value), st = .ref a :: r ∧ f a r := by
  unfold g_sr at k
  split at k
  · exact ⟨_, _, rfl, k⟩
  · exact k.elim
theorem g_s2_inv {st : List Value} {f : Int32 → Int32 → List Value → Prop} (k : g_s2 st f) : ∃ a b r, st = .int b :: .int a :: r ∧ f a b r := by
  obtain ⟨b, r, e, k⟩ := g_s1_inv k
  obtain ⟨a, r, e2, k⟩ := g_s1_inv k
  exact ⟨a, b, r, by rw [e, e2], k⟩
theorem g_li_inv {L : gLo} {k : Nat} {f : Int32 → Prop} (q : g_li L k f) : ∃ a, g_lg L k = some (.int a) ∧ f a := by
  unfold g_li at q
  split at q
  · next h => exact ⟨_, h, q⟩
  · exact q.elim
theorem g_lr_inv {L : gLo} {k : Nat} {f : Nat → Prop} (q : g_lr L k f) : ∃ a : Nat, g_lg L k = some (.ref a) ∧ f a := by
  unfold g_lr at q
  split at q
  · next h => exact ⟨_, h, q⟩
  · exact q.elim
theorem g_obj_inv {g : gS} {p c : Nat} {P : Prop} (q : g_obj g p c P) : g_shp p = .inr c ∧ p < g.1 ∧ P := by
  unfold g_obj at q
  split at q
  · exact q.elim
  · next h => exact ⟨by rw [h, q.1], q.2⟩
theorem g_ast_inv {z : Bool} {g : gS} {p : Nat} {i v : Int32} {f : gS → Prop} (q : g_ast z g p i v f) : ∃ n, g_shp p = .inl (z, n) ∧ p < g.1 ∧ vp_in i n ∧ f (g.1, g.2.1, g_up g.2.2 p i.toNatClampNeg v) := by
  unfold g_ast at q
  split at q
  · next w h =>
    obtain ⟨w1, w2⟩ := w
    obtain ⟨q1, q2⟩ := q
    dsimp only at q1 q2
    subst q1
    exact ⟨w2, h, q2⟩
  · exact q.elim
theorem g_ald_inv {X : gX} {z : Bool} {g : gS} {p : Nat} {i : Int32} {f : Int32 → Prop} (q : g_ald X z g p i f) : (p = 1000 ∧ z = false ∧ vp_in i X.1 ∧ f (X.2 i.toNatClampNeg)) ∨ (p ≠ 1000 ∧ ∃ n, g_shp p = .inl (z, n) ∧ p < g.1 ∧ vp_in i n ∧ f (g.2.2 p i.toNatClampNeg)) := by
  unfold g_ald at q
  split at q
  · next h => exact Or.inl ⟨h, q⟩
  · next hp =>
    split at q
    · next w h =>
      obtain ⟨w1, w2⟩ := w
      obtain ⟨q1, q2⟩ := q
      dsimp only at q1 q2
      subst q1
      exact Or.inr ⟨hp, w2, h, q2⟩
    · exact q.elim
theorem g_cv_ref {b0 b p : Nat} (h : p ≠ 1000) : g_cv b0 b (.ref p) = .ref (b + p) := by
  simp only [g_cv, if_neg h]
theorem g_pops_eq : ∀ (n : Nat) (st acc A r : List Value), g_pops n st acc = some (A, r) → A.length = n + acc.length ∧ A.reverse ++ r = acc.reverse ++ st
  | 0, st, acc, A, r, h => by
    simp only [g_pops, Option.some.injEq, Prod.mk.injEq] at h
    obtain ⟨rfl, rfl⟩ := h
    exact ⟨by omega, rfl⟩
  | n + 1, [], acc, A, r, h => by cases h
  | n + 1, v :: st, acc, A, r, h => by
    obtain ⟨h1, h2⟩ := g_pops_eq n st (v :: acc) A r h
    refine ⟨by rw [h1, List.length_cons]; omega, ?_⟩
    rw [h2]
    simp
section GSIM
variable {p : Program} {l : Launch} {e : Env} {R : Room} {s : State} {mm : MethodId} {args : Array Value} {below : List Frame} {meth : Method} {c : Code} {H : Heap} {locs : List Loc} {cells slots : Nat} {Q : State → Prop} {Dd : va_G} {cI cZ : ClassId} {b0 b : Nat} {X : gX}
theorem g_after {pc mc' ms' : Nat} {ls : Array Slot} {st0 rest : List Value} {v : Option Value} {g g1 : gS} {a' : Array Value} (hr : va_Run p l e R s mm args below meth c H locs cells slots mc' ms' (F0 mm pc ls st0) rest (g_Q Dd cI cZ b0 b (v, g1) a') (fun q => b ≤ q)) (hW : g_WH Dd cI cZ b0 b X g s H) (hS : va_S (fun q => b ≤ q) s.heap H locs) (hn : g.1 ≤ g1.1) (hbs : b ≤ s.heap.size)
    (kk : ∀ (H1 : Heap) (locs1 : List Loc), g_WH Dd cI cZ b0 b X g1 s H1 → va_S (fun q => b ≤ q) s.heap H1 locs1 → W p l e R s mm args below meth c H1 locs1 (cells + mc') (slots + ms') Q (F0 mm (pc + 3) ls ((v.map (g_cv b0 b)).toList ++ rest))) : W p l e R s mm args below meth c H locs cells slots Q (F0 mm pc ls st0) := by
  intro T hT X'
  obtain ⟨w, st₀, t, T', Lc, h0, X1, hL, e1, e2, ⟨hq1, hq2, hq3⟩, st⟩ := hr T hT X'
  have hw : w = v.map (g_cv b0 b) := Outcome.returned.inj hq1
  subst hw
  have hz : T'.heap.size = b + g1.1 := by rw [e1]; exact hq2.1
  have hz0 : H.size = b + g.1 := hW.1.1
  obtain ⟨t2, a1, b1⟩ := kk T'.heap (locs ++ Lc) ⟨by rw [e1]; exact hq2, hW.2.1, g_X.kept hW.2.1 hW.2.2 (fun q hq => by rw [e1, hq3 q hq, h0])⟩
    ⟨by have := hS.1; omega, fun q h1 h2 => by rw [e1, hq3 q (by omega), h0]; exact hS.2.1 q h1 h2, fun q hq => by
      rcases List.mem_append.mp hq with h | h
      · exact hS.2.2 q h
      · exact hL q h⟩ T' rfl X1
  exact ⟨t2, st t2 a1, b1⟩
/-- the callee's contract, its words, its start: for all kinds of call -/
theorem g_pre {A : List Value} {g : gS} (hEn : g_En Dd cI cZ s) (hW : g_WH Dd cI cZ b0 b X g s H) : ∀ U : State, U.heap = H → s.WarmedH U.vm → g_Pc Dd cI cZ b0 b X A g (A.map (g_cv b0 b)).toArray U := by
  intro U hU hWm
  refine ⟨rfl, ?_, hEn.warm hWm, ?_, hW.2.1, ?_⟩
  · rw [hU, hW.1.1]; omega
  · rw [hU]; exact hW.1
  · rw [hU]; exact va_X.moved hWm.alike hW.2.2
end GSIM
theorem g_push_map (b0 b : Nat) (v : Option Value) (r : List Value) : (g_push v r).map (g_cv b0 b) = (v.map (g_cv b0 b)).toList ++ r.map (g_cv b0 b) := by cases v <;> rfl
theorem g_cls_nm {c : Nat} {q : vw_C} (h : g_cls[c]? = some q) : q.1 = g_nm c := by
  match c, h with
  | 0, h => cases h; rfl
  | 1, h => cases h; rfl
  | 2, h => cases h; rfl
  | 3, h => cases h; rfl
  | 4, h => cases h; rfl
  | c + 5, h => simp [g_cls] at h
section GSIN
variable {p : Program} {l : Launch} {e : Env} {R : Room} {s : State} {mm : MethodId} {args : Array Value} {below : List Frame} {meth : Method} {c : Code} {H : Heap} {locs : List Loc} {cells slots mc ms : Nat} {Q : State → Prop} {Dd : va_G} {cI cZ : ClassId} {b0 b : Nat} {X : gX} {n m pc : Nat} {L : gLo} {ls : Array Slot} {g : gS} {rr : gR}
theorem g_cont (IH : g_Goal l Dd cI cZ b0 b X n) {r st0 : List Value} {v : Option Value} {g1 : gS} {a' : Array Value} (h4 : EvN X n m (pc + 3) L (g_push v r) g1 rr) (hn : g.1 ≤ g1.1) (hC : g_Cx Dd cI cZ p R s mm args meth c m) (hL : g_LR b0 b ls (g_meth m).2.2.2.1 L) (hW : g_WH Dd cI cZ b0 b X g s H) (hS : va_S (fun q => b ≤ q) s.heap H locs) (hbs : b ≤ s.heap.size)
    (hR : cells + rr.2.1 = mc + g.1 ∧ slots + g_slots rr.2.1 = ms + g_slots g.1 ∧ mc ≤ R.cells ∧ ms ≤ R.slots)
    (hr : cells + (g1.1 - g.1) ≤ R.cells ∧ slots + (g_slots g1.1 - g_slots g.1) ≤ R.slots → va_Run p l e R s mm args below meth c H locs cells slots (g1.1 - g.1) (g_slots g1.1 - g_slots g.1) (F0 mm pc ls st0) (r.map (g_cv b0 b)) (g_Q Dd cI cZ b0 b (v, g1) a') (fun q => b ≤ q)) :
    W p l e R s mm args below meth c H locs cells slots (MQ below (g_Q Dd cI cZ b0 b rr) args s mc ms (fun q => b ≤ q)) (F0 mm pc ls st0) := by
  have hn2 := EvN_n n h4
  have hs1 := g_slots_mono hn
  have hs2 := g_slots_mono hn2
  obtain ⟨r1, r2, r3, r4⟩ := hR
  refine g_after (hr ⟨by omega, by omega⟩) hW hS hn hbs (fun H1 locs1 hW1 hS1 => ?_)
  have := IH m (pc + 3) L (g_push v r) g1 rr h4 p e R s mm args below meth c H1 locs1 (cells + (g1.1 - g.1)) (slots + (g_slots g1.1 - g_slots g.1)) mc ms ls hC hL hW1 hS1 hbs ⟨by omega, by omega, r3, r4⟩
  rw [g_push_map] at this
  exact this
/-- what a link's words say -/
theorem g_lk_words {k y cn kd p1 p2 p3 p4 p5 : Nat} (h : (k, y, cn, kd, p1, p2, p3, p4, p5) ∈ g_lk) : g_okL (k, y, cn, kd, p1, p2, p3, p4, p5) = true := g_lk_ok _ h
theorem g_runV (IH : g_Goal l Dd cI cZ b0 b X n) (hC : g_Cx Dd cI cZ p R s mm args meth c m) (hL : g_LR b0 b ls (g_meth m).2.2.2.1 L) (hW : g_WH Dd cI cZ b0 b X g s H) {k y q : Nat} {A r st : List Value} {v : Option Value} {g1 : gS}
    (hlk : g_lk.any (fun q => decide (q.1 = k) && decide (q.2.1 = y) && decide (q.2.2.1 = (g_meth m).1) && decide (q.2.2.2.1 = 0)) = true) (hnb : A.length = (g_meth y).2.2.2.2.2.2.2) (hf1 : (g_meth y).2.2.2.2.2.1 + 1 ≤ (g_meth m).2.2.2.2.2.1) (hf2 : 8 + ((g_meth y).2.2.2.1 + 11) + (g_meth y).2.2.2.2.2.2.1 ≤ (g_meth m).2.2.2.2.2.2.1)
    (hdg : decode (g_meth m).2.2.1 pc = .ok (.invokevirtual k, 3)) (hst : (Value.ref q :: A).reverse ++ r = st) (ho : g_shp q = .inr (g_meth y).1) (hq : q < g.1) (hcat : (r.map fun v => v.category).sum ≤ 8) (hA : (Value.ref q :: A).length ≤ (g_meth y).2.2.2.1) (hAc : ((Value.ref q :: A).all fun v => v.category == 1) = true) (h3 : EvN X n y 0 (g_l0 y (.ref q :: A)) [] g (v, g1))
    (hf : cells + (g1.1 - g.1) ≤ R.cells ∧ slots + (g_slots g1.1 - g_slots g.1) ≤ R.slots) :
    ∃ a', va_Run p l e R s mm args below meth c H locs cells slots (g1.1 - g.1) (g_slots g1.1 - g_slots g.1) (F0 mm pc ls (st.map (g_cv b0 b))) (r.map (g_cv b0 b)) (g_Q Dd cI cZ b0 b (v, g1) a') (fun q => b ≤ q) := by
  obtain ⟨⟨hx, hb, hret, hml, hown⟩, hts, hlocks, hname, hfr, hlo, hEn⟩ := hC
  obtain ⟨⟨k', y', cn, kd, p1, p2, p3, p4, p5⟩, hmem, hh⟩ := List.any_eq_true.mp hlk
  simp only [Bool.and_eq_true, decide_eq_true_eq] at hh
  obtain ⟨⟨⟨rfl, rfl⟩, rfl⟩, rfl⟩ := hh
  have hw := g_lk_ok _ hmem
  simp only [g_okL, Bool.and_eq_true, decide_eq_true_eq] at hw
  obtain ⟨⟨⟨⟨⟨⟨⟨w1, w2⟩, w3⟩, w4⟩, w5⟩, w6⟩, w7⟩, ⟨w8, w9⟩, w10⟩ := hw
  have hq1000 : q ≠ 1000 := by have := hW.1.2.1; omega
  have hM := g_met IH (y := y') (A := .ref q :: A) w6 w1 hA hAc h3
  have hpl := hW.1.2.2 q hq
  unfold g_pl at hpl
  rw [ho] at hpl
  obtain ⟨rc, hrc, cell, hc1, hc2, hc3, hc4⟩ := hpl
  have hkn := (hEn.1.1 _ _ hrc).2.1
  refine ⟨_, va_runV (As := A.map (g_cv b0 b)) (rest := r.map (g_cv b0 b)) (b := b + q) (C := (g_meth y').2.1.cls) ⟨hx, hb, hml, hown, hts⟩ hM
    ⟨callB_of (g_meth y').2.2.2.2.2.2.2 hts (g_good (g_memT w2)) rfl rfl rfl (hts _ (g_memT w3)) (hts _ (g_memT w8)) ⟨w4, w5, w7⟩ ⟨Nat.le_trans hf1 hfr, Nat.le_trans hf2 hlo⟩, hts _ (g_memT w9), hts _ (g_memT w10)⟩
    ⟨g_Pc.blind, ⟨cell, hc1, by rw [hc3]; rfl, by rw [w1, ← g_cls_nm hrc, hc2]; exact hkn⟩, ?_⟩ rfl (by rw [List.length_map]; exact hnb) hL.1.1 ?_ ?_ hdg hf⟩
  · have := g_pre (A := .ref q :: A) hEn hW
    rw [List.map_cons, g_cv_ref hq1000] at this
    exact this
  · rw [← hst]
    simp [g_cv_ref hq1000]
  · refine lv_room ?_
    rw [List.map_map]
    have : ((fun v => v.category) ∘ g_cv b0 b) = fun v : Value => v.category := funext fun v => g_cv_cat b0 b v
    rw [this]
    exact hcat
theorem g_runS (IH : g_Goal l Dd cI cZ b0 b X n) (hC : g_Cx Dd cI cZ p R s mm args meth c m) (hL : g_LR b0 b ls (g_meth m).2.2.2.1 L) (hW : g_WH Dd cI cZ b0 b X g s H) {k y : Nat} {A r st : List Value} {v : Option Value} {g1 : gS}
    (hlk : g_lk.any (fun q => decide (q.1 = k) && decide (q.2.1 = y) && decide (q.2.2.1 = (g_meth m).1) && (decide (q.2.2.2.1 = 1) || decide (q.2.2.2.1 = 2))) = true) (hnb : A.length = (g_meth y).2.2.2.2.2.2.2) (hf1 : (g_meth y).2.2.2.2.2.1 + 1 ≤ (g_meth m).2.2.2.2.2.1) (hf2 : 8 + ((g_meth y).2.2.2.1 + 11) + (g_meth y).2.2.2.2.2.2.1 ≤ (g_meth m).2.2.2.2.2.2.1)
    (hdg : decode (g_meth m).2.2.1 pc = .ok (.invokestatic k, 3)) (hst : A.reverse ++ r = st) (hcat : (r.map fun v => v.category).sum ≤ 8) (hA : A.length ≤ (g_meth y).2.2.2.1) (hAc : (A.all fun v => v.category == 1) = true) (h3 : EvN X n y 0 (g_l0 y A) [] g (v, g1))
    (hf : cells + (g1.1 - g.1) ≤ R.cells ∧ slots + (g_slots g1.1 - g_slots g.1) ≤ R.slots) :
    ∃ a', va_Run p l e R s mm args below meth c H locs cells slots (g1.1 - g.1) (g_slots g1.1 - g_slots g.1) (F0 mm pc ls (st.map (g_cv b0 b))) (r.map (g_cv b0 b)) (g_Q Dd cI cZ b0 b (v, g1) a') (fun q => b ≤ q) := by
  obtain ⟨⟨hx, hb, hret, hml, hown⟩, hts, hlocks, hname, hfr, hlo, hEn⟩ := hC
  obtain ⟨⟨k', y', cn, kd, p1, p2, p3, p4, p5⟩, hmem, hh⟩ := List.any_eq_true.mp hlk
  simp only [Bool.and_eq_true, Bool.or_eq_true, decide_eq_true_eq] at hh
  obtain ⟨⟨⟨rfl, rfl⟩, rfl⟩, hkd⟩ := hh
  have hw := g_lk_ok _ hmem
  have hroom : 2 * (F0 mm pc ls (st.map (g_cv b0 b))).monitorRoom + ((r.map (g_cv b0 b)).map fun v => v.category).sum ≤ 8 := by
    refine lv_room ?_
    rw [List.map_map]
    have : ((fun v => v.category) ∘ g_cv b0 b) = fun v : Value => v.category := funext fun v => g_cv_cat b0 b v
    rw [this]
    exact hcat
  rcases hkd with rfl | rfl
  · simp only [g_okL, Bool.and_eq_true, decide_eq_true_eq] at hw
    obtain ⟨⟨⟨⟨⟨⟨⟨w1, w2⟩, w3⟩, w4⟩, w5⟩, w6⟩, w7⟩, w8, w9⟩ := hw
    have hM := g_met IH (y := y') (A := A) w6 w1 hA hAc h3
    exact ⟨_, va_runS (As := A.map (g_cv b0 b)) (rest := r.map (g_cv b0 b)) ⟨hx, hb, hml, hown, hts⟩ hM
      ⟨callB_of (g_meth y').2.2.2.2.2.2.2 hts (g_good (g_memT w2)) rfl rfl rfl (hts _ (g_memT w3)) (hts _ (g_memT w8)) ⟨w4, w5, w7⟩ ⟨Nat.le_trans hf1 hfr, Nat.le_trans hf2 hlo⟩, hts _ (g_memT w9)⟩
      ⟨g_Pc.blind, g_pre hEn hW⟩ rfl (by rw [List.length_map]; exact hnb) hL.1.1 (by rw [← hst]; simp) hroom hdg hf⟩
  · simp only [g_okL, Bool.and_eq_true, decide_eq_true_eq] at hw
    obtain ⟨⟨⟨⟨⟨⟨⟨w1, w2⟩, w3⟩, w4⟩, w5⟩, w6⟩, w7⟩, w8, w9⟩ := hw
    have hM := g_met IH (y := y') (A := A) w6 w1 hA hAc h3
    have hg := g_good (g_memT w2)
    have hcb := va_cnB (R := R) (rm := g_rm y' (g1.1 - g.1) (g_slots g1.1 - g_slots g.1)) (g_meth y').2.2.2.2.2.2.2 hts hg rfl rfl rfl (hEn.2 _ w8) (hts _ (g_memT w3)) ⟨w4, w5, w7⟩ ⟨Nat.le_trans hf1 hfr, Nat.le_trans hf2 hlo⟩
    exact ⟨_, va_runSN (As := A.map (g_cv b0 b)) (rest := r.map (g_cv b0 b)) ⟨hx, hb, hml, hown, hts⟩ hM
      ⟨hcb, hts _ (g_memT w9), trivial⟩
      ⟨g_Pc.blind, g_pre hEn hW⟩ rfl (by rw [List.length_map]; exact hnb) hL.1.1 (by rw [← hst]; simp) hroom hdg hf⟩
theorem g_runI (IH : g_Goal l Dd cI cZ b0 b X n) (hC : g_Cx Dd cI cZ p R s mm args meth c m) (hL : g_LR b0 b ls (g_meth m).2.2.2.1 L) (hW : g_WH Dd cI cZ b0 b X g s H) {k y q : Nat} {A r st : List Value} {v : Option Value} {g1 : gS}
    (hlk : g_lk.any (fun q => decide (q.1 = k) && decide (q.2.1 = y) && decide (q.2.2.1 = (g_meth m).1) && (decide (q.2.2.2.1 = 3) || decide (q.2.2.2.1 = 4))) = true) (hnb : A.length = (g_meth y).2.2.2.2.2.2.2) (hf1 : (g_meth y).2.2.2.2.2.1 + 1 ≤ (g_meth m).2.2.2.2.2.1) (hf2 : 8 + ((g_meth y).2.2.2.1 + 11) + (g_meth y).2.2.2.2.2.2.1 ≤ (g_meth m).2.2.2.2.2.2.1)
    (hdg : decode (g_meth m).2.2.1 pc = .ok (.invokespecial k, 3)) (hst : (Value.ref q :: A).reverse ++ r = st) (hcat : (r.map fun v => v.category).sum ≤ 8) (hA : (Value.ref q :: A).length ≤ (g_meth y).2.2.2.1) (hAc : ((Value.ref q :: A).all fun v => v.category == 1) = true) (h3 : EvN X n y 0 (g_l0 y (.ref q :: A)) [] g (v, g1))
    (hf : cells + (g1.1 - g.1) ≤ R.cells ∧ slots + (g_slots g1.1 - g_slots g.1) ≤ R.slots) :
    ∃ a', va_Run p l e R s mm args below meth c H locs cells slots (g1.1 - g.1) (g_slots g1.1 - g_slots g.1) (F0 mm pc ls (st.map (g_cv b0 b))) (r.map (g_cv b0 b)) (g_Q Dd cI cZ b0 b (v, g1) a') (fun q => b ≤ q) := by
  obtain ⟨⟨hx, hb, hret, hml, hown⟩, hts, hlocks, hname, hfr, hlo, hEn⟩ := hC
  obtain ⟨⟨k', y', cn, kd, p1, p2, p3, p4, p5⟩, hmem, hh⟩ := List.any_eq_true.mp hlk
  simp only [Bool.and_eq_true, Bool.or_eq_true, decide_eq_true_eq] at hh
  obtain ⟨⟨⟨rfl, rfl⟩, rfl⟩, hkd⟩ := hh
  have hw := g_lk_ok _ hmem
  have hroom : 2 * (F0 mm pc ls (st.map (g_cv b0 b))).monitorRoom + ((r.map (g_cv b0 b)).map fun v => v.category).sum ≤ 8 := by
    refine lv_room ?_
    rw [List.map_map]
    have : ((fun v => v.category) ∘ g_cv b0 b) = fun v : Value => v.category := funext fun v => g_cv_cat b0 b v
    rw [this]
    exact hcat
  have hpre := g_pre (A := .ref q :: A) hEn hW
  rw [List.map_cons, show g_cv b0 b (.ref q) = .ref (if q = 1000 then b0 else b + q) from rfl] at hpre
  have hstk : st.map (g_cv b0 b) = (A.map (g_cv b0 b)).reverse ++ Value.ref (if q = 1000 then b0 else b + q) :: r.map (g_cv b0 b) := by
    rw [← hst]
    simp [g_cv]
  rcases hkd with rfl | rfl
  · simp only [g_okL, Bool.and_eq_true, decide_eq_true_eq] at hw
    obtain ⟨⟨⟨⟨⟨⟨⟨w1, w2⟩, w3⟩, w4⟩, w5⟩, w6⟩, w7⟩, ⟨⟨w8, w9⟩, w10⟩, w11⟩ := hw
    have hM := g_met IH (y := y') (A := .ref q :: A) w6 w1 hA hAc h3
    have hg := g_good (g_memT w2)
    have hcb := callB_of (R := R) (rm := g_rm y' (g1.1 - g.1) (g_slots g1.1 - g_slots g.1)) (g_meth y').2.2.2.2.2.2.2 hts hg rfl rfl rfl (hts _ (g_memT w3)) (hts _ (g_memT w8)) ⟨w4, w5, w7⟩ ⟨Nat.le_trans hf1 hfr, Nat.le_trans hf2 hlo⟩
    rw [w11] at hcb
    exact ⟨_, va_runI (As := A.map (g_cv b0 b)) (rest := r.map (g_cv b0 b)) (b := if q = 1000 then b0 else b + q) ⟨hx, hb, hml, hown, hts⟩ hM
      ⟨hcb, w10, hts _ (g_memT w9)⟩
      ⟨g_Pc.blind, hpre⟩ rfl (by rw [List.length_map]; exact hnb) hL.1.1 hstk hroom hdg hf⟩
  · simp only [g_okL, Bool.and_eq_true, decide_eq_true_eq] at hw
    obtain ⟨⟨⟨⟨⟨⟨⟨w1, w2⟩, w3⟩, w4⟩, w5⟩, w6⟩, w7⟩, ⟨⟨w8, w9⟩, w10⟩, w11⟩ := hw
    have hM := g_met IH (y := y') (A := .ref q :: A) w6 w1 hA hAc h3
    have hg := g_good (g_memT w2)
    have hcb := va_cnB (R := R) (rm := g_rm y' (g1.1 - g.1) (g_slots g1.1 - g_slots g.1)) (g_meth y').2.2.2.2.2.2.2 hts hg rfl rfl rfl (hEn.2 _ w8) (hts _ (g_memT w3)) ⟨w4, w5, w7⟩ ⟨Nat.le_trans hf1 hfr, Nat.le_trans hf2 hlo⟩
    rw [w11] at hcb
    exact ⟨_, va_runIN (As := A.map (g_cv b0 b)) (rest := r.map (g_cv b0 b)) (b := if q = 1000 then b0 else b + q) ⟨hx, hb, hml, hown, hts⟩ hM
      ⟨hcb, w10, hts _ (g_memT w9)⟩
      ⟨g_Pc.blind, hpre⟩ rfl (by rw [List.length_map]; exact hnb) hL.1.1 hstk hroom hdg hf⟩
end GSIN
