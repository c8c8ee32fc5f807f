/-! What the tables must say of each row of the code; held by the kernel. -/
def g_tbl : List Jvm.Cond := lw_tbl.filter goodWord
def g_sub (k : Nat) : List Jvm.Cond := match k with
  | 0 => k2_sels lw_privs
  | 1 => tables_1_1
  | 2 => tables_1_2
  | 3 => tables_1_3
  | _ => tables_1_4
theorem g_sub_in {k : Nat} {w : Jvm.Cond} (h : w ∈ g_sub k) : w ∈ lw_tbl := by
  unfold g_sub at h
  unfold lw_tbl tables_1
  split at h <;> simp [h]
def g_mem (p : Nat) (w : Jvm.Cond) : Bool := decide ((g_sub (p / 1000))[p % 1000]? = some w) && goodWord w
theorem g_memT {p : Nat} {w : Jvm.Cond} (h : g_mem p w = true) : w ∈ g_tbl := by
  simp only [g_mem, Bool.and_eq_true, decide_eq_true_eq] at h
  exact List.mem_filter.mpr ⟨g_sub_in (List.mem_of_getElem? h.1), h.2⟩
def g_nm (c : Nat) : String := g_CN.getD c ""
def g_own (m : Nat) : String := g_nm (g_meth m).1
/-- a field link -/
def g_okF (e : Nat × Nat × Nat × Nat × Nat) : Bool := match g_cls[e.2.1]? with
  | some q => decide (e.2.2.1 < q.2.2) && g_mem e.2.2.2.2 (.fieldLink (g_nm e.2.2.2.1) e.1 (q.2.1 e.2.2.1).1 (q.2.1 e.2.2.1).2.1 (q.2.1 e.2.2.1).2.2.1)
  | none => false
/-- a method link -/
def g_okL (e : Nat × Nat × Nat × Nat × Nat × Nat × Nat × Nat × Nat) : Bool :=
  let own := g_nm e.2.2.1
  let M := g_meth e.2.1
  let y := M.2.1
  decide (y.cls = g_nm M.1) && g_mem e.2.2.2.2.2.2.2.2 (.code y M.2.2.1 M.2.2.2.1 M.2.2.2.2.1) && g_mem e.2.2.2.2.2.2.2.1 (.initialized y.cls) &&
  decide (y.cls ≠ "java/lang/invoke/MethodHandle") && decide (y.cls ≠ "java/lang/invoke/VarHandle") && plainName y.cls && decide ((parseMethodDescriptor y.desc).map (fun d => d.parameters.length) = some M.2.2.2.2.2.2.2) &&
  (match e.2.2.2.1 with
  | 0 => g_mem e.2.2.2.2.1 (.methodLink own e.1 y) && g_mem e.2.2.2.2.2.1 (.instanceMethod y) && g_mem e.2.2.2.2.2.2.1 (.selects y.cls y y)
  | 1 => g_mem e.2.2.2.2.1 (.methodLink own e.1 y) && g_mem e.2.2.2.2.2.1 (.static y)
  | 2 => decide ((own, e.1, y) ∈ g_nest) && g_mem e.2.2.2.2.2.1 (.static y)
  | 3 => g_mem e.2.2.2.2.1 (.methodLink own e.1 y) && g_mem e.2.2.2.2.2.1 (.instanceMethod y) && decide (y.name = "<init>") && decide (M.2.2.2.2.1 = none)
  | _ => decide ((own, e.1, y) ∈ g_nest) && g_mem e.2.2.2.2.2.1 (.instanceMethod y) && decide (y.name = "<init>") && decide (M.2.2.2.2.1 = none))
theorem g_fl_ok : ∀ e ∈ g_fl, g_okF e = true := by decide +kernel
theorem g_lk_ok0 : ∀ e ∈ g_lk_0, g_okL e = true := by decide +kernel
theorem g_lk_ok1 : ∀ e ∈ g_lk_1, g_okL e = true := by decide +kernel
theorem g_lk_ok2 : ∀ e ∈ g_lk_2, g_okL e = true := by decide +kernel
theorem g_lk_ok3 : ∀ e ∈ g_lk_3, g_okL e = true := by decide +kernel
theorem g_lk_ok : ∀ e ∈ g_lk, g_okL e = true := by
  intro e he
  simp only [g_lk, List.mem_append] at he
  rcases he with ((he | he) | he) | he
  · exact g_lk_ok0 e he
  · exact g_lk_ok1 e he
  · exact g_lk_ok2 e he
  · exact g_lk_ok3 e he
def g_okC (e : Nat × Int32 × Nat × Nat) : Bool := g_mem e.2.2.2 (.constant (g_nm e.2.2.1) e.1 e.2.1)
theorem g_cs_ok : ∀ e ∈ g_cs, g_okC e = true := by decide +kernel
def g_okO (e : Nat × Nat × Nat) : Bool := g_mem e.2.2 (.methodLink (g_nm e.2.1) e.1 objectInit)
theorem g_ob_ok : ∀ e ∈ g_ob, g_okO e = true := by decide +kernel
theorem g_obI_ok : g_mem g_obI (.instanceMethod objectInit) = true := by decide +kernel
theorem g_obC_ok : g_mem g_obC (.code objectInit ⟨#[0xb1]⟩ 1 none) = true := by decide +kernel
def g_okX (e : Nat × Nat × Nat) : Bool := g_mem e.2.2 (.methodLink (g_nm e.2.1) e.1 Lib.Math.max.name)
theorem g_mx_ok : ∀ e ∈ g_mx, g_okX e = true := by decide +kernel
theorem g_mxS_ok : g_mem g_mxS (.static Lib.Math.max.name) = true := by decide +kernel
theorem g_mxI_ok : g_mem g_mxI (.initialized "java/lang/Math") = true := by decide +kernel
theorem g_mxC_ok : g_mem g_mxC (.code Lib.Math.max.name Lib.Math.max.code 2 (some .int)) = true := by decide +kernel
def g_okN (e : Nat × Nat × Nat × Nat × Nat × Nat) : Bool := match g_cls[e.2.1]? with
  | some q => g_mem e.2.2.2.1 (.classLink (g_nm e.2.2.1) e.1 q.1) && g_mem e.2.2.2.2.1 (.instantiable q.1 q.2.2) && g_mem e.2.2.2.2.2 (.initialized q.1)
  | none => false
theorem g_nw_ok : ∀ e ∈ g_nw, g_okN e = true := by decide +kernel
theorem g_ai_ok : g_mem g_ai (.arrayClass .int) = true := by decide +kernel
theorem g_az_ok : g_mem g_az (.arrayClass .boolean) = true := by decide +kernel
/-- a row of the code -/
def g_okI (m : Nat) (e : Nat × gI) : Bool :=
  let M := g_meth m
  let pc := e.1
  let D := decode M.2.2.1 pc
  let a := e.2.2.1
  let b := e.2.2.2.1
  let z := e.2.2.2.2
  match e.2.1 with
  | .iconst v => decide (D = .ok (.iconst v, 1)) && decide (Int32.ofInt v = z)
  | .bipush v => decide (D = .ok (.bipush v, 2)) && decide ((Int8.ofInt v).toInt32 = z)
  | .sipush v => decide (D = .ok (.sipush v, 3)) && decide ((Int16.ofInt v).toInt32 = z)
  | .ldc k => decide (D = .ok (.ldc k, 2)) && g_cs.any (fun q => decide (q.1 = k) && decide (q.2.1 = z) && decide (q.2.2.1 = M.1))
  | .ldc_w k => decide (D = .ok (.ldc_w k, 3)) && g_cs.any (fun q => decide (q.1 = k) && decide (q.2.1 = z) && decide (q.2.2.1 = M.1))
  | .iload k => decide (D = .ok (.iload k, 2))
  | .aload k => decide (D = .ok (.aload k, 2))
  | .istore k => decide (D = .ok (.istore k, 2))
  | .astore k => decide (D = .ok (.astore k, 2))
  | .iinc k v => decide (D = .ok (.iinc k v, 3)) && decide (Int32.ofInt v = z)
  | .goto o => decide (D = .ok (.goto o, 3)) && decide ((pc : Int) + o = (a : Int))
  | .if_icmp c o => decide (D = .ok (.if_icmp c o, 3)) && decide ((pc : Int) + o = (a : Int))
  | .ifCond c o => decide (D = .ok (.ifCond c o, 3)) && decide ((pc : Int) + o = (a : Int))
  | .tableswitch d lo hi offs => (match D with
    | .ok (j, _) => decide (j = .tableswitch d lo hi offs)
    | _ => false) && decide (0 ≤ (pc : Int) + d) && decide (hi - lo < (offs.size : Int)) && offs.toList.all (fun o => decide (0 ≤ (pc : Int) + o))
  | .getfield k => decide (D = .ok (.getfield k, 3)) && g_fl.any (fun q => decide (q.1 = k) && decide (q.2.1 = a) && decide (q.2.2.1 = b) && decide (q.2.2.2.1 = M.1))
  | .putfield k => decide (D = .ok (.putfield k, 3)) && g_fl.any (fun q => decide (q.1 = k) && decide (q.2.1 = a) && decide (q.2.2.1 = b) && decide (q.2.2.2.1 = M.1)) &&
      (match g_cls[a]? with
      | some q => !(q.2.1 b).2.2.2 || (decide (M.2.1.name = "<init>") && decide ((q.2.1 b).1 = g_nm M.1))
      | none => false)
  | .new k => decide (D = .ok (.new k, 3)) && g_nw.any (fun q => decide (q.1 = k) && decide (q.2.1 = a) && decide (q.2.2.1 = M.1))
  | .newarray t => decide (D = .ok (.newarray t, 2))
  | .invokestatic k => decide (D = .ok (.invokestatic k, 3)) && (if a = 998 then g_mx.any (fun q => decide (q.1 = k) && decide (q.2.1 = M.1)) && decide (1 ≤ M.2.2.2.2.2.1) && decide (21 ≤ M.2.2.2.2.2.2.1) else g_lk.any (fun q => decide (q.1 = k) && decide (q.2.1 = a) && decide (q.2.2.1 = M.1) && (decide (q.2.2.2.1 = 1) || decide (q.2.2.2.1 = 2))) && decide (b = (g_meth a).2.2.2.2.2.2.2) && decide ((g_meth a).2.2.2.2.2.1 + 1 ≤ M.2.2.2.2.2.1) && decide (8 + ((g_meth a).2.2.2.1 + 11) + (g_meth a).2.2.2.2.2.2.1 ≤ M.2.2.2.2.2.2.1))
  | .invokevirtual k => decide (D = .ok (.invokevirtual k, 3)) && g_lk.any (fun q => decide (q.1 = k) && decide (q.2.1 = a) && decide (q.2.2.1 = M.1) && decide (q.2.2.2.1 = 0)) && decide (b = (g_meth a).2.2.2.2.2.2.2) && decide ((g_meth a).2.2.2.2.2.1 + 1 ≤ M.2.2.2.2.2.1) && decide (8 + ((g_meth a).2.2.2.1 + 11) + (g_meth a).2.2.2.2.2.2.1 ≤ M.2.2.2.2.2.2.1)
  | .invokespecial k => decide (D = .ok (.invokespecial k, 3)) && (if a = 999 then g_ob.any (fun q => decide (q.1 = k) && decide (q.2.1 = M.1)) && decide (1 ≤ M.2.2.2.2.2.1) && decide (12 ≤ M.2.2.2.2.2.2.1) else
      g_lk.any (fun q => decide (q.1 = k) && decide (q.2.1 = a) && decide (q.2.2.1 = M.1) && (decide (q.2.2.2.1 = 3) || decide (q.2.2.2.1 = 4))) && decide (b = (g_meth a).2.2.2.2.2.2.2) && decide ((g_meth a).2.2.2.2.2.1 + 1 ≤ M.2.2.2.2.2.1) && decide (8 + ((g_meth a).2.2.2.1 + 11) + (g_meth a).2.2.2.2.2.2.1 ≤ M.2.2.2.2.2.2.1))
  | i => decide (D = .ok (i, 1))
