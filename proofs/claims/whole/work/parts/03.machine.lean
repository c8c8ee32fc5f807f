/-! A small machine of its own: places instead of addresses. The state: how many cells stand, what the reference fields hold, what the int fields and the arrays hold. -/
abbrev gLo : Type := List (Option Value)
abbrev gS : Type := Nat × (Nat → Nat → Option Nat) × (Nat → Nat → Int32)
abbrev gR : Type := Option Value × gS
abbrev gX : Type := Nat × (Nat → Int32)
def g_lg : gLo → Nat → Option Value
  | [], _ => none
  | a :: _, 0 => a
  | _ :: l, k + 1 => g_lg l k
def g_ls : gLo → Nat → Value → gLo
  | [], _, _ => []
  | _ :: l, 0, v => some v :: l
  | a :: l, k + 1, v => a :: g_ls l k v
def g_up (σ : Nat → Nat → Int32) (p k : Nat) (v : Int32) : Nat → Nat → Int32 := fun q => if q = p then upd (σ q) k v else σ q
def g_ur (ρ : Nat → Nat → Option Nat) (p k : Nat) (v : Option Nat) : Nat → Nat → Option Nat := fun q j => if q = p then (if j = k then v else ρ q j) else ρ q j
def g_tyf : Nat → Nat → FieldType := fun c => match c with
  | 0 => tyX0
  | 1 => tyX1
  | 2 => tyX2
  | 3 => tyX3
  | _ => tyX4
def g_isR (c k : Nat) : Bool := match g_tyf c k with
  | .int => false
  | _ => true
def g_av (ρ : Nat → Nat → Option Nat) (σ : Nat → Nat → Int32) (p c k : Nat) : Value := if g_isR c k then va_rf (ρ p k) else .int (σ p k)
def g_sz (p : Nat) : Nat := match g_shp p with
  | .inl q => q.2
  | .inr c => match c with
    | 0 => 9
    | 1 => 14
    | 2 => 6
    | 3 => 16
    | _ => 25
def g_slots : Nat → Nat
  | 0 => 0
  | n + 1 => g_slots n + g_sz n
def g_look : List (Nat × gI) → Nat → Option gI
  | [], _ => none
  | (q, i) :: l, p => if q = p then some i else g_look l p
def g_at (m pc : Nat) : Option gI := g_look (g_code m) pc
def g_pops : Nat → List Value → List Value → Option (List Value × List Value)
  | 0, st, acc => some (acc, st)
  | n + 1, v :: st, acc => g_pops n st (v :: acc)
  | _ + 1, [], _ => none
def g_l0 (m : Nat) (A : List Value) : gLo := A.map some ++ List.replicate ((g_meth m).2.2.2.1 - A.length) none
def g_push : Option Value → List Value → List Value
  | none, r => r
  | some v, r => v :: r
def g_isZ (m : Nat) : Bool := match (g_meth m).2.2.2.2.1 with
  | some .boolean => true
  | _ => false
def g_s1 (st : List Value) (f : Int32 → List Value → Prop) : Prop := match st with
  | .int a :: r => f a r
  | _ => False
def g_sr (st : List Value) (f : Nat → List Value → Prop) : Prop := match st with
  | .ref a :: r => f a r
  | _ => False
def g_s2 (st : List Value) (f : Int32 → Int32 → List Value → Prop) : Prop := g_s1 st fun b r => g_s1 r fun a r => f a b r
def g_li (L : gLo) (k : Nat) (f : Int32 → Prop) : Prop := match g_lg L k with
  | some (.int a) => f a
  | _ => False
def g_lr (L : gLo) (k : Nat) (f : Nat → Prop) : Prop := match g_lg L k with
  | some (.ref a) => f a
  | _ => False
/-- an array's place is read -/
def g_ald (X : gX) (z : Bool) (g : gS) (p : Nat) (i : Int32) (f : Int32 → Prop) : Prop :=
  if p = 1000 then z = false ∧ vp_in i X.1 ∧ f (X.2 i.toNatClampNeg) else
  match g_shp p with
  | .inl q => q.1 = z ∧ p < g.1 ∧ vp_in i q.2 ∧ f (g.2.2 p i.toNatClampNeg)
  | .inr _ => False
def g_ast (z : Bool) (g : gS) (p : Nat) (i : Int32) (v : Int32) (f : gS → Prop) : Prop :=
  match g_shp p with
  | .inl q => q.1 = z ∧ p < g.1 ∧ vp_in i q.2 ∧ f (g.1, g.2.1, g_up g.2.2 p i.toNatClampNeg v)
  | .inr _ => False
def g_obj (g : gS) (p c : Nat) (P : Prop) : Prop := match g_shp p with
  | .inl _ => False
  | .inr d => d = c ∧ p < g.1 ∧ P
def g_tgt (pc : Nat) (d lo hi : Int) (offs : Array Int) (v : Int32) : Nat :=
  if v.toInt < lo ∨ hi < v.toInt then ((pc : Int) + d).toNat else ((pc : Int) + offs.getD (v.toInt - lo).toNat 0).toNat
abbrev gK : Type := Nat → Nat → gLo → List Value → gS → gR → Prop
def g_call (K : gK) (m pc y : Nat) (A : List Value) (L : gLo) (r : List Value) (g : gS) (rr : gR) : Prop :=
  (r.map fun v => v.category).sum ≤ 8 ∧ (A.length ≤ (g_meth y).2.2.2.1 ∧ (A.all fun v => v.category == 1) = true) ∧ ∃ (v : Option Value) (g1 : gS), K y 0 (g_l0 y A) [] g (v, g1) ∧ K m (pc + 3) L (g_push v r) g1 rr
def g_ic (c : ClassFile.Cond) (a b : Int32) : Prop := match c with
  | .eq => a = b
  | .ne => ¬ a = b
  | .lt => a < b
  | .ge => b ≤ a
  | .gt => b < a
  | .le => a ≤ b
def g_do (X : gX) (K : gK) (m pc : Nat) (i : gI) (L : gLo) (st : List Value) (g : gS) (rr : gR) : Prop :=
  match i.1 with
  | .iconst _ => K m (pc + 1) L (.int i.2.2.2 :: st) g rr
  | .bipush _ => K m (pc + 2) L (.int i.2.2.2 :: st) g rr
  | .sipush _ => K m (pc + 3) L (.int i.2.2.2 :: st) g rr
  | .ldc _ => K m (pc + 2) L (.int i.2.2.2 :: st) g rr
  | .ldc_w _ => K m (pc + 3) L (.int i.2.2.2 :: st) g rr
  | .iload k => g_li L k fun a => K m (pc + 2) L (.int a :: st) g rr
  | .iload_n k => g_li L k.val fun a => K m (pc + 1) L (.int a :: st) g rr
  | .aload k => g_lr L k fun a => K m (pc + 2) L (.ref a :: st) g rr
  | .aload_n k => g_lr L k.val fun a => K m (pc + 1) L (.ref a :: st) g rr
  | .istore k => g_s1 st fun a r => k < L.length ∧ K m (pc + 2) (g_ls L k (.int a)) r g rr
  | .istore_n k => g_s1 st fun a r => k.val < L.length ∧ K m (pc + 1) (g_ls L k.val (.int a)) r g rr
  | .astore k => g_sr st fun a r => k < L.length ∧ K m (pc + 2) (g_ls L k (.ref a)) r g rr
  | .astore_n k => g_sr st fun a r => k.val < L.length ∧ K m (pc + 1) (g_ls L k.val (.ref a)) r g rr
  | .iinc k _ => g_li L k fun a => k < L.length ∧ K m (pc + 3) (g_ls L k (.int (a + i.2.2.2))) st g rr
  | .iadd => g_s2 st fun a b r => K m (pc + 1) L (.int (a + b) :: r) g rr
  | .isub => g_s2 st fun a b r => K m (pc + 1) L (.int (a - b) :: r) g rr
  | .imul => g_s2 st fun a b r => K m (pc + 1) L (.int (a * b) :: r) g rr
  | .iand => g_s2 st fun a b r => K m (pc + 1) L (.int (a &&& b) :: r) g rr
  | .ior => g_s2 st fun a b r => K m (pc + 1) L (.int (a ||| b) :: r) g rr
  | .ixor => g_s2 st fun a b r => K m (pc + 1) L (.int (a ^^^ b) :: r) g rr
  | .ishl => g_s2 st fun a b r => K m (pc + 1) L (.int (a <<< (b &&& 31)) :: r) g rr
  | .ishr => g_s2 st fun a b r => K m (pc + 1) L (.int (a >>> (b &&& 31)) :: r) g rr
  | .iushr => g_s2 st fun a b r => K m (pc + 1) L (.int (a.toUInt32 >>> (b.toUInt32 &&& Int32.toUInt32 31)).toInt32 :: r) g rr
  | .idiv => g_s2 st fun a b r => ¬ b = 0 ∧ K m (pc + 1) L (.int (a / b) :: r) g rr
  | .irem => g_s2 st fun a b r => ¬ b = 0 ∧ K m (pc + 1) L (.int (a - a / b * b) :: r) g rr
  | .dup => match st with
    | v :: r => v.category = 1 ∧ K m (pc + 1) L (v :: v :: r) g rr
    | _ => False
  | .pop => match st with
    | v :: r => v.category = 1 ∧ K m (pc + 1) L r g rr
    | _ => False
  | .dup2 => match st with
    | v :: w :: r => v.category = 1 ∧ w.category = 1 ∧ K m (pc + 1) L (v :: w :: v :: w :: r) g rr
    | _ => False
  | .goto _ => K m i.2.1 L st g rr
  | .if_icmp c _ => g_s2 st fun a b r => (g_ic c a b → K m i.2.1 L r g rr) ∧ (¬ g_ic c a b → K m (pc + 3) L r g rr)
  | .ifCond c _ => g_s1 st fun a r => (g_ic c a 0 → K m i.2.1 L r g rr) ∧ (¬ g_ic c a 0 → K m (pc + 3) L r g rr)
  | .tableswitch d lo hi offs => g_s1 st fun a r => K m (g_tgt pc d lo hi offs a) L r g rr
  | .getfield _ => g_sr st fun p r => g_obj g p i.2.1 (K m (pc + 3) L (g_av g.2.1 g.2.2 p i.2.1 i.2.2.1 :: r) g rr)
  | .putfield _ => match st with
    | .int v :: r => g_sr r fun p r => g_obj g p i.2.1 (g_isR i.2.1 i.2.2.1 = false ∧ K m (pc + 3) L r (g.1, g.2.1, g_up g.2.2 p i.2.2.1 v) rr)
    | .ref q :: r => g_sr r fun p r => g_obj g p i.2.1 (g_isR i.2.1 i.2.2.1 = true ∧ q < 1000 ∧ K m (pc + 3) L r (g.1, g_ur g.2.1 p i.2.2.1 (some q), g.2.2) rr)
    | _ => False
  | .iaload => g_s1 st fun j r => g_sr r fun p r => g_ald X false g p j fun v => K m (pc + 1) L (.int v :: r) g rr
  | .baload => g_s1 st fun j r => g_sr r fun p r => g_ald X true g p j fun v => K m (pc + 1) L (.int v :: r) g rr
  | .iastore => g_s1 st fun v r => g_s1 r fun j r => g_sr r fun p r => g_ast false g p j v fun g1 => K m (pc + 1) L r g1 rr
  | .bastore => g_s1 st fun v r => g_s1 r fun j r => g_sr r fun p r => g_ast true g p j (v &&& 1) fun g1 => K m (pc + 1) L r g1 rr
  | .arraylength => g_sr st fun p r => if p = 1000 then K m (pc + 1) L (.int (Int32.ofNat X.1) :: r) g rr else
      match g_shp p with
      | .inl q => p < g.1 ∧ K m (pc + 1) L (.int (Int32.ofNat q.2) :: r) g rr
      | .inr _ => False
  | .new _ => g_shp g.1 = .inr i.2.1 ∧ g.1 < 47 ∧ (g.2.1 g.1 = fun _ => none) ∧ (g.2.2 g.1 = fun _ => 0) ∧ K m (pc + 3) L (.ref g.1 :: st) (g.1 + 1, g.2.1, g.2.2) rr
  | .newarray t => g_s1 st fun v r => (t = .int ∨ t = .boolean) ∧ g_shp g.1 = .inl (decide (t = .boolean), v.toNatClampNeg) ∧ ¬ v < 0 ∧ v.toNatClampNeg ≤ 2048 ∧ g.1 < 47 ∧ (g.2.2 g.1 = fun _ => 0) ∧ K m (pc + 2) L (.ref g.1 :: r) (g.1 + 1, g.2.1, g.2.2) rr
  | .invokestatic _ => if i.2.1 = 998 then (g_s2 st fun a b r => (r.map fun v => v.category).sum ≤ 8 ∧ K m (pc + 3) L (.int (if a < b then b else a) :: r) g rr) else (match g_pops i.2.2.1 st [] with
    | some (A, r) => g_call K m pc i.2.1 A L r g rr
    | none => False)
  | .invokevirtual _ => match g_pops (i.2.2.1 + 1) st [] with
    | some (.ref p :: A, r) => g_obj g p (g_meth i.2.1).1 (g_call K m pc i.2.1 (.ref p :: A) L r g rr)
    | _ => False
  | .invokespecial _ => if i.2.1 = 999 then (match st with
      | [.ref _] => K m (pc + 3) L [] g rr
      | _ => False) else (match g_pops (i.2.2.1 + 1) st [] with
      | some (.ref p :: A, r) => g_call K m pc i.2.1 (.ref p :: A) L r g rr
      | _ => False)
  | .ireturn => match st with
    | [.int v] => (g_isZ m = true → v &&& 1 = v) ∧ rr = (some (.int v), g)
    | _ => False
  | .return_ => st = [] ∧ rr = (none, g)
  | _ => False
def EvN (X : gX) : Nat → gK
  | 0 => fun _ _ _ _ _ _ => False
  | n + 1 => fun m pc L st g rr => ∃ i, g_at m pc = some i ∧ g_do X (EvN X n) m pc i L st g rr
/-- from here the method answers so -/
def Ev (X : gX) (m pc : Nat) (L : gLo) (st : List Value) (g : gS) (rr : gR) : Prop := ∃ n, EvN X n m pc L st g rr
/-- the method, called so -/
def Cl (X : gX) (y : Nat) (A : List Value) (g : gS) (v : Option Value) (g1 : gS) : Prop := (A.length ≤ (g_meth y).2.2.2.1 ∧ (A.all fun v => v.category == 1) = true) ∧ Ev X y 0 (g_l0 y A) [] g (v, g1)
theorem g_s1_mono {st : List Value} {f f' : Int32 → List Value → Prop} (h : ∀ a r, f a r → f' a r) (k : g_s1 st f) : g_s1 st f' := by
  unfold g_s1 at *
  split at k
  · exact h _ _ k
  · exact k.elim
theorem g_sr_mono {st : List Value} {f f' : Nat → List Value → Prop} (h : ∀ a r, f a r → f' a r) (k : g_sr st f) : g_sr st f' := by
  unfold g_sr at *
  split at k
  · exact h _ _ k
  · exact k.elim
theorem g_s2_mono {st : List Value} {f f' : Int32 → Int32 → List Value → Prop} (h : ∀ a b r, f a b r → f' a b r) (k : g_s2 st f) : g_s2 st f' := g_s1_mono (fun _ _ k => g_s1_mono (fun _ _ k => h _ _ _ k) k) k
theorem g_li_mono {L : gLo} {k : Nat} {f f' : Int32 → Prop} (h : ∀ a, f a → f' a) (q : g_li L k f) : g_li L k f' := by
  unfold g_li at *
  split at q
  · exact h _ q
  · exact q.elim
theorem g_lr_mono {L : gLo} {k : Nat} {f f' : Nat → Prop} (h : ∀ a, f a → f' a) (q : g_lr L k f) : g_lr L k f' := by
  unfold g_lr at *
  split at q
  · exact h _ q
  · exact q.elim
theorem g_ald_mono {X : gX} {z : Bool} {g : gS} {p : Nat} {i : Int32} {f f' : Int32 → Prop} (h : ∀ a, f a → f' a) (q : g_ald X z g p i f) : g_ald X z g p i f' := by
  unfold g_ald at *
  split at q
  · rw [if_pos (by assumption)]
    exact ⟨q.1, q.2.1, h _ q.2.2⟩
  · rw [if_neg (by assumption)]
    split at q
    · exact ⟨q.1, q.2.1, q.2.2.1, h _ q.2.2.2⟩
    · exact q.elim
theorem g_ast_mono {z : Bool} {g : gS} {p : Nat} {i v : Int32} {f f' : gS → Prop} (h : ∀ a, f a → f' a) (q : g_ast z g p i v f) : g_ast z g p i v f' := by
  unfold g_ast at *
  split at q
  · exact ⟨q.1, q.2.1, q.2.2.1, h _ q.2.2.2⟩
  · exact q.elim
theorem g_obj_mono {g : gS} {p c : Nat} {P P' : Prop} (h : P → P') (q : g_obj g p c P) : g_obj g p c P' := by
  unfold g_obj at *
  split at q
  · exact q.elim
  · exact ⟨q.1, q.2.1, h q.2.2⟩
theorem g_call_mono {K K' : gK} (h : ∀ m pc L st g rr, K m pc L st g rr → K' m pc L st g rr) {m pc y : Nat} {A : List Value} {L : gLo} {r : List Value} {g : gS} {rr : gR} (q : g_call K m pc y A L r g rr) : g_call K' m pc y A L r g rr := by
  obtain ⟨h1, h2, v, g1, h3, h4⟩ := q
  exact ⟨h1, h2, v, g1, h _ _ _ _ _ _ h3, h _ _ _ _ _ _ h4⟩
set_option maxHeartbeats 4000000 in
theorem g_do_mono {X : gX} {K K' : gK} (h : ∀ m pc L st g rr, K m pc L st g rr → K' m pc L st g rr) {m pc : Nat} {i : gI} {L : gLo} {st : List Value} {g : gS} {rr : gR} (q : g_do X K m pc i L st g rr) : g_do X K' m pc i L st g rr := by
  obtain ⟨ins, a, b, z⟩ := i
  cases ins
  case iconst => exact h _ _ _ _ _ _ q
  case bipush => exact h _ _ _ _ _ _ q
  case sipush => exact h _ _ _ _ _ _ q
  case ldc => exact h _ _ _ _ _ _ q
  case ldc_w => exact h _ _ _ _ _ _ q
  case iload => exact g_li_mono (fun _ => h _ _ _ _ _ _) q
  case iload_n => exact g_li_mono (fun _ => h _ _ _ _ _ _) q
  case aload => exact g_lr_mono (fun _ => h _ _ _ _ _ _) q
  case aload_n => exact g_lr_mono (fun _ => h _ _ _ _ _ _) q
  case istore => exact g_s1_mono (fun _ _ k => ⟨k.1, h _ _ _ _ _ _ k.2⟩) q
  case istore_n => exact g_s1_mono (fun _ _ k => ⟨k.1, h _ _ _ _ _ _ k.2⟩) q
  case astore => exact g_sr_mono (fun _ _ k => ⟨k.1, h _ _ _ _ _ _ k.2⟩) q
  case astore_n => exact g_sr_mono (fun _ _ k => ⟨k.1, h _ _ _ _ _ _ k.2⟩) q
  case iinc => exact g_li_mono (fun _ k => ⟨k.1, h _ _ _ _ _ _ k.2⟩) q
  case iadd => exact g_s2_mono (fun _ _ _ => h _ _ _ _ _ _) q
  case isub => exact g_s2_mono (fun _ _ _ => h _ _ _ _ _ _) q
  case imul => exact g_s2_mono (fun _ _ _ => h _ _ _ _ _ _) q
  case iand => exact g_s2_mono (fun _ _ _ => h _ _ _ _ _ _) q
  case ior => exact g_s2_mono (fun _ _ _ => h _ _ _ _ _ _) q
  case ixor => exact g_s2_mono (fun _ _ _ => h _ _ _ _ _ _) q
  case ishl => exact g_s2_mono (fun _ _ _ => h _ _ _ _ _ _) q
  case ishr => exact g_s2_mono (fun _ _ _ => h _ _ _ _ _ _) q
  case iushr => exact g_s2_mono (fun _ _ _ => h _ _ _ _ _ _) q
  case idiv => exact g_s2_mono (fun _ _ _ k => ⟨k.1, h _ _ _ _ _ _ k.2⟩) q
  case irem => exact g_s2_mono (fun _ _ _ k => ⟨k.1, h _ _ _ _ _ _ k.2⟩) q
  case dup =>
    match st, q with
    | v :: r, q => exact ⟨q.1, h _ _ _ _ _ _ q.2⟩
  case pop =>
    match st, q with
    | v :: r, q => exact ⟨q.1, h _ _ _ _ _ _ q.2⟩
  case dup2 =>
    match st, q with
    | v :: w :: r, q => exact ⟨q.1, q.2.1, h _ _ _ _ _ _ q.2.2⟩
  case goto => exact h _ _ _ _ _ _ q
  case if_icmp => exact g_s2_mono (fun _ _ _ k => ⟨fun c => h _ _ _ _ _ _ (k.1 c), fun c => h _ _ _ _ _ _ (k.2 c)⟩) q
  case ifCond => exact g_s1_mono (fun _ _ k => ⟨fun c => h _ _ _ _ _ _ (k.1 c), fun c => h _ _ _ _ _ _ (k.2 c)⟩) q
  case tableswitch => exact g_s1_mono (fun _ _ => h _ _ _ _ _ _) q
  case getfield => exact g_sr_mono (fun _ _ => g_obj_mono (h _ _ _ _ _ _)) q
  case putfield =>
    match st, q with
    | .int v :: r, q => exact g_sr_mono (fun _ _ => g_obj_mono (fun k => ⟨k.1, h _ _ _ _ _ _ k.2⟩)) q
    | .ref v :: r, q => exact g_sr_mono (fun _ _ => g_obj_mono (fun k => ⟨k.1, k.2.1, h _ _ _ _ _ _ k.2.2⟩)) q
  case iaload => exact g_s1_mono (fun _ _ => g_sr_mono (fun _ _ => g_ald_mono (fun _ => h _ _ _ _ _ _))) q
  case baload => exact g_s1_mono (fun _ _ => g_sr_mono (fun _ _ => g_ald_mono (fun _ => h _ _ _ _ _ _))) q
  case iastore => exact g_s1_mono (fun _ _ => g_s1_mono (fun _ _ => g_sr_mono (fun _ _ => g_ast_mono (fun _ => h _ _ _ _ _ _)))) q
  case bastore => exact g_s1_mono (fun _ _ => g_s1_mono (fun _ _ => g_sr_mono (fun _ _ => g_ast_mono (fun _ => h _ _ _ _ _ _)))) q
  case arraylength =>
    refine g_sr_mono (fun p r k => ?_) q
    by_cases hp : p = 1000
    · rw [if_pos hp] at k ⊢
      exact h _ _ _ _ _ _ k
    · rw [if_neg hp] at k ⊢
      split at k
      · exact ⟨k.1, h _ _ _ _ _ _ k.2⟩
      · exact k.elim
  case new => exact ⟨q.1, q.2.1, q.2.2.1, q.2.2.2.1, h _ _ _ _ _ _ q.2.2.2.2⟩
  case newarray => exact g_s1_mono (fun _ _ k => ⟨k.1, k.2.1, k.2.2.1, k.2.2.2.1, k.2.2.2.2.1, k.2.2.2.2.2.1, h _ _ _ _ _ _ k.2.2.2.2.2.2⟩) q
  case invokestatic =>
    simp only [g_do] at q ⊢
    split at q
    · rw [if_pos (by assumption)]
      exact g_s2_mono (fun _ _ _ k => ⟨k.1, h _ _ _ _ _ _ k.2⟩) q
    · rw [if_neg (by assumption)]
      split at q
      · exact g_call_mono h q
      · exact q.elim
  case invokevirtual =>
    simp only [g_do] at q ⊢
    split at q
    · exact g_obj_mono (g_call_mono h) q
    · exact q.elim
  case invokespecial =>
    simp only [g_do] at q ⊢
    split at q
    · rw [if_pos (by assumption)]
      split at q
      · exact h _ _ _ _ _ _ q
      · exact q.elim
    · rw [if_neg (by assumption)]
      split at q
      · exact g_call_mono h q
      · exact q.elim
  case ireturn => exact q
  case return_ => exact q
  all_goals exact q
theorem EvN_succ {X : gX} : ∀ (n : Nat) {m pc : Nat} {L : gLo} {st : List Value} {g : gS} {rr : gR}, EvN X n m pc L st g rr → EvN X (n + 1) m pc L st g rr
  | 0, _, _, _, _, _, _, h => h.elim
  | n + 1, _, _, _, _, _, _, h => by
    obtain ⟨i, h1, h2⟩ := h
    exact ⟨i, h1, g_do_mono (fun _ _ _ _ _ _ k => EvN_succ n k) h2⟩
theorem EvN_le {X : gX} {n k : Nat} (hk : n ≤ k) {m pc : Nat} {L : gLo} {st : List Value} {g : gS} {rr : gR} (h : EvN X n m pc L st g rr) : EvN X k m pc L st g rr := by
  induction hk with
  | refl => exact h
  | step _ ih => exact EvN_succ _ ih
theorem Ev_max {X : gX} {m pc m' pc' : Nat} {L L' : gLo} {st st' : List Value} {g g' : gS} {rr rr' : gR} (h : Ev X m pc L st g rr) (h' : Ev X m' pc' L' st' g' rr') : ∃ n, EvN X n m pc L st g rr ∧ EvN X n m' pc' L' st' g' rr' := by
  obtain ⟨a, ha⟩ := h
  obtain ⟨b, hb⟩ := h'
  exact ⟨max a b, EvN_le (Nat.le_max_left _ _) ha, EvN_le (Nat.le_max_right _ _) hb⟩
theorem g_call_ev {X : gX} {m pc y : Nat} {A : List Value} {L : gLo} {r : List Value} {g : gS} {rr : gR} (q : g_call (Ev X) m pc y A L r g rr) : ∃ n, g_call (EvN X n) m pc y A L r g rr := by
  obtain ⟨h1, h2, v, g1, h3, h4⟩ := q
  obtain ⟨n, h5, h6⟩ := Ev_max h3 h4
  exact ⟨n, h1, h2, v, g1, h5, h6⟩
theorem g_br_ev {X : gX} {c : Prop} {m pc m' pc' : Nat} {L L' : gLo} {st st' : List Value} {g g' : gS} {rr rr' : gR} (q : (c → Ev X m pc L st g rr) ∧ (¬ c → Ev X m' pc' L' st' g' rr')) : ∃ n, (c → EvN X n m pc L st g rr) ∧ (¬ c → EvN X n m' pc' L' st' g' rr') := by
  by_cases hc : c
  · obtain ⟨n, h⟩ := q.1 hc
    exact ⟨n, fun _ => h, fun k => absurd hc k⟩
  · obtain ⟨n, h⟩ := q.2 hc
    exact ⟨n, fun k => absurd k hc, fun _ => h⟩
theorem g_s1_ex {st : List Value} {f : Nat → Int32 → List Value → Prop} {f' : Int32 → List Value → Prop} (h : ∀ a r, f' a r → ∃ n, f n a r) (k : g_s1 st f') : ∃ n, g_s1 st (f n) := by
  unfold g_s1 at *
  split at k
  · exact h _ _ k
  · exact k.elim
theorem g_sr_ex {st : List Value} {f : Nat → Nat → List Value → Prop} {f' : Nat → List Value → Prop} (h : ∀ a r, f' a r → ∃ n, f n a r) (k : g_sr st f') : ∃ n, g_sr st (f n) := by
  unfold g_sr at *
  split at k
  · exact h _ _ k
  · exact k.elim
theorem g_li_ex {L : gLo} {k : Nat} {f : Nat → Int32 → Prop} {f' : Int32 → Prop} (h : ∀ a, f' a → ∃ n, f n a) (q : g_li L k f') : ∃ n, g_li L k (f n) := by
  unfold g_li at *
  split at q
  · exact h _ q
  · exact q.elim
theorem g_lr_ex {L : gLo} {k : Nat} {f : Nat → Nat → Prop} {f' : Nat → Prop} (h : ∀ a, f' a → ∃ n, f n a) (q : g_lr L k f') : ∃ n, g_lr L k (f n) := by
  unfold g_lr at *
  split at q
  · exact h _ q
  · exact q.elim
theorem g_s2_ex {st : List Value} {f : Nat → Int32 → Int32 → List Value → Prop} {f' : Int32 → Int32 → List Value → Prop} (h : ∀ a b r, f' a b r → ∃ n, f n a b r) (k : g_s2 st f') : ∃ n, g_s2 st (f n) :=
  g_s1_ex (f := fun n b r => g_s1 r fun a r => f n a b r) (fun _ _ k => g_s1_ex (fun _ _ k => h _ _ _ k) k) k
theorem g_ald_ex {X : gX} {z : Bool} {g : gS} {p : Nat} {i : Int32} {f : Nat → Int32 → Prop} {f' : Int32 → Prop} (h : ∀ a, f' a → ∃ n, f n a) (q : g_ald X z g p i f') : ∃ n, g_ald X z g p i (f n) := by
  unfold g_ald at *
  split at q
  · obtain ⟨n, k⟩ := h _ q.2.2
    exact ⟨n, by rw [if_pos (by assumption)]; exact ⟨q.1, q.2.1, k⟩⟩
  · split at q
    · obtain ⟨n, k⟩ := h _ q.2.2.2
      exact ⟨n, by rw [if_neg (by assumption)]; exact ⟨q.1, q.2.1, q.2.2.1, k⟩⟩
    · exact q.elim
theorem g_ast_ex {z : Bool} {g : gS} {p : Nat} {i v : Int32} {f : Nat → gS → Prop} {f' : gS → Prop} (h : ∀ a, f' a → ∃ n, f n a) (q : g_ast z g p i v f') : ∃ n, g_ast z g p i v (f n) := by
  unfold g_ast at *
  split at q
  · obtain ⟨n, k⟩ := h _ q.2.2.2
    exact ⟨n, q.1, q.2.1, q.2.2.1, k⟩
  · exact q.elim
theorem g_obj_ex {g : gS} {p c : Nat} {P : Nat → Prop} {P' : Prop} (h : P' → ∃ n, P n) (q : g_obj g p c P') : ∃ n, g_obj g p c (P n) := by
  unfold g_obj at *
  split at q
  · exact q.elim
  · obtain ⟨n, k⟩ := h q.2.2
    exact ⟨n, q.1, q.2.1, k⟩
set_option maxHeartbeats 4000000 in
theorem g_do_ev {X : gX} {m pc : Nat} {i : gI} {L : gLo} {st : List Value} {g : gS} {rr : gR} (q : g_do X (Ev X) m pc i L st g rr) : ∃ n, g_do X (EvN X n) m pc i L st g rr := by
  obtain ⟨ins, a, b, z⟩ := i
  cases ins
  case iload => exact g_li_ex (f := fun n a => EvN X n m (pc + 2) L (.int a :: st) g rr) (fun _ k => k) q
  case iload_n => exact g_li_ex (f := fun n a => EvN X n m (pc + 1) L (.int a :: st) g rr) (fun _ k => k) q
  case aload => exact g_lr_ex (f := fun n a => EvN X n m (pc + 2) L (.ref a :: st) g rr) (fun _ k => k) q
  case aload_n => exact g_lr_ex (f := fun n a => EvN X n m (pc + 1) L (.ref a :: st) g rr) (fun _ k => k) q
  case istore k => exact g_s1_ex (f := fun n a r => k < L.length ∧ EvN X n m (pc + 2) (g_ls L k (.int a)) r g rr) (fun _ _ ⟨k1, n, k2⟩ => ⟨n, k1, k2⟩) q
  case istore_n k => exact g_s1_ex (f := fun n a r => k.val < L.length ∧ EvN X n m (pc + 1) (g_ls L k.val (.int a)) r g rr) (fun _ _ ⟨k1, n, k2⟩ => ⟨n, k1, k2⟩) q
  case astore k => exact g_sr_ex (f := fun n a r => k < L.length ∧ EvN X n m (pc + 2) (g_ls L k (.ref a)) r g rr) (fun _ _ ⟨k1, n, k2⟩ => ⟨n, k1, k2⟩) q
  case astore_n k => exact g_sr_ex (f := fun n a r => k.val < L.length ∧ EvN X n m (pc + 1) (g_ls L k.val (.ref a)) r g rr) (fun _ _ ⟨k1, n, k2⟩ => ⟨n, k1, k2⟩) q
  case iinc k _ => exact g_li_ex (f := fun n a => k < L.length ∧ EvN X n m (pc + 3) (g_ls L k (.int (a + z))) st g rr) (fun _ ⟨k1, n, k2⟩ => ⟨n, k1, k2⟩) q
  case iadd => exact g_s2_ex (f := fun n a b r => EvN X n m (pc + 1) L (.int (a + b) :: r) g rr) (fun _ _ _ k => k) q
  case isub => exact g_s2_ex (f := fun n a b r => EvN X n m (pc + 1) L (.int (a - b) :: r) g rr) (fun _ _ _ k => k) q
  case imul => exact g_s2_ex (f := fun n a b r => EvN X n m (pc + 1) L (.int (a * b) :: r) g rr) (fun _ _ _ k => k) q
  case iand => exact g_s2_ex (f := fun n a b r => EvN X n m (pc + 1) L (.int (a &&& b) :: r) g rr) (fun _ _ _ k => k) q
  case ior => exact g_s2_ex (f := fun n a b r => EvN X n m (pc + 1) L (.int (a ||| b) :: r) g rr) (fun _ _ _ k => k) q
  case ixor => exact g_s2_ex (f := fun n a b r => EvN X n m (pc + 1) L (.int (a ^^^ b) :: r) g rr) (fun _ _ _ k => k) q
  case ishl => exact g_s2_ex (f := fun n a b r => EvN X n m (pc + 1) L (.int (a <<< (b &&& 31)) :: r) g rr) (fun _ _ _ k => k) q
  case ishr => exact g_s2_ex (f := fun n a b r => EvN X n m (pc + 1) L (.int (a >>> (b &&& 31)) :: r) g rr) (fun _ _ _ k => k) q
  case iushr => exact g_s2_ex (f := fun n a b r => EvN X n m (pc + 1) L (.int (a.toUInt32 >>> (b.toUInt32 &&& Int32.toUInt32 31)).toInt32 :: r) g rr) (fun _ _ _ k => k) q
  case idiv => exact g_s2_ex (f := fun n a b r => ¬ b = 0 ∧ EvN X n m (pc + 1) L (.int (a / b) :: r) g rr) (fun _ _ _ ⟨k1, n, k2⟩ => ⟨n, k1, k2⟩) q
  case irem => exact g_s2_ex (f := fun n a b r => ¬ b = 0 ∧ EvN X n m (pc + 1) L (.int (a - a / b * b) :: r) g rr) (fun _ _ _ ⟨k1, n, k2⟩ => ⟨n, k1, k2⟩) q
  case dup =>
    match st, q with
    | v :: r, ⟨k1, n, k2⟩ => exact ⟨n, k1, k2⟩
  case pop =>
    match st, q with
    | v :: r, ⟨k1, n, k2⟩ => exact ⟨n, k1, k2⟩
  case dup2 =>
    match st, q with
    | v :: w :: r, ⟨k1, k2, n, k3⟩ => exact ⟨n, k1, k2, k3⟩
  case if_icmp c _ => exact g_s2_ex (f := fun n x y r => (g_ic c x y → EvN X n m a L r g rr) ∧ (¬ g_ic c x y → EvN X n m (pc + 3) L r g rr)) (fun _ _ _ k => g_br_ev k) q
  case ifCond c _ => exact g_s1_ex (f := fun n x r => (g_ic c x 0 → EvN X n m a L r g rr) ∧ (¬ g_ic c x 0 → EvN X n m (pc + 3) L r g rr)) (fun _ _ k => g_br_ev k) q
  case tableswitch d lo hi offs => exact g_s1_ex (f := fun n x r => EvN X n m (g_tgt pc d lo hi offs x) L r g rr) (fun _ _ k => k) q
  case getfield => exact g_sr_ex (f := fun n p r => g_obj g p a (EvN X n m (pc + 3) L (g_av g.2.1 g.2.2 p a b :: r) g rr)) (fun _ _ k => g_obj_ex (fun k => k) k) q
  case putfield =>
    match st, q with
    | .int v :: r, q => exact g_sr_ex (f := fun n p r => g_obj g p a (g_isR a b = false ∧ EvN X n m (pc + 3) L r (g.1, g.2.1, g_up g.2.2 p b v) rr)) (fun _ _ k => g_obj_ex (fun ⟨k1, n, k2⟩ => ⟨n, k1, k2⟩) k) q
    | .ref v :: r, q => exact g_sr_ex (f := fun n p r => g_obj g p a (g_isR a b = true ∧ v < 1000 ∧ EvN X n m (pc + 3) L r (g.1, g_ur g.2.1 p b (some v), g.2.2) rr)) (fun _ _ k => g_obj_ex (fun ⟨k1, k3, n, k2⟩ => ⟨n, k1, k3, k2⟩) k) q
  case iaload => exact g_s1_ex (f := fun n j r => g_sr r fun p r => g_ald X false g p j fun v => EvN X n m (pc + 1) L (.int v :: r) g rr) (fun j _ k => g_sr_ex (f := fun n p r => g_ald X false g p j fun v => EvN X n m (pc + 1) L (.int v :: r) g rr) (fun _ r k => g_ald_ex (f := fun n v => EvN X n m (pc + 1) L (.int v :: r) g rr) (fun _ k => k) k) k) q
  case baload => exact g_s1_ex (f := fun n j r => g_sr r fun p r => g_ald X true g p j fun v => EvN X n m (pc + 1) L (.int v :: r) g rr) (fun j _ k => g_sr_ex (f := fun n p r => g_ald X true g p j fun v => EvN X n m (pc + 1) L (.int v :: r) g rr) (fun _ r k => g_ald_ex (f := fun n v => EvN X n m (pc + 1) L (.int v :: r) g rr) (fun _ k => k) k) k) q
  case iastore => exact g_s1_ex (f := fun n v r => g_s1 r fun j r => g_sr r fun p r => g_ast false g p j v fun g1 => EvN X n m (pc + 1) L r g1 rr) (fun v _ k => g_s1_ex (f := fun n j r => g_sr r fun p r => g_ast false g p j v fun g1 => EvN X n m (pc + 1) L r g1 rr) (fun j _ k => g_sr_ex (f := fun n p r => g_ast false g p j v fun g1 => EvN X n m (pc + 1) L r g1 rr) (fun _ r k => g_ast_ex (f := fun n g1 => EvN X n m (pc + 1) L r g1 rr) (fun _ k => k) k) k) k) q
  case bastore => exact g_s1_ex (f := fun n v r => g_s1 r fun j r => g_sr r fun p r => g_ast true g p j (v &&& 1) fun g1 => EvN X n m (pc + 1) L r g1 rr) (fun v _ k => g_s1_ex (f := fun n j r => g_sr r fun p r => g_ast true g p j (v &&& 1) fun g1 => EvN X n m (pc + 1) L r g1 rr) (fun j _ k => g_sr_ex (f := fun n p r => g_ast true g p j (v &&& 1) fun g1 => EvN X n m (pc + 1) L r g1 rr) (fun _ r k => g_ast_ex (f := fun n g1 => EvN X n m (pc + 1) L r g1 rr) (fun _ k => k) k) k) k) q
  case arraylength =>
    refine g_sr_ex (f := fun n p r => if p = 1000 then EvN X n m (pc + 1) L (.int (Int32.ofNat X.1) :: r) g rr else
      match g_shp p with
      | .inl q => p < g.1 ∧ EvN X n m (pc + 1) L (.int (Int32.ofNat q.2) :: r) g rr
      | .inr _ => False) (fun p r k => ?_) q
    by_cases hp : p = 1000
    · rw [if_pos hp] at k
      obtain ⟨n, k⟩ := k
      exact ⟨n, by rw [if_pos hp]; exact k⟩
    · rw [if_neg hp] at k
      split at k
      · obtain ⟨k1, n, k⟩ := k
        exact ⟨n, by rw [if_neg hp]; exact ⟨k1, k⟩⟩
      · exact k.elim
  case new =>
    obtain ⟨k1, k2, k3, k4, n, k⟩ := q
    exact ⟨n, k1, k2, k3, k4, k⟩
  case newarray t => exact g_s1_ex (f := fun n v r => (t = .int ∨ t = .boolean) ∧ g_shp g.1 = .inl (decide (t = .boolean), v.toNatClampNeg) ∧ ¬ v < 0 ∧ v.toNatClampNeg ≤ 2048 ∧ g.1 < 47 ∧ (g.2.2 g.1 = fun _ => 0) ∧ EvN X n m (pc + 2) L (.ref g.1 :: r) (g.1 + 1, g.2.1, g.2.2) rr) (fun _ _ ⟨k1, k2, k3, k4, k5, k6, n, k⟩ => ⟨n, k1, k2, k3, k4, k5, k6, k⟩) q
  case invokestatic =>
    simp only [g_do] at q ⊢
    by_cases hp : a = 998
    · simp only [if_pos hp] at q ⊢
      exact g_s2_ex (f := fun n a b r => (r.map fun v => v.category).sum ≤ 8 ∧ EvN X n m (pc + 3) L (.int (if a < b then b else a) :: r) g rr) (fun _ _ _ ⟨k1, n, k2⟩ => ⟨n, k1, k2⟩) q
    · simp only [if_neg hp] at q ⊢
      split at q
      · exact g_call_ev q
      · exact q.elim
  case invokevirtual =>
    simp only [g_do] at q ⊢
    split at q
    · exact g_obj_ex g_call_ev q
    · exact q.elim
  case invokespecial =>
    simp only [g_do] at q ⊢
    split at q
    · split at q
      · obtain ⟨n, k⟩ := q
        exact ⟨n, by rw [if_pos (by assumption)]; exact k⟩
      · exact q.elim
    · split at q
      · obtain ⟨n, k⟩ := g_call_ev q
        exact ⟨n, by rw [if_neg (by assumption)]; exact k⟩
      · exact q.elim
  case ireturn => exact ⟨0, q⟩
  case return_ => exact ⟨0, q⟩
  all_goals first | exact q | exact ⟨0, q⟩
theorem ev_i {X : gX} {m pc : Nat} {i : gI} {L : gLo} {st : List Value} {g : gS} {rr : gR} (ht : g_at m pc = some i) (q : g_do X (Ev X) m pc i L st g rr) : Ev X m pc L st g rr := by
  obtain ⟨n, h⟩ := g_do_ev q
  exact ⟨n + 1, i, ht, h⟩
