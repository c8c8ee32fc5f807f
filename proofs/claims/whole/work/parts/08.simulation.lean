def g_rtI (m : Nat) (i : Instr) : Bool := match i with
  | .ireturn => decide ((g_meth m).2.2.2.2.1 = some .int) || decide ((g_meth m).2.2.2.2.1 = some .boolean)
  | .return_ => decide ((g_meth m).2.2.2.2.1 = none)
  | _ => true
theorem g_rt_ok : ∀ m, m < 150 → ((g_code m).all fun e => g_rtI m e.2.1) = true := by decide +kernel
theorem g_rt_at {m pc : Nat} {i : gI} (h : g_at m pc = some i) : g_rtI m i.1 = true := by
  have hm := g_look_mem _ h
  by_cases hlt : m < 150
  · exact List.all_eq_true.mp (g_rt_ok m hlt) _ hm
  · have : g_code m = [] := by
      obtain ⟨k, rfl⟩ : ∃ k, m = k + 150 := ⟨m - 150, by omega⟩
      rfl
    rw [this] at hm
    cases hm
theorem g_any_fl {k a b cn : Nat} (h : g_fl.any (fun q => decide (q.1 = k) && decide (q.2.1 = a) && decide (q.2.2.1 = b) && decide (q.2.2.2.1 = cn)) = true) : ∃ q, g_cls[a]? = some q ∧ b < q.2.2 ∧ Jvm.Cond.fieldLink (g_nm cn) k (q.2.1 b).1 (q.2.1 b).2.1 (q.2.1 b).2.2.1 ∈ g_tbl := by
  obtain ⟨⟨k', a', b', cn', pl⟩, hq, hh⟩ := List.any_eq_true.mp h
  simp only [Bool.and_eq_true, decide_eq_true_eq] at hh
  obtain ⟨⟨⟨rfl, rfl⟩, rfl⟩, rfl⟩ := hh
  have h1 := g_fl_ok _ hq
  unfold g_okF at h1
  dsimp only at h1
  split at h1
  · next q hq' =>
    simp only [Bool.and_eq_true, decide_eq_true_eq] at h1
    exact ⟨q, hq', h1.1, g_memT h1.2⟩
  · cases h1
theorem g_any_cs {k cn : Nat} {z : Int32} (h : g_cs.any (fun q => decide (q.1 = k) && decide (q.2.1 = z) && decide (q.2.2.1 = cn)) = true) : Jvm.Cond.constant (g_nm cn) k z ∈ g_tbl := by
  obtain ⟨⟨k', z', cn', pl⟩, hq, hh⟩ := List.any_eq_true.mp h
  simp only [Bool.and_eq_true, decide_eq_true_eq] at hh
  obtain ⟨⟨rfl, rfl⟩, rfl⟩ := hh
  exact g_memT (g_cs_ok _ hq)
theorem g_any_ob {k cn : Nat} (h : g_ob.any (fun q => decide (q.1 = k) && decide (q.2.1 = cn)) = true) : Jvm.Cond.methodLink (g_nm cn) k objectInit ∈ g_tbl := by
  obtain ⟨⟨k', cn', pl⟩, hq, hh⟩ := List.any_eq_true.mp h
  simp only [Bool.and_eq_true, decide_eq_true_eq] at hh
  obtain ⟨rfl, rfl⟩ := hh
  exact g_memT (g_ob_ok _ hq)
theorem g_any_mx {k cn : Nat} (h : g_mx.any (fun q => decide (q.1 = k) && decide (q.2.1 = cn)) = true) : Jvm.Cond.methodLink (g_nm cn) k Lib.Math.max.name ∈ g_tbl := by
  obtain ⟨⟨k', cn', pl⟩, hq, hh⟩ := List.any_eq_true.mp h
  simp only [Bool.and_eq_true, decide_eq_true_eq] at hh
  obtain ⟨rfl, rfl⟩ := hh
  exact g_memT (g_mx_ok _ hq)
theorem g_any_nw {k a cn : Nat} (h : g_nw.any (fun q => decide (q.1 = k) && decide (q.2.1 = a) && decide (q.2.2.1 = cn)) = true) : ∃ q, g_cls[a]? = some q ∧ Jvm.Cond.classLink (g_nm cn) k q.1 ∈ g_tbl ∧ Jvm.Cond.instantiable q.1 q.2.2 ∈ g_tbl ∧ Jvm.Cond.initialized q.1 ∈ g_tbl := by
  obtain ⟨⟨k', a', cn', p1, p2, p3⟩, hq, hh⟩ := List.any_eq_true.mp h
  simp only [Bool.and_eq_true, decide_eq_true_eq] at hh
  obtain ⟨⟨rfl, rfl⟩, rfl⟩ := hh
  have h1 := g_nw_ok _ hq
  unfold g_okN at h1
  dsimp only at h1
  split at h1
  · next q hq' =>
    simp only [Bool.and_eq_true] at h1
    exact ⟨q, hq', g_memT h1.1.1, g_memT h1.1.2, g_memT h1.2⟩
  · cases h1
theorem g_cat_map (b0 b : Nat) (r : List Value) : ((r.map (g_cv b0 b)).map fun v => v.category) = r.map fun v => v.category := by
  rw [List.map_map]
  exact congrArg (fun f => List.map f r) (funext fun v => g_cv_cat b0 b v)
theorem g_isR_int {c k : Nat} (h : g_isR c k = false) : g_tyf c k = .int := by
  unfold g_isR at h
  split at h
  · assumption
  · cases h
theorem g_fits_ref {c : Nat} {q : vw_C} (hc : g_cls[c]? = some q) {k : Nat} (hk : k < q.2.2) (h : g_isR c k = true) (a : Nat) : narrow (g_tyf c k) (.ref a) = .ref a ∧ fits (g_tyf c k) (.ref a) = true := by
  have h0 : ∀ t : FieldType, narrow t (.ref a) = .ref a := fun t => by cases t <;> rfl
  refine ⟨h0 _, ?_⟩
  have key : ∀ c, c < 5 → ∀ k, k < 25 → g_isR c k = true → (match g_tyf c k with
    | .object _ => true
    | .array _ => true
    | _ => false) = true := by decide +kernel
  have hc5 : c < 5 := by
    have := (List.getElem?_eq_some_iff.mp hc).1
    exact this
  have hk25 : k < 25 := by
    match c, hc with
    | 0, hc => cases hc; exact Nat.lt_of_lt_of_le hk (by decide)
    | 1, hc => cases hc; exact Nat.lt_of_lt_of_le hk (by decide)
    | 2, hc => cases hc; exact Nat.lt_of_lt_of_le hk (by decide)
    | 3, hc => cases hc; exact Nat.lt_of_lt_of_le hk (by decide)
    | 4, hc => cases hc; exact Nat.lt_of_lt_of_le hk (by decide)
    | c + 5, hc => omega
  have h1 := key c hc5 k hk25 h
  cases ht : g_tyf c k <;> rw [ht] at h1 <;> first | rfl | cases h1
set_option maxHeartbeats 8000000 in
theorem g_sim (l : Launch) (Dd : va_G) (cI cZ : ClassId) (b0 b : Nat) (X : gX) : ∀ n, g_Goal l Dd cI cZ b0 b X n
  | 0 => fun _ _ _ _ _ _ h => h.elim
  | n + 1 => by
    have IH := g_sim l Dd cI cZ b0 b X n
    intro m pc L st g rr hE p e R s mm args below meth c H locs cells slots mc ms ls hC hL hW hS hbs hR
    obtain ⟨i, hat, hdo⟩ := hE
    have hok := g_okA hat
    have hC0 := hC
    obtain ⟨⟨hx, hb, hret, hml, hown⟩, hts, hlocks, hname, hfr, hlo, hEn⟩ := hC
    have go : ∀ (pc' : Nat) (L' : gLo) (st' : List Value) (ls' : Array Slot), EvN X n m pc' L' st' g rr → g_LR b0 b ls' (g_meth m).2.2.2.1 L' → W p l e R s mm args below meth c H locs cells slots (MQ below (g_Q Dd cI cZ b0 b rr) args s mc ms (fun q => b ≤ q)) (F0 mm pc' ls' (st'.map (g_cv b0 b))) :=
      fun pc' L' st' ls' h hl => IH m pc' L' st' g rr h p e R s mm args below meth c H locs cells slots mc ms ls' hC0 hl hW hS hbs hR
    have goW : ∀ (pc' : Nat) (st' : List Value) (g' : gS) (H' : Heap) (locs' : List Loc), EvN X n m pc' L st' g' rr → g'.1 = g.1 → g_WP Dd cI cZ b0 b g' H' → H'.size = H.size → (∀ q, q < b → H'[q]? = H[q]?) → (∀ q ∈ locs', q ∈ locs ∨ b ≤ q.base) → W p l e R s mm args below meth c H' locs' cells slots (MQ below (g_Q Dd cI cZ b0 b rr) args s mc ms (fun q => b ≤ q)) (F0 mm pc' ls (st'.map (g_cv b0 b))) := by
      intro pc' st' g' H' locs' h hg hP hz ho hl
      refine IH m pc' L st' g' rr h p e R s mm args below meth c H' locs' cells slots mc ms ls hC0 hL ⟨hP, hW.2.1, g_X.kept hW.2.1 hW.2.2 ho⟩ ⟨by rw [hz]; exact hS.1, fun q h1 h2 => by rw [ho q (by omega)]; exact hS.2.1 q h1 h2, fun q hq => ?_⟩ hbs (by rw [hg]; exact hR)
      rcases hl q hq with h1 | h1
      · exact hS.2.2 q h1
      · exact h1
    obtain ⟨ins, a, bb, z⟩ := i
    cases ins
    case iconst v =>
      simp only [g_okI, Bool.and_eq_true, decide_eq_true_eq] at hok
      exact lv_iconst hx hb hok.1 hok.2 (go _ _ _ _ hdo hL)
    case bipush v =>
      simp only [g_okI, Bool.and_eq_true, decide_eq_true_eq] at hok
      exact lv_bipush hx hb hok.1 hok.2 (go _ _ _ _ hdo hL)
    case sipush v =>
      simp only [g_okI, Bool.and_eq_true, decide_eq_true_eq] at hok
      exact lv_sipush hx hb hok.1 hok.2 (go _ _ _ _ hdo hL)
    case ldc v =>
      simp only [g_okI, Bool.and_eq_true, decide_eq_true_eq] at hok
      exact lv_ldc hx hb hown (hts _ (g_any_cs hok.2)) hok.1 (go _ _ _ _ hdo hL)
    case ldc_w v =>
      simp only [g_okI, Bool.and_eq_true, decide_eq_true_eq] at hok
      exact lv_ldcw hx hb hown (hts _ (g_any_cs hok.2)) hok.1 (go _ _ _ _ hdo hL)
    case iload k =>
      simp only [g_okI, decide_eq_true_eq] at hok
      obtain ⟨v, h1, h2⟩ := g_li_inv hdo
      exact lv_iload hx hb hok (hL.get h1) (go _ _ _ _ h2 hL)
    case iload_n k =>
      simp only [g_okI, decide_eq_true_eq] at hok
      obtain ⟨v, h1, h2⟩ := g_li_inv hdo
      exact lv_iload_n hx hb hok rfl (hL.get h1) (go _ _ _ _ h2 hL)
    case aload k =>
      simp only [g_okI, decide_eq_true_eq] at hok
      obtain ⟨v, h1, h2⟩ := g_lr_inv hdo
      exact lv_aload hx hb hok (hL.get h1) (go _ _ _ _ h2 hL)
    case aload_n k =>
      simp only [g_okI, decide_eq_true_eq] at hok
      obtain ⟨v, h1, h2⟩ := g_lr_inv hdo
      exact lv_aload_n hx hb hok rfl (hL.get h1) (go _ _ _ _ h2 hL)
    case istore k =>
      simp only [g_okI, decide_eq_true_eq] at hok
      obtain ⟨v, r, rfl, h1, h2⟩ := g_s1_inv hdo
      exact lv_istore hx hb hok hL.1 (by rw [← hL.2.1]; exact h1) rfl (fun ls' h' => go _ _ _ _ h2 (hL.set (v := .int v) rfl h'))
    case istore_n k =>
      simp only [g_okI, decide_eq_true_eq] at hok
      obtain ⟨v, r, rfl, h1, h2⟩ := g_s1_inv hdo
      exact lv_istore_n hx hb hok rfl hL.1 (by rw [← hL.2.1]; exact h1) rfl (fun ls' h' => go _ _ _ _ h2 (hL.set (v := .int v) rfl h'))
    case astore k =>
      simp only [g_okI, decide_eq_true_eq] at hok
      obtain ⟨v, r, rfl, h1, h2⟩ := g_sr_inv hdo
      exact lv_astore hx hb hok hL.1 (by rw [← hL.2.1]; exact h1) rfl (fun ls' h' => go _ _ _ _ h2 (hL.set (v := .ref v) rfl h'))
    case astore_n k =>
      simp only [g_okI, decide_eq_true_eq] at hok
      obtain ⟨v, r, rfl, h1, h2⟩ := g_sr_inv hdo
      exact lv_astore_n hx hb hok rfl hL.1 (by rw [← hL.2.1]; exact h1) rfl (fun ls' h' => go _ _ _ _ h2 (hL.set (v := .ref v) rfl h'))
    case iinc k v =>
      simp only [g_okI, Bool.and_eq_true, decide_eq_true_eq] at hok
      obtain ⟨w, h1, h2, h3⟩ := g_li_inv hdo
      obtain ⟨j, hj⟩ := List.getElem?_of_mem ((g_ll_mem (b0 := b0) (b := b) (j := k) L 0).mpr ⟨k, .int w, by omega, h1, rfl⟩)
      exact lv_iinc (v := w + z) hx hb hok.1 hL.1 hj (by rw [hok.2]) (by rw [← hL.2.1]; exact h2) rfl (fun ls' h' => go _ _ _ _ h3 (hL.set (v := .int (w + z)) rfl h'))
    case iadd =>
      simp only [g_okI, decide_eq_true_eq] at hok
      obtain ⟨v, w, r, rfl, h⟩ := g_s2_inv hdo
      exact lv_iadd hx hb hok (go _ _ _ _ h hL)
    case isub =>
      simp only [g_okI, decide_eq_true_eq] at hok
      obtain ⟨v, w, r, rfl, h⟩ := g_s2_inv hdo
      exact lv_isub hx hb hok (go _ _ _ _ h hL)
    case imul =>
      simp only [g_okI, decide_eq_true_eq] at hok
      obtain ⟨v, w, r, rfl, h⟩ := g_s2_inv hdo
      exact lv_imul hx hb hok (go _ _ _ _ h hL)
    case iand =>
      simp only [g_okI, decide_eq_true_eq] at hok
      obtain ⟨v, w, r, rfl, h⟩ := g_s2_inv hdo
      exact lv_iand hx hb hok (go _ _ _ _ h hL)
    case ior =>
      simp only [g_okI, decide_eq_true_eq] at hok
      obtain ⟨v, w, r, rfl, h⟩ := g_s2_inv hdo
      exact lv_ior hx hb hok (go _ _ _ _ h hL)
    case ixor =>
      simp only [g_okI, decide_eq_true_eq] at hok
      obtain ⟨v, w, r, rfl, h⟩ := g_s2_inv hdo
      exact lv_ixor hx hb hok (go _ _ _ _ h hL)
    case ishl =>
      simp only [g_okI, decide_eq_true_eq] at hok
      obtain ⟨v, w, r, rfl, h⟩ := g_s2_inv hdo
      exact lv_ishl hx hb hok (go _ _ _ _ h hL)
    case ishr =>
      simp only [g_okI, decide_eq_true_eq] at hok
      obtain ⟨v, w, r, rfl, h⟩ := g_s2_inv hdo
      exact lv_ishr hx hb hok (go _ _ _ _ h hL)
    case iushr =>
      simp only [g_okI, decide_eq_true_eq] at hok
      obtain ⟨v, w, r, rfl, h⟩ := g_s2_inv hdo
      exact lv_iushr hx hb hok rfl (go _ _ _ _ h hL)
    case idiv =>
      simp only [g_okI, decide_eq_true_eq] at hok
      obtain ⟨v, w, r, rfl, h0, h⟩ := g_s2_inv hdo
      exact lv_idiv hx hb hok h0 (go _ _ _ _ h hL)
    case irem =>
      simp only [g_okI, decide_eq_true_eq] at hok
      obtain ⟨v, w, r, rfl, h0, h⟩ := g_s2_inv hdo
      exact lv_irem hx hb hok h0 (go _ _ _ _ h hL)
    case dup =>
      simp only [g_okI, decide_eq_true_eq] at hok
      match st, hdo with
      | v :: r, hdo => exact lv_dup hx hb hok (by rw [g_cv_cat]; exact hdo.1) (go _ _ _ _ hdo.2 hL)
    case pop =>
      simp only [g_okI, decide_eq_true_eq] at hok
      match st, hdo with
      | v :: r, hdo => exact lv_pop hx hb hok (by rw [g_cv_cat]; exact hdo.1) (go _ _ _ _ hdo.2 hL)
    case dup2 =>
      simp only [g_okI, decide_eq_true_eq] at hok
      match st, hdo with
      | v :: w :: r, hdo => exact lv_dup2_11 hx hb hok (by rw [g_cv_cat]; exact hdo.1) (by rw [g_cv_cat]; exact hdo.2.1) (go _ _ _ _ hdo.2.2 hL)
    case goto o =>
      simp only [g_okI, Bool.and_eq_true, decide_eq_true_eq] at hok
      exact lv_goto hx hb hok.1 hok.2 (go _ _ _ _ hdo hL)
    case if_icmp cd o =>
      simp only [g_okI, Bool.and_eq_true, decide_eq_true_eq] at hok
      obtain ⟨v, w, r, rfl, h1, h2⟩ := g_s2_inv hdo
      cases cd
      · exact lv_icmp_eq hx hb hok.1 hok.2 (fun q => go _ _ _ _ (h1 q) hL) (fun q => go _ _ _ _ (h2 q) hL)
      · exact lv_icmp_ne hx hb hok.1 hok.2 (fun q => go _ _ _ _ (h1 q) hL) (fun q => go _ _ _ _ (h2 (fun z => z q)) hL)
      · exact lv_icmp_lt hx hb hok.1 hok.2 (fun q => go _ _ _ _ (h1 q) hL) (fun q => go _ _ _ _ (h2 q) hL)
      · exact lv_icmp_ge hx hb hok.1 hok.2 (fun q => go _ _ _ _ (h1 q) hL) (fun q => go _ _ _ _ (h2 q) hL)
      · exact lv_icmp_gt hx hb hok.1 hok.2 (fun q => go _ _ _ _ (h1 q) hL) (fun q => go _ _ _ _ (h2 q) hL)
      · exact lv_icmp_le hx hb hok.1 hok.2 (fun q => go _ _ _ _ (h1 q) hL) (fun q => go _ _ _ _ (h2 q) hL)
    case ifCond cd o =>
      simp only [g_okI, Bool.and_eq_true, decide_eq_true_eq] at hok
      obtain ⟨v, r, rfl, h1, h2⟩ := g_s1_inv hdo
      cases cd
      · exact lv_if_eq hx hb hok.1 hok.2 (fun q => go _ _ _ _ (h1 q) hL) (fun q => go _ _ _ _ (h2 q) hL)
      · exact lv_if_ne hx hb hok.1 hok.2 (fun q => go _ _ _ _ (h1 q) hL) (fun q => go _ _ _ _ (h2 (fun z => z q)) hL)
      · exact lv_if_lt hx hb hok.1 hok.2 (fun q => go _ _ _ _ (h1 q) hL) (fun q => go _ _ _ _ (h2 q) hL)
      · exact lv_if_ge hx hb hok.1 hok.2 (fun q => go _ _ _ _ (h1 q) hL) (fun q => go _ _ _ _ (h2 q) hL)
      · exact lv_if_gt hx hb hok.1 hok.2 (fun q => go _ _ _ _ (h1 q) hL) (fun q => go _ _ _ _ (h2 q) hL)
      · exact lv_if_le hx hb hok.1 hok.2 (fun q => go _ _ _ _ (h1 q) hL) (fun q => go _ _ _ _ (h2 q) hL)
    case tableswitch d lo hi offs =>
      simp only [g_okI, Bool.and_eq_true, decide_eq_true_eq, List.all_eq_true] at hok
      obtain ⟨⟨⟨hd, h0⟩, hsz⟩, hall⟩ := hok
      obtain ⟨v, r, rfl, h⟩ := g_s1_inv hdo
      have hd2 : ∃ len, decode (g_meth m).2.2.1 pc = .ok (.tableswitch d lo hi offs, len) := by
        split at hd
        · next j len hj =>
          simp only [decide_eq_true_eq] at hd
          exact ⟨len, by rw [hj, hd]⟩
        · cases hd
      obtain ⟨len, hd3⟩ := hd2
      by_cases hr : v.toInt < lo ∨ hi < v.toInt
      · have ht : g_tgt pc d lo hi offs v = ((pc : Int) + d).toNat := by unfold g_tgt; rw [if_pos hr]
        rw [ht] at h
        exact lv_tableOut hx hb hd3 hr (by omega) (go _ _ _ _ h hL)
      · have hlt : (v.toInt - lo).toNat < offs.size := by omega
        have ho : offs[(v.toInt - lo).toNat]? = some (offs.getD (v.toInt - lo).toNat 0) := by
          simp [Array.getD, hlt]
        have hm : offs.getD (v.toInt - lo).toNat 0 ∈ offs.toList := by
          rw [← Array.getElem?_toList] at ho
          exact List.mem_of_getElem? ho
        have hp := hall _ hm
        have ht : g_tgt pc d lo hi offs v = ((pc : Int) + offs.getD (v.toInt - lo).toNat 0).toNat := by unfold g_tgt; rw [if_neg hr]
        rw [ht] at h
        exact lv_tableIn hx hb hd3 (fun q => hr (Or.inl q)) (fun q => hr (Or.inr q)) ho (by omega) (go _ _ _ _ h hL)
    case getfield k =>
      simp only [g_okI, Bool.and_eq_true, decide_eq_true_eq] at hok
      obtain ⟨q, r, rfl, h⟩ := g_sr_inv hdo
      obtain ⟨ho, hq, h⟩ := g_obj_inv h
      obtain ⟨cq, hc, hk, hlink⟩ := g_any_fl hok.2
      have hq1000 : q ≠ 1000 := by have := hW.1.2.1; omega
      have hpl := hW.1.2.2 q hq
      unfold g_pl at hpl
      rw [ho] at hpl
      obtain ⟨rc, hrc, hO⟩ := hpl
      cases hrc.symm.trans hc
      obtain ⟨c1, c2, c3⟩ := g_cls_ok hc
      have hP : va_P Dd g_cls [(b + q, .inr (a, (List.range cq.2.2).map (fun j => g_cv b0 b (g_av g.2.1 g.2.2 q a j))))] H := by
        intro j y hy
        match j, hy with
        | 0, hy =>
          cases hy
          refine ⟨cq, hc, hO.to (fun j hj => ?_)⟩
          simp [vp_V, hj]
        | j + 1, hy => simp at hy
      have hgo := go _ _ _ _ h hL
      rw [List.map_cons] at hgo
      show W p l e R s mm args below meth c H locs cells slots _ (F0 mm pc ls (g_cv b0 b (.ref q) :: r.map (g_cv b0 b)))
      rw [g_cv_ref hq1000]
      exact va_get (Ts := g_tbl) (own := g_nm (g_meth m).1) hx hb hts c3 hown hEn.1 hP 0 rfl hc bb hk (hts _ hlink) (fun _ h => h) (by simp [hk]) hok.1 hgo
    case putfield k =>
      simp only [g_okI, Bool.and_eq_true, decide_eq_true_eq] at hok
      obtain ⟨⟨hdg, hfl⟩, hfn⟩ := hok
      obtain ⟨cq, hc, hk, hlink⟩ := g_any_fl hfl
      obtain ⟨c1, c2, c3⟩ := g_cls_ok hc
      have hfin : (cq.2.1 bb).2.2.2 = false ∨ (meth.name = "<init>" ∧ (cq.2.1 bb).1 = g_nm (g_meth m).1) := by
        rw [hc] at hfn
        simp only [Bool.or_eq_true, Bool.and_eq_true, decide_eq_true_eq, Bool.not_eq_true'] at hfn
        rcases hfn with h | ⟨h1, h2⟩
        · exact Or.inl h
        · exact Or.inr ⟨hname h1, h2⟩
      have key : ∀ (v : Value) (q : Nat) (r : List Value) (g' : gS), g_shp q = .inr a → q < g.1 → narrow (g_tyf a bb) (g_cv b0 b v) = g_cv b0 b v → fits (g_tyf a bb) (g_cv b0 b v) = true → g'.1 = g.1 → (∀ y, y ≠ q → g'.2.1 y = g.2.1 y) → (∀ y, y ≠ q → g'.2.2 y = g.2.2 y) → (∀ j, g_cv b0 b (g_av g'.2.1 g'.2.2 q a j) = updV (fun j => g_cv b0 b (g_av g.2.1 g.2.2 q a j)) bb (g_cv b0 b v) j) → EvN X n m (pc + 3) L r g' rr →
          W p l e R s mm args below meth c H locs cells slots (MQ below (g_Q Dd cI cZ b0 b rr) args s mc ms (fun q => b ≤ q)) (F0 mm pc ls (g_cv b0 b v :: g_cv b0 b (.ref q) :: r.map (g_cv b0 b))) := by
        intro v q r g' ho hq hn1 hn2 hg hr hs hav h
        have hq1000 : q ≠ 1000 := by have := hW.1.2.1; omega
        have hpl := hW.1.2.2 q hq
        unfold g_pl at hpl
        rw [ho] at hpl
        obtain ⟨rc, hrc, hO⟩ := hpl
        cases hrc.symm.trans hc
        rw [g_cv_ref hq1000]
        refine gw_put (Ts := g_tbl) (own := g_nm (g_meth m).1) hx hb hts c3 (g_tyf a) c1 c2 hown hEn.1 hO hc bb hk (hts _ hlink) hfin hn1 hn2 hdg (fun H1 locs1 e1 e2 e3 e4 => ?_)
        refine goW _ _ g' _ _ h hg ?_ e2 (fun y hy => e3 y (by omega)) (fun y hy => ?_)
        · obtain ⟨n', ρ', σ'⟩ := g'
          obtain ⟨n0, ρ, σ⟩ := g
          dsimp only at hg hr hs hav hq ⊢
          subst hg
          refine hW.1.set (p := q) hr hs e2 e3 ?_
          unfold g_pl
          rw [ho]
          exact ⟨cq, hc, e1.to (fun j _ => (hav j).symm)⟩
        · rcases e4 y hy with h1 | h1
          · exact Or.inl h1
          · exact Or.inr (by rw [h1]; exact Nat.le_add_right _ _)
      match st, hdo with
      | .int v :: st', hdo =>
        obtain ⟨q, r, rfl, h⟩ := g_sr_inv hdo
        obtain ⟨ho, hq, hR1, h⟩ := g_obj_inv h
        have hti := g_isR_int hR1
        refine key (.int v) q r (g.1, g.2.1, g_up g.2.2 q bb v) ho hq (by rw [hti]; rfl) (by rw [hti]; rfl) rfl (fun _ _ => rfl) (fun y hy => by simp only [g_up, if_neg hy]) (fun j => ?_) h
        by_cases hj : j = bb
        · subst hj
          simp [updV, g_av, hR1, g_up, upd, g_cv]
        · simp [updV, g_av, g_up, upd, hj]
      | .ref v :: st', hdo =>
        obtain ⟨q, r, rfl, h⟩ := g_sr_inv hdo
        obtain ⟨ho, hq, hR1, hv1, h⟩ := g_obj_inv h
        obtain ⟨f1, f2⟩ := g_fits_ref hc hk hR1 (if v = 1000 then b0 else b + v)
        refine key (.ref v) q r (g.1, g_ur g.2.1 q bb (some v), g.2.2) ho hq f1 f2 rfl (fun y hy => by funext j; simp only [g_ur, if_neg hy]) (fun _ _ => rfl) (fun j => ?_) h
        by_cases hj : j = bb
        · subst hj
          simp [updV, g_av, hR1, g_ur, va_rf]
        · simp [updV, g_av, g_ur, hj]
    case iaload =>
      simp only [g_okI, decide_eq_true_eq] at hok
      obtain ⟨j, r0, rfl, h0⟩ := g_s1_inv hdo
      obtain ⟨q, r, rfl, h⟩ := g_sr_inv h0
      show W p l e R s mm args below meth c H locs cells slots _ (F0 mm pc ls (.int j :: g_cv b0 b (.ref q) :: r.map (g_cv b0 b)))
      rcases g_ald_inv h with ⟨rfl, -, hin, h⟩ | ⟨hq1000, len, ho, hq, hin, h⟩
      · have : g_cv b0 b (.ref 1000) = .ref b0 := rfl
        rw [this]
        exact va_sld (H0 := H) (A := fun q => b ≤ q) (locs := locs) hx hb hW.2.2 (by have := hW.1.1; have := hW.2.1; omega) (by have := hW.2.1; omega) ⟨Nat.le_refl _, fun _ _ _ => rfl, hS.2.2⟩ hin hok (go _ _ _ _ h hL)
      · rw [g_cv_ref hq1000]
        have hpl := hW.1.2.2 q hq
        unfold g_pl at hpl
        rw [ho] at hpl
        have hP : va_P Dd g_cls [(b + q, .inl (cI, len, .inl (g.2.2 q)))] H := by
          intro k y hy
          match k, hy with
          | 0, hy => cases hy; exact hpl
          | k + 1, hy => simp at hy
        exact va_iald hx hb hEn.1 hP 0 0 rfl rfl hin hok (go _ _ _ _ h hL)
    case baload =>
      simp only [g_okI, decide_eq_true_eq] at hok
      obtain ⟨j, r0, rfl, h0⟩ := g_s1_inv hdo
      obtain ⟨q, r, rfl, h⟩ := g_sr_inv h0
      show W p l e R s mm args below meth c H locs cells slots _ (F0 mm pc ls (.int j :: g_cv b0 b (.ref q) :: r.map (g_cv b0 b)))
      rcases g_ald_inv h with ⟨rfl, hz, hin, h⟩ | ⟨hq1000, len, ho, hq, hin, h⟩
      · cases hz
      · rw [g_cv_ref hq1000]
        have hpl := hW.1.2.2 q hq
        unfold g_pl at hpl
        rw [ho] at hpl
        have hP : va_P Dd g_cls [(b + q, .inl (cZ, len, .inl (g.2.2 q)))] H := by
          intro k y hy
          match k, hy with
          | 0, hy => cases hy; exact hpl
          | k + 1, hy => simp at hy
        exact va_zald hx hb hEn.1 hP 0 1 rfl rfl hin hok (go _ _ _ _ h hL)
    case iastore =>
      simp only [g_okI, decide_eq_true_eq] at hok
      obtain ⟨v, r0, rfl, h0⟩ := g_s1_inv hdo
      obtain ⟨j, r1, rfl, h1⟩ := g_s1_inv h0
      obtain ⟨q, r, rfl, h2⟩ := g_sr_inv h1
      obtain ⟨len, ho, hq, hin, h⟩ := g_ast_inv h2
      have hq1000 : q ≠ 1000 := by have := hW.1.2.1; omega
      have hpl := hW.1.2.2 q hq
      unfold g_pl at hpl
      rw [ho] at hpl
      show W p l e R s mm args below meth c H locs cells slots _ (F0 mm pc ls (.int v :: .int j :: g_cv b0 b (.ref q) :: r.map (g_cv b0 b)))
      rw [g_cv_ref hq1000]
      refine W.iast hx hb hpl ((hEn.1.2 0 _ rfl).1 len (fun j => .int (g.2.2 q j))) (fun q => by cases q) (by rw [arrV_size]; exact hin) rfl rfl hok fun H1 e1 e2 e3 => ?_
      refine goW _ _ _ _ _ h rfl ?_ e2 (fun y hy => e3 y (Nat.ne_of_lt (Nat.lt_of_lt_of_le hy (Nat.le_add_right b q)))) (fun y hy => ?_)
      · obtain ⟨n0, ρ, σ⟩ := g
        refine hW.1.set (p := q) (fun _ _ => rfl) (fun y hy => by simp only [g_up, if_neg hy]) e2 e3 ?_
        unfold g_pl
        rw [ho]
        rw [e1, arrV_store]
        congr 2
        funext y
        by_cases hy : y = j.toNatClampNeg
        · simp [updV, g_up, upd, hy]
        · simp [updV, g_up, upd, hy]
      · rcases List.mem_append.mp hy with h1 | h1
        · exact Or.inl h1
        · rw [List.mem_singleton.mp h1]
          exact Or.inr (Nat.le_add_right _ _)
    case bastore =>
      simp only [g_okI, decide_eq_true_eq] at hok
      obtain ⟨v, r0, rfl, h0⟩ := g_s1_inv hdo
      obtain ⟨j, r1, rfl, h1⟩ := g_s1_inv h0
      obtain ⟨q, r, rfl, h2⟩ := g_sr_inv h1
      obtain ⟨len, ho, hq, hin, h⟩ := g_ast_inv h2
      have hq1000 : q ≠ 1000 := by have := hW.1.2.1; omega
      have hpl := hW.1.2.2 q hq
      unfold g_pl at hpl
      rw [ho] at hpl
      show W p l e R s mm args below meth c H locs cells slots _ (F0 mm pc ls (.int v :: .int j :: g_cv b0 b (.ref q) :: r.map (g_cv b0 b)))
      rw [g_cv_ref hq1000]
      refine W.zast hx hb hpl ((hEn.1.2 1 _ rfl).1 len (fun j => .int (g.2.2 q j))) (fun q => by cases q) (by rw [arrV_size]; exact hin) rfl rfl hok fun H1 e1 e2 e3 => ?_
      refine goW _ _ _ _ _ h rfl ?_ e2 (fun y hy => e3 y (Nat.ne_of_lt (Nat.lt_of_lt_of_le hy (Nat.le_add_right b q)))) (fun y hy => ?_)
      · obtain ⟨n0, ρ, σ⟩ := g
        refine hW.1.set (p := q) (fun _ _ => rfl) (fun y hy => by simp only [g_up, if_neg hy]) e2 e3 ?_
        unfold g_pl
        rw [ho]
        rw [e1, arrV_store]
        congr 2
        funext y
        by_cases hy : y = j.toNatClampNeg
        · simp [updV, g_up, upd, hy, narrow]
        · simp [updV, g_up, upd, hy]
      · rcases List.mem_append.mp hy with h1 | h1
        · exact Or.inl h1
        · rw [List.mem_singleton.mp h1]
          exact Or.inr (Nat.le_add_right _ _)
    case arraylength =>
      simp only [g_okI, decide_eq_true_eq] at hok
      obtain ⟨q, r, rfl, h⟩ := g_sr_inv hdo
      show W p l e R s mm args below meth c H locs cells slots _ (F0 mm pc ls (g_cv b0 b (.ref q) :: r.map (g_cv b0 b)))
      by_cases hq1000 : q = 1000
      · rw [if_pos hq1000] at h
        subst hq1000
        have : g_cv b0 b (.ref 1000) = .ref b0 := rfl
        rw [this]
        exact va_slen (H0 := H) (A := fun q => b ≤ q) (locs := locs) hx hb hW.2.2 (by have := hW.1.1; have := hW.2.1; omega) (by have := hW.2.1; omega) ⟨Nat.le_refl _, fun _ _ _ => rfl, hS.2.2⟩ hok (go _ _ _ _ h hL)
      · rw [if_neg hq1000] at h
        rw [g_cv_ref hq1000]
        split at h
        · next w ho =>
          obtain ⟨w1, w2⟩ := w
          obtain ⟨hq, h⟩ := h
          have hpl := hW.1.2.2 q hq
          unfold g_pl at hpl
          rw [ho] at hpl
          have hP : va_P Dd g_cls [(b + q, .inl (if w1 then cZ else cI, w2, .inl (g.2.2 q)))] H := by
            intro k y hy
            match k, hy with
            | 0, hy => cases hy; exact hpl
            | k + 1, hy => simp at hy
          cases w1
          · exact va_alen (ty := .int) hx hb hEn.1 hP 0 0 rfl rfl rfl hok (go _ _ _ _ h hL)
          · exact va_alen (ty := .boolean) hx hb hEn.1 hP 0 1 rfl rfl rfl hok (go _ _ _ _ h hL)
        · exact h.elim
    case new k =>
      simp only [g_okI, Bool.and_eq_true, decide_eq_true_eq] at hok
      obtain ⟨hsh, h47, hr0, hs0, h⟩ := hdo
      obtain ⟨cq, hc, hn1, hn2, hn3⟩ := g_any_nw hok.2
      obtain ⟨c1, c2, c3⟩ := g_cls_ok hc
      have hle := EvN_n n h
      have hsl := g_slots_mono hle
      have hsz : g_slots (g.1 + 1) = g_slots g.1 + cq.2.2 := by show g_slots g.1 + g_sz g.1 = _; rw [g_sz_cls hc hsh]
      obtain ⟨r1, r2, r3, r4⟩ := hR
      dsimp only at hle hsl
      have hKn := hEn.1.1 a _ hc
      refine W.newcK (h := b + g.1) hx hb hown (hts _ hn1) (hts _ hn2) (hts _ hn3) rfl hok.1 (by omega) (by omega) hKn.2.1 hW.1.1 fun H1 kC hkC e1 z1 o1 => ?_
      have hWP : g_WP Dd cI cZ b0 b (g.1 + 1, g.2.1, g.2.2) H1 := by
        refine ⟨by rw [z1]; rfl, h47, fun q hq => ?_⟩
        dsimp only at hq ⊢
        by_cases hqg : q = g.1
        · subst hqg
          unfold g_pl
          rw [hsh]
          refine ⟨cq, hc, (u_born (g_tyf a) hts c3 hKn hkC e1 c1).to (fun j hj => ?_)⟩
          simp only [g_av, hr0, hs0]
          have key : ∀ c, c < 5 → ∀ k, k < 25 → defaultValue (g_tyf c k) = if g_isR c k then .null else .int 0 := by decide +kernel
          have ha : a < 5 := (List.getElem?_eq_some_iff.mp hc).1
          have hj25 : j < 25 := by
            match a, hc with
            | 0, hc => cases hc; exact Nat.lt_of_lt_of_le hj (by decide)
            | 1, hc => cases hc; exact Nat.lt_of_lt_of_le hj (by decide)
            | 2, hc => cases hc; exact Nat.lt_of_lt_of_le hj (by decide)
            | 3, hc => cases hc; exact Nat.lt_of_lt_of_le hj (by decide)
            | 4, hc => cases hc; exact Nat.lt_of_lt_of_le hj (by decide)
            | c + 5, hc => omega
          rw [key a ha j hj25]
          cases g_isR a j <;> rfl
        · exact (hW.1.2.2 q (by omega)).congr rfl rfl (o1 _ (by omega))
      have := IH m (pc + 3) L (.ref g.1 :: st) (g.1 + 1, g.2.1, g.2.2) rr h p e R s mm args below meth c H1 locs (cells + 1) (slots + cq.2.2) mc ms ls hC0 hL ⟨hWP, hW.2.1, g_X.kept hW.2.1 hW.2.2 (fun q hq => o1 q (by omega))⟩ ⟨by have := hS.1; have := hW.1.1; omega, fun q h1 h2 => by rw [o1 q (by omega)]; exact hS.2.1 q h1 h2, hS.2.2⟩ hbs ⟨by dsimp only; omega, by dsimp only; omega, r3, r4⟩
      rw [List.map_cons, g_cv_ref (by omega)] at this
      exact this
    case newarray t =>
      simp only [g_okI, decide_eq_true_eq] at hok
      obtain ⟨v, r, rfl, ht, hsh, hv0, hv2, h47, hs0, h⟩ := g_s1_inv hdo
      have hle := EvN_n n h
      have hsl := g_slots_mono hle
      have hsz : g_slots (g.1 + 1) = g_slots g.1 + v.toNatClampNeg := by show g_slots g.1 + g_sz g.1 = _; unfold g_sz; rw [hsh]
      obtain ⟨r1, r2, r3, r4⟩ := hR
      dsimp only at hle hsl
      have fin : ∀ (cA : ClassId) (H1 : Heap), (if decide (t = .boolean) = true then cZ else cI) = cA → H1[b + g.1]? = some (arrV cA v.toNatClampNeg (fun _ => .int 0)) → H1.size = b + g.1 + 1 → (∀ q, q < b + g.1 → H1[q]? = H[q]?) → W p l e R s mm args below meth c H1 locs (cells + 1) (slots + v.toNatClampNeg) (MQ below (g_Q Dd cI cZ b0 b rr) args s mc ms (fun q => b ≤ q)) (F0 mm (pc + 2) ls (.ref (b + g.1) :: r.map (g_cv b0 b))) := by
        intro cA H1 hA e1 z1 o1
        have hWP : g_WP Dd cI cZ b0 b (g.1 + 1, g.2.1, g.2.2) H1 := by
          refine ⟨by rw [z1]; rfl, h47, fun q hq => ?_⟩
          dsimp only at hq ⊢
          by_cases hqg : q = g.1
          · subst hqg
            unfold g_pl
            rw [hsh]
            dsimp only
            rw [hA, e1, hs0]
          · exact (hW.1.2.2 q (by omega)).congr rfl rfl (o1 _ (by omega))
        have := IH m (pc + 2) L (.ref g.1 :: r) (g.1 + 1, g.2.1, g.2.2) rr h p e R s mm args below meth c H1 locs (cells + 1) (slots + v.toNatClampNeg) mc ms ls hC0 hL ⟨hWP, hW.2.1, g_X.kept hW.2.1 hW.2.2 (fun q hq => o1 q (by omega))⟩ ⟨by have := hS.1; have := hW.1.1; omega, fun q h1 h2 => by rw [o1 q (by omega)]; exact hS.2.1 q h1 h2, hS.2.2⟩ hbs ⟨by dsimp only; omega, by dsimp only; omega, r3, r4⟩
        rw [List.map_cons, g_cv_ref (by omega)] at this
        exact this
      rcases ht with rfl | rfl
      · refine va_newaK (atype := .int) (h := b + g.1) hx hb (hts _ (g_memT g_ai_ok)) rfl hok (n := v) (rest := r.map (g_cv b0 b)) rfl hv0 rfl (by show v.toNatClampNeg * 4 ≤ _; omega) (by omega) (by omega) hW.1.1 fun H1 cA e1 z1 o1 hAr hNm => ?_
        have h2 : s.vm.findClass ("[" ++ (FieldType.int).toString) = some cI := (hEn.1.2 0 _ rfl).2
        have : cA = cI := Option.some.inj (hNm.symm.trans h2)
        subst this
        exact fin cA H1 rfl e1 z1 o1
      · refine va_newaK (atype := .boolean) (h := b + g.1) hx hb (hts _ (g_memT g_az_ok)) rfl hok (n := v) (rest := r.map (g_cv b0 b)) rfl hv0 rfl (by show v.toNatClampNeg * 1 ≤ _; omega) (by omega) (by omega) hW.1.1 fun H1 cA e1 z1 o1 hAr hNm => ?_
        have h2 : s.vm.findClass ("[" ++ (FieldType.boolean).toString) = some cZ := (hEn.1.2 1 _ rfl).2
        have : cA = cZ := Option.some.inj (hNm.symm.trans h2)
        subst this
        exact fin cA H1 rfl e1 z1 o1
    case invokestatic k =>
      simp only [g_okI, Bool.and_eq_true, decide_eq_true_eq] at hok
      simp only [g_do] at hdo
      by_cases h998 : a = 998
      · simp only [if_pos h998] at hok hdo
        simp only [Bool.and_eq_true, decide_eq_true_eq] at hok
        obtain ⟨v, w, r, rfl, hcat, h⟩ := g_s2_inv hdo
        refine va_mmax hx hb (by rw [hml]; exact hL.1.1.symm) hown (hts _ (g_any_mx hok.2.1.1)) (hts _ (g_memT g_mxS_ok)) (hts _ (g_memT g_mxI_ok)) (hts _ (g_memT g_mxC_ok)) (Nat.le_trans hok.2.1.2 hfr) (by rw [g_cat_map]; have := hok.2.2; omega) ?_ ?_ hok.1 (go _ _ _ _ h hL)
        · have := EvN_n n h; have := hR.1; have := hR.2.2.1; omega
        · have := g_slots_mono (EvN_n n h); have := hR.2.1; have := hR.2.2.2; omega
      · simp only [if_neg h998] at hok hdo
        simp only [Bool.and_eq_true, decide_eq_true_eq] at hok
        split at hdo
        · next A r hp =>
          obtain ⟨hcat, ⟨hA, hAc⟩, v, g1, h3, h4⟩ := hdo
          obtain ⟨q1, q2⟩ := g_pops_eq _ _ _ _ _ hp
          have hn1 := EvN_n n h3
          refine g_cont (a' := (A.map (g_cv b0 b)).toArray) IH h4 hn1 hC0 hL hW hS hbs hR (fun hf => ?_)
          obtain ⟨a', h⟩ := g_runS IH hC0 hL hW (L := L) hok.2.1.1.1 (by rw [q1, hok.2.1.1.2]; rfl) hok.2.1.2 hok.2.2 hok.1 (st := st) (by rw [q2]; rfl) hcat hA hAc h3 hf
          exact h
        · exact hdo.elim
    case invokevirtual k =>
      simp only [g_okI, Bool.and_eq_true, decide_eq_true_eq] at hok
      simp only [g_do] at hdo
      split at hdo
      · next q A r hp =>
        obtain ⟨ho, hq, hdo⟩ := g_obj_inv hdo
        obtain ⟨hcat, ⟨hA, hAc⟩, v, g1, h3, h4⟩ := hdo
        obtain ⟨q1, q2⟩ := g_pops_eq _ _ _ _ _ hp
        have hn1 := EvN_n n h3
        refine g_cont (a' := #[]) IH h4 hn1 hC0 hL hW hS hbs hR (fun hf => ?_)
        obtain ⟨a', h⟩ := g_runV IH hC0 hL hW (L := L) hok.1.1.1.2 (by have := q1; simp at this; rw [this, hok.1.1.2]) hok.1.2 hok.2 hok.1.1.1.1 (st := st) (by rw [q2]; rfl) ho hq hcat hA hAc h3 hf
        exact h
      · exact hdo.elim
    case invokespecial k =>
      simp only [g_okI, Bool.and_eq_true, decide_eq_true_eq] at hok
      simp only [g_do] at hdo
      by_cases h999 : a = 999
      · simp only [if_pos h999] at hok hdo
        simp only [Bool.and_eq_true, decide_eq_true_eq] at hok
        split at hdo
        · next q =>
          exact W.objInit hx hb hown (hts _ (g_any_ob hok.2.1.1)) (hts _ (g_memT g_obI_ok)) (hts _ (g_memT g_obC_ok)) rfl (by rw [hml]; exact hL.1.1) rfl hok.1 (Nat.le_trans hok.2.1.2 hfr) (by show 2 * 0 + 0 + 12 ≤ _; have := hok.2.2; omega) (go _ _ _ _ hdo hL)
        · exact hdo.elim
      · simp only [if_neg h999] at hok hdo
        simp only [Bool.and_eq_true, decide_eq_true_eq] at hok
        split at hdo
        · next q A r hp =>
          obtain ⟨hcat, ⟨hA, hAc⟩, v, g1, h3, h4⟩ := hdo
          obtain ⟨q1, q2⟩ := g_pops_eq _ _ _ _ _ hp
          have hn1 := EvN_n n h3
          refine g_cont (a' := #[]) IH h4 hn1 hC0 hL hW hS hbs hR (fun hf => ?_)
          obtain ⟨a', h⟩ := g_runI IH hC0 hL hW (L := L) hok.2.1.1.1 (by have := q1; simp at this; rw [this, hok.2.1.1.2]) hok.2.1.2 hok.2.2 hok.1 (st := st) (by rw [q2]; rfl) hcat hA hAc h3 hf
          exact h
        · exact hdo.elim
    case ireturn =>
      simp only [g_okI, decide_eq_true_eq] at hok
      match st, hdo with
      | [.int v], hdo =>
        obtain ⟨hz, hrr⟩ := hdo
        subst hrr
        obtain ⟨r1, r2, r3, r4⟩ := hR
        dsimp only at r1 r2
        have e1 : cells = mc := by omega
        have e2 : slots = ms := by omega
        subst e1; subst e2
        have hrt := g_rt_at hat
        have hq : ∀ t : State, t.heap = H → s.WarmedH t.vm → g_Q Dd cI cZ b0 b (some (.int v), g) args s (.returned (some (.int v))) t := fun t ht _ => ⟨rfl, by rw [ht]; exact hW.1, fun q hq => by rw [ht]; exact hS.2.1 q (by omega) (by omega)⟩
        dsimp only [g_rtI] at hrt
        simp only [Bool.or_eq_true, decide_eq_true_eq] at hrt
        rcases hrt with hrt | hrt
        · exact W.iret hx hb (by rw [hret, hrt]) hq hS.2.2 hok
        · exact W.zret (ty := .boolean) hx hb (by rw [hret, hrt]) (by show Value.int (v &&& 1) = _; rw [hz (by unfold g_isZ; rw [hrt])]) hq hS.2.2 hok
    case return_ =>
      simp only [g_okI, decide_eq_true_eq] at hok
      obtain ⟨rfl, hrr⟩ := hdo
      subst hrr
      obtain ⟨r1, r2, r3, r4⟩ := hR
      dsimp only at r1 r2
      have e1 : cells = mc := by omega
      have e2 : slots = ms := by omega
      subst e1; subst e2
      have hrt := g_rt_at hat
      dsimp only [g_rtI] at hrt
      simp only [decide_eq_true_eq] at hrt
      exact W.vret hx hb (by rw [hret, hrt]) (fun t ht _ => ⟨rfl, by rw [ht]; exact hW.1, fun q hq => by rw [ht]; exact hS.2.1 q (by omega) (by omega)⟩) hS.2.2 hok
    all_goals exact hdo.elim
