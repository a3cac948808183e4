section ZQB
/-- the claim's tables' words that a callee may be handed -/
def zq_W : List Cond := lw_tbl.filter goodWord
theorem zq_of {w : Cond} (i : Nat) (h : lw_tbl[i]? = some w) (g : goodWord w = true) : w ∈ zq_W := List.mem_filter.mpr ⟨List.mem_of_getElem? h, g⟩
theorem zq_good {w : Cond} (h : w ∈ zq_W) : goodWord w = true := (List.mem_filter.mp h).2
theorem zq_tbl {w : Cond} (h : w ∈ zq_W) : w ∈ lw_tbl := (List.mem_filter.mp h).1
theorem zq_in {x : Cond} {ws : List Cond} (h : ∀ w ∈ ws, w ∈ zq_W) : GoodIn (x :: zq_W) ws := fun w hw => ⟨List.mem_cons_of_mem _ (h w hw), good_of_word (zq_good (h w hw))⟩
theorem zq_inT {ws : List Cond} (h : ∀ w ∈ ws, w ∈ zq_W) : GoodIn lw_tbl ws := fun w hw => ⟨zq_tbl (h w hw), good_of_word (zq_good (h w hw))⟩
theorem zq_cons {c : Cond} (h : c ∈ zq_W) : ∀ w ∈ c :: zq_W, w ∈ zq_W := fun w hw => (List.mem_cons.mp hw).elim (fun e => e ▸ h) id
theorem zq_sV {own : String} {idx : Nat} {C : String} {y : MethodName} {c : Cond} (h1 : Cond.methodLink own idx y ∈ zq_W) (h2 : Cond.instanceMethod y ∈ zq_W) (h3 : Cond.selects C y y ∈ zq_W) (h4 : Cond.initialized C ∈ zq_W) (h5 : c ∈ zq_W) : ∀ w ∈ wsV own idx C y (c :: zq_W), w ∈ zq_W := by
  intro w hw
  rcases List.mem_append.mp hw with h | h
  · rcases List.mem_cons.mp h with rfl | h
    · exact h1
    rcases List.mem_cons.mp h with rfl | h
    · exact h2
    rcases List.mem_cons.mp h with rfl | h
    · exact h3
    rcases List.mem_cons.mp h with rfl | h
    · exact h4
    exact absurd h List.not_mem_nil
  · exact zq_cons h5 w h
theorem zq_sS {own : String} {idx : Nat} {y : MethodName} {c : Cond} (h1 : Cond.methodLink own idx y ∈ zq_W) (h2 : Cond.static y ∈ zq_W) (h4 : Cond.initialized y.cls ∈ zq_W) (h5 : c ∈ zq_W) : ∀ w ∈ va_wsS own idx y (c :: zq_W), w ∈ zq_W := by
  intro w hw
  rcases List.mem_append.mp hw with h | h
  · rcases List.mem_cons.mp h with rfl | h
    · exact h1
    rcases List.mem_cons.mp h with rfl | h
    · exact h2
    rcases List.mem_cons.mp h with rfl | h
    · exact h4
    exact absurd h List.not_mem_nil
  · exact zq_cons h5 w h
/-- words that a callee isn't handed, but that stay: between nest mates, over arrays -/
def zq_nw : Cond → Bool
  | .fieldLinkNest _ _ _ _ _ _ => true
  | .methodLinkNest _ _ _ _ => true
  | .arrayOver _ => true
  | .castable _ _ => true
  | _ => false
def zq_N (U : State) : Prop := ∀ w ∈ lw_tbl, zq_nw w = true → va_Nw w U
theorem zq_ao {ty : FieldType} {u U : State} (hvm : u.vm.Alike U.vm) (h : va_Nw (.arrayOver ty) u) : va_Nw (.arrayOver ty) U := (Cond.arrayOver_setVmC (args := #[]) hvm ty).trans h
theorem zq_N.same {u U : State} (h : u.vm = U.vm) (hN : zq_N u) : zq_N U := by
  intro w hw hn
  have h2 := hN w hw hn
  cases w with
  | fieldLinkNest a b c d e f => exact va_Nw.same rfl h h2
  | methodLinkNest a b c d => exact va_Nw.same rfl h h2
  | castable a b => exact va_Nw.same rfl h h2
  | arrayOver ty => exact zq_ao (by rw [h]; exact Vm.Alike.refl U.vm) h2
  | _ => exact (Bool.false_ne_true hn).elim
theorem zq_N.warm {s U : State} (hW : s.WarmedH U.vm) (hN : zq_N s) : zq_N U := by
  intro w hw hn
  have h2 := hN w hw hn
  cases w with
  | fieldLinkNest a b c d e f => exact va_Nw.warmF hW h2
  | methodLinkNest a b c d => exact va_Nw.warmM hW h2
  | castable a b => exact va_Nw.warmC hW h2
  | arrayOver ty => exact zq_ao hW.alike h2
  | _ => exact (Bool.false_ne_true hn).elim
theorem zq_N.use {w : Cond} {A : Array Value} {U : State} (hw : w ∈ lw_tbl) (hn : zq_nw w = true) (hN : zq_N U) : w.before A U = true := by
  have h2 := hN w hw hn
  cases w with
  | fieldLinkNest a b c d e f => exact va_Nw.use rfl h2
  | methodLinkNest a b c d => exact va_Nw.use rfl h2
  | castable a b => exact va_Nw.use rfl h2
  | arrayOver ty => exact h2
  | _ => exact (Bool.false_ne_true hn).elim
/-- the texts that are thrown -/
def zq_str : List (String × Nat × String) := lw_tbl.filterMap fun w => match w with
  | .stringRef a b c => some (a, b, c)
  | _ => none
/-- what a throw needs of the JDK's statics, and the texts -/
def zq_T (A : Nat → Prop) (U : State) (H : Heap) : Prop := vx_Zq Bundle.tN "UNASSIGNED_STACK" Bundle.steD A U H ∧ vx_Zq Bundle.tN "SUPPRESSED_SENTINEL" Bundle.listD A U H ∧ (∀ q ∈ zq_str, ∃ sa : Nat, vk_R q.1 q.2.1 q.2.2 sa U) ∧ va_Nc "java/lang/IllegalStateException" "java/lang/IllegalArgumentException" U
/-- a method's start -/
def zq_Pc (D : va_G) (cl : List vw_C) (av : List Value) (sz : Nat) (ws : va_W) (tys : List (ClassId × FieldType)) : Array Value → State → Prop := fun v U => v = av.toArray ∧ U.heap.size = sz ∧ va_P D cl ws U.heap ∧ va_K D cl tys U ∧ va_D (fun _ => True) ws ∧ zq_N U ∧ zq_T (va_A ws sz) U U.heap
/-- its end -/
def zq_B (D : va_G) (cl : List vw_C) (ws : va_W) (tys : List (ClassId × FieldType)) (A : Nat → Prop) (t : State) : Prop := va_P D cl ws t.heap ∧ va_K D cl tys t ∧ va_D A ws
theorem zq_blind {D : va_G} {cl : List vw_C} {av : List Value} {sz : Nat} {ws : va_W} {tys : List (ClassId × FieldType)} : FrameBlind (zq_Pc D cl av sz ws tys) := fun a U g mk h => by
  obtain ⟨h1, h2, h3, h4, h5, h6, h7, h8, h9, h10⟩ := h
  refine ⟨h1, h2, h3, va_K.moved (u := U) (U := U.calling g mk a) (Vm.Alike.refl U.vm) h4, h5, zq_N.same (u := U) rfl h6, vx_Zq.moved (u := U) (U := U.calling g mk a) (Vm.Alike.refl U.vm) h7, vx_Zq.moved (u := U) (U := U.calling g mk a) (Vm.Alike.refl U.vm) h8, ?_, va_Nc.moved (u := U) (U := U.calling g mk a) (Vm.Alike.refl U.vm) h10⟩
  intro q hq
  obtain ⟨sa, hs⟩ := h9 q hq
  exact ⟨sa, vk_R.same (u := U) rfl hs⟩
theorem zq_pre {D : va_G} {cl : List vw_C} {av : List Value} {wc : va_W} {tys : List (ClassId × FieldType)} {A A2 : Nat → Prop} {s : State} {H : Heap} {locs : List Loc} (hP : va_P D cl wc H) (hK : va_K D cl tys s) (hD : va_D A2 wc) (hN : zq_N s) (hT : zq_T A s s.heap) (hS : va_S A s.heap H locs) (hF : ∀ q, va_A wc H.size q → A q) : ∀ U : State, U.heap = H → s.WarmedH U.vm → zq_Pc D cl av H.size wc tys av.toArray U := by
  intro U hU hW
  refine ⟨rfl, by rw [hU], by rw [hU]; exact hP, va_K.moved hW.alike hK, hD.weaken (fun _ _ _ _ => trivial), zq_N.warm hW hN, ?_, ?_, ?_, va_Nc.moved hW.alike hT.2.2.2⟩
  · rw [hU]; exact vx_Zq.moved hW.alike ((hT.1.kept hS.2.1).narrow hF)
  · rw [hU]; exact vx_Zq.moved hW.alike ((hT.2.1.kept hS.2.1).narrow hF)
  · intro q hq
    obtain ⟨sa, hs⟩ := hT.2.2.1 q hq
    exact ⟨sa, vk_R.warm hW hs⟩
/-- a throw, the world as it was -/
def zq_X (D : va_G) (cl : List vw_C) (ws : va_W) (tys : List (ClassId × FieldType)) (A : Nat → Prop) (F : String) : String → State → State → Prop := vx_X (fun _ : Unit => True) (fun (E : String) (_ : Unit) (t : State) => E = F ∧ zq_B D cl ws tys A t) A
theorem zq_thr {D : va_G} {cl : List vw_C} {ws : va_W} {tys : List (ClassId × FieldType)} {A : Nat → Prop} {s : State} {H : Heap} {locs : List Loc} {F : String} (hS : va_S A s.heap H locs) (hP : va_P D cl ws H) (hK : va_K D cl tys s) (hD : va_D A ws) : ∀ t : State, s.vm.Alike t.vm → H.size ≤ t.heap.size → (∀ q : Nat, q < H.size → t.heap[q]? = H[q]?) → zq_X D cl ws tys A F F s t := by
  intro t hv hz hq
  refine ⟨(), trivial, ⟨rfl, hP.kept (fun k q hk => hq q.1 (vx_lt hP hk)), va_K.moved hv hK, hD⟩, Nat.le_trans hS.1 hz, fun q h1 h2 => ?_⟩
  rw [hq q (Nat.lt_of_lt_of_le h1 hS.1)]
  exact hS.2.1 q h1 h2
theorem zq_out {D : va_G} {cl : List vw_C} {ws : va_W} {tys : List (ClassId × FieldType)} {A : Nat → Prop} {s : State} {H : Heap} {locs : List Loc} {E F : String} (hE : E = F) (hS : va_S A s.heap H locs) (hP : va_P D cl ws H) (hK : va_K D cl tys s) (hD : va_D A ws) : ∀ t : State, t.heap = H → s.vm.Alike t.vm → zq_X D cl ws tys A F E s t := by
  intro t ht hv
  refine ⟨(), trivial, ⟨hE, by rw [ht]; exact hP, va_K.moved hv hK, hD⟩, ?_⟩
  exact hS.F ht
/-- never returns -/
def zq_no (A : Nat → Prop) : Array Value → State → Outcome → State → Prop := va_Qv (fun _ : Unit => False) (fun _ _ => True) A
theorem zq_hat {own X : String} {ic : Nat} {names : List String} {x : Cond} {args : Array Value} {s : State} (h : (vx_atS own ic X names).all (fun w => (goodWord w || zq_nw w) && decide (w ∈ lw_tbl)) = true) (hts : ∀ w ∈ x :: zq_W, w.before args s = true) (hN : zq_N s) : ∀ w ∈ vx_atS own ic X names, w.before args s = true := by
  intro w hw
  have h1 := List.all_eq_true.mp h w hw
  simp only [Bool.and_eq_true, Bool.or_eq_true, decide_eq_true_eq] at h1
  obtain ⟨h2, h3⟩ := h1
  rcases h2 with h2 | h2
  · exact hts w (List.mem_cons_of_mem _ (List.mem_filter.mpr ⟨h3, h2⟩))
  · exact zq_N.use h3 h2 hN
theorem zq_ins {ws : List Cond} (ps : List Nat) (hp : ws = ps.filterMap (fun i => lw_tbl[i]?)) (h : ws.all goodWord = true) : ∀ w ∈ ws, w ∈ zq_W := by
  intro w hw
  refine List.mem_filter.mpr ⟨?_, List.all_eq_true.mp h w hw⟩
  rw [hp] at hw
  obtain ⟨i, -, hi⟩ := List.mem_filterMap.mp hw
  exact List.mem_of_getElem? hi
theorem zq_tm {w : Cond} (i : Nat) (h : lw_tbl[i]? = some w) : w ∈ lw_tbl := List.mem_of_getElem? h
theorem zq_m1 {x : Int32} (h : ¬ x < 0) : (-1) < x := by
  rw [Int32.lt_iff_toInt_lt] at h ⊢
  have e0 : (0 : Int32).toInt = 0 := rfl
  have e1 : (-1 : Int32).toInt = -1 := rfl
  rw [e0] at h
  rw [e1]
  omega
theorem zq_vin {x : Int32} {n : Nat} {m : Int32} (h1 : ¬ x < 0) (h2 : ¬ m ≤ x) (h3 : m = Int32.ofNat n ∧ n < 2 ^ 31) : vp_in x n := by
  rw [vp_in_iff]
  obtain ⟨rfl, hn⟩ := h3
  rw [Int32.lt_iff_toInt_lt] at h1
  rw [Int32.le_iff_toInt_le] at h2
  have e : (Int32.ofNat n).toInt = (n : Int) := nI_toInt hn
  rw [e] at h2
  have e0 : (0 : Int32).toInt = 0 := rfl
  rw [e0] at h1
  omega
theorem zq_free {A : Nat → Prop} {s : State} {H : Heap} {locs : List Loc} (hS : va_S A s.heap H locs) : ∀ z ∈ locs, A z.base := hS.2.2
end ZQB
