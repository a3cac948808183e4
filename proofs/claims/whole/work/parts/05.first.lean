theorem m_123 : (Jvm.Cond.initialized "QuantityQuarry$Protocol") ∈ zq_W := zq_of 123 (by decide +kernel) (by decide +kernel)
theorem m_134 : (Jvm.Cond.initialized "java/lang/IllegalStateException") ∈ zq_W := zq_of 134 (by decide +kernel) (by decide +kernel)
theorem m_142 : (Jvm.Cond.initialized "java/lang/IndexOutOfBoundsException") ∈ zq_W := zq_of 142 (by decide +kernel) (by decide +kernel)
theorem m_203 : (Jvm.Cond.fieldLink "QuantityQuarry$Protocol" (34 : Nat) "QuantityQuarry$Protocol" "nodeCount" "I") ∈ zq_W := zq_of 203 (by decide +kernel) (by decide +kernel)
theorem m_298 : (Jvm.Cond.fieldLink "QuantityQuarry" (10 : Nat) "QuantityQuarry" "protocol" "LQuantityQuarry$Protocol;") ∈ zq_W := zq_of 298 (by decide +kernel) (by decide +kernel)
theorem m_299 : (Jvm.Cond.fieldLink "QuantityQuarry" (18 : Nat) "QuantityQuarry" "parties" "[LQuantityQuarry$Party;") ∈ zq_W := zq_of 299 (by decide +kernel) (by decide +kernel)
theorem m_304 : (Jvm.Cond.fieldLink "QuantityQuarry" (281 : Nat) "QuantityQuarry" "isInRun" "Z") ∈ zq_W := zq_of 304 (by decide +kernel) (by decide +kernel)
theorem m_425 : (Jvm.Cond.classLink "QuantityQuarry" (53 : Nat) "java/lang/IllegalStateException") ∈ zq_W := zq_of 425 (by decide +kernel) (by decide +kernel)
theorem m_664 : (Jvm.Cond.classLink "QuantityQuarry" (183 : Nat) "java/lang/IndexOutOfBoundsException") ∈ zq_W := zq_of 664 (by decide +kernel) (by decide +kernel)
theorem m_721 : (Jvm.Cond.methodLink "QuantityQuarry" (376 : Nat) ({ cls := "QuantityQuarry$Protocol", name := "hasNode", desc := "(I)Z" } : Jvm.MethodName)) ∈ zq_W := zq_of 721 (by decide +kernel) (by decide +kernel)
theorem m_722 : (Jvm.Cond.instanceMethod ({ cls := "QuantityQuarry$Protocol", name := "hasNode", desc := "(I)Z" } : Jvm.MethodName)) ∈ zq_W := zq_of 722 (by decide +kernel) (by decide +kernel)
theorem m_723 : (Jvm.Cond.selects "QuantityQuarry$Protocol" ({ cls := "QuantityQuarry$Protocol", name := "hasNode", desc := "(I)Z" } : Jvm.MethodName) ({ cls := "QuantityQuarry$Protocol", name := "hasNode", desc := "(I)Z" } : Jvm.MethodName)) ∈ zq_W := zq_of 723 (by decide +kernel) (by decide +kernel)
theorem m_724 : (Jvm.Cond.code ({ cls := "QuantityQuarry$Protocol", name := "hasNode", desc := "(I)Z" } : Jvm.MethodName) prog_7_method_5_code (2 : Nat) (Option.some Jvm.ClassFile.FieldType.boolean)) ∈ zq_W := zq_of 724 (by decide +kernel) (by decide +kernel)
theorem in_X7 : ∀ w ∈ u_ws RX7 TX7 11, w ∈ zq_W := zq_ins [309, 311, 313, 315, 317, 319, 321, 323, 325, 327, 329] (by decide +kernel) (by decide +kernel)
theorem in_X5 : ∀ w ∈ u_ws RX5 TX5 9, w ∈ zq_W := zq_ins [209, 211, 213, 215, 217, 219, 221, 223, 225] (by decide +kernel) (by decide +kernel)
theorem at_X7_57_b : (vx_atS "QuantityQuarry" 57 "java/lang/IllegalStateException" ["java/lang/RuntimeException", "java/lang/Exception"]).all (fun w => (goodWord w || zq_nw w) && decide (w ∈ lw_tbl)) = true := by decide +kernel
theorem at_X7_57_g : ∀ w ∈ Cond.classLink "QuantityQuarry" 53 "java/lang/IllegalStateException" :: Cond.initialized "java/lang/IllegalStateException" :: vx_atS "QuantityQuarry" 57 "java/lang/IllegalStateException" ["java/lang/RuntimeException", "java/lang/Exception"], vx_ot w = true := by decide +kernel
theorem at_X7_187_b : (vx_atS "QuantityQuarry" 187 "java/lang/IndexOutOfBoundsException" ["java/lang/RuntimeException", "java/lang/Exception"]).all (fun w => (goodWord w || zq_nw w) && decide (w ∈ lw_tbl)) = true := by decide +kernel
theorem at_X7_187_g : ∀ w ∈ Cond.classLink "QuantityQuarry" 183 "java/lang/IndexOutOfBoundsException" :: Cond.initialized "java/lang/IndexOutOfBoundsException" :: vx_atS "QuantityQuarry" 187 "java/lang/IndexOutOfBoundsException" ["java/lang/RuntimeException", "java/lang/Exception"], vx_ot w = true := by decide +kernel
theorem str_X7_374 : ("QuantityQuarry", 374, "there is no such party") ∈ zq_str := List.mem_filterMap.mpr ⟨(Jvm.Cond.stringRef "QuantityQuarry" (374 : Nat) "there is no such party"), zq_tm 673 (by decide +kernel), rfl⟩
theorem str_X7_379 : ("QuantityQuarry", 379, "there is no such node") ∈ zq_str := List.mem_filterMap.mpr ⟨(Jvm.Cond.stringRef "QuantityQuarry" (379 : Nat) "there is no such node"), zq_tm 725 (by decide +kernel), rfl⟩
theorem str_X7_388 : ("QuantityQuarry", 388, "no run has begun") ∈ zq_str := List.mem_filterMap.mpr ⟨(Jvm.Cond.stringRef "QuantityQuarry" (388 : Nat) "no run has begun"), zq_tm 1177 (by decide +kernel), rfl⟩
theorem d_X5_hasNode_0 : decode prog_7_method_5_code 0 = .ok (.iload_n 1, 1) := by decide +kernel
theorem d_X5_hasNode_1 : decode prog_7_method_5_code 1 = .ok (.ifCond .lt 15, 3) := by decide +kernel
theorem d_X5_hasNode_4 : decode prog_7_method_5_code 4 = .ok (.iload_n 1, 1) := by decide +kernel
theorem d_X5_hasNode_5 : decode prog_7_method_5_code 5 = .ok (.aload_n 0, 1) := by decide +kernel
theorem d_X5_hasNode_6 : decode prog_7_method_5_code 6 = .ok (.getfield 34, 3) := by decide +kernel
theorem d_X5_hasNode_9 : decode prog_7_method_5_code 9 = .ok (.if_icmp .ge 7, 3) := by decide +kernel
theorem d_X5_hasNode_16 : decode prog_7_method_5_code 16 = .ok (.iconst 0, 1) := by decide +kernel
theorem d_X5_hasNode_17 : decode prog_7_method_5_code 17 = .ok (.ireturn, 1) := by decide +kernel
theorem d_X7_partyNumbered_0 : decode prog_1_method_41_code 0 = .ok (.iload_n 1, 1) := by decide +kernel
theorem d_X7_partyNumbered_1 : decode prog_1_method_41_code 1 = .ok (.ifCond .lt 21, 3) := by decide +kernel
theorem d_X7_partyNumbered_4 : decode prog_1_method_41_code 4 = .ok (.iload_n 1, 1) := by decide +kernel
theorem d_X7_partyNumbered_5 : decode prog_1_method_41_code 5 = .ok (.aload_n 0, 1) := by decide +kernel
theorem d_X7_partyNumbered_6 : decode prog_1_method_41_code 6 = .ok (.getfield 18, 3) := by decide +kernel
theorem d_X7_partyNumbered_9 : decode prog_1_method_41_code 9 = .ok (.arraylength, 1) := by decide +kernel
theorem d_X7_partyNumbered_10 : decode prog_1_method_41_code 10 = .ok (.if_icmp .ge 12, 3) := by decide +kernel
theorem d_X7_partyNumbered_13 : decode prog_1_method_41_code 13 = .ok (.aload_n 0, 1) := by decide +kernel
theorem d_X7_partyNumbered_14 : decode prog_1_method_41_code 14 = .ok (.getfield 18, 3) := by decide +kernel
theorem d_X7_partyNumbered_17 : decode prog_1_method_41_code 17 = .ok (.iload_n 1, 1) := by decide +kernel
theorem d_X7_partyNumbered_18 : decode prog_1_method_41_code 18 = .ok (.aaload, 1) := by decide +kernel
theorem d_X7_partyNumbered_19 : decode prog_1_method_41_code 19 = .ok (.goto 4, 3) := by decide +kernel
theorem d_X7_partyNumbered_22 : decode prog_1_method_41_code 22 = .ok (.aconst_null, 1) := by decide +kernel
theorem d_X7_partyNumbered_23 : decode prog_1_method_41_code 23 = .ok (.astore_n 2, 1) := by decide +kernel
theorem d_X7_partyNumbered_24 : decode prog_1_method_41_code 24 = .ok (.aload_n 2, 1) := by decide +kernel
theorem d_X7_partyNumbered_25 : decode prog_1_method_41_code 25 = .ok (.ifnonnull 14, 3) := by decide +kernel
theorem d_X7_partyNumbered_28 : decode prog_1_method_41_code 28 = .ok (.new 183, 3) := by decide +kernel
theorem d_X7_partyNumbered_31 : decode prog_1_method_41_code 31 = .ok (.dup, 1) := by decide +kernel
theorem d_X7_partyNumbered_32 : decode prog_1_method_41_code 32 = .ok (.ldc_w 374, 3) := by decide +kernel
theorem d_X7_partyNumbered_35 : decode prog_1_method_41_code 35 = .ok (.invokespecial 187, 3) := by decide +kernel
theorem d_X7_partyNumbered_38 : decode prog_1_method_41_code 38 = .ok (.athrow, 1) := by decide +kernel
theorem d_X7_requireNoRun_0 : decode prog_1_method_44_code 0 = .ok (.aload_n 0, 1) := by decide +kernel
theorem d_X7_requireNoRun_1 : decode prog_1_method_44_code 1 = .ok (.getfield 281, 3) := by decide +kernel
theorem d_X7_requireNoRun_4 : decode prog_1_method_44_code 4 = .ok (.ifCond .eq 14, 3) := by decide +kernel
theorem d_X7_requireNoRun_18 : decode prog_1_method_44_code 18 = .ok (.return_, 1) := by decide +kernel
theorem d_X7_requireNode_0 : decode prog_1_method_42_code 0 = .ok (.aload_n 0, 1) := by decide +kernel
theorem d_X7_requireNode_1 : decode prog_1_method_42_code 1 = .ok (.getfield 10, 3) := by decide +kernel
theorem d_X7_requireNode_4 : decode prog_1_method_42_code 4 = .ok (.iload_n 1, 1) := by decide +kernel
theorem d_X7_requireNode_5 : decode prog_1_method_42_code 5 = .ok (.invokevirtual 376, 3) := by decide +kernel
theorem d_X7_requireNode_8 : decode prog_1_method_42_code 8 = .ok (.ifCond .ne 14, 3) := by decide +kernel
theorem d_X7_requireNode_11 : decode prog_1_method_42_code 11 = .ok (.new 183, 3) := by decide +kernel
theorem d_X7_requireNode_14 : decode prog_1_method_42_code 14 = .ok (.dup, 1) := by decide +kernel
theorem d_X7_requireNode_15 : decode prog_1_method_42_code 15 = .ok (.ldc_w 379, 3) := by decide +kernel
theorem d_X7_requireNode_18 : decode prog_1_method_42_code 18 = .ok (.invokespecial 187, 3) := by decide +kernel
theorem d_X7_requireNode_21 : decode prog_1_method_42_code 21 = .ok (.athrow, 1) := by decide +kernel
theorem d_X7_requireRun_0 : decode prog_1_method_45_code 0 = .ok (.aload_n 0, 1) := by decide +kernel
theorem d_X7_requireRun_1 : decode prog_1_method_45_code 1 = .ok (.getfield 281, 3) := by decide +kernel
theorem d_X7_requireRun_4 : decode prog_1_method_45_code 4 = .ok (.ifCond .ne 14, 3) := by decide +kernel
theorem d_X7_requireRun_7 : decode prog_1_method_45_code 7 = .ok (.new 53, 3) := by decide +kernel
theorem d_X7_requireRun_10 : decode prog_1_method_45_code 10 = .ok (.dup, 1) := by decide +kernel
theorem d_X7_requireRun_11 : decode prog_1_method_45_code 11 = .ok (.ldc_w 388, 3) := by decide +kernel
theorem d_X7_requireRun_14 : decode prog_1_method_45_code 14 = .ok (.invokespecial 57, 3) := by decide +kernel
theorem d_X7_requireRun_17 : decode prog_1_method_45_code 17 = .ok (.athrow, 1) := by decide +kernel
set_option maxHeartbeats 4000000 in
set_option maxRecDepth 100000 in
theorem c_requireNoRun (l : Launch) (hl0 : l.stackTraces = false) (D : va_G) (ax : Nat) (pr : Nat) (ps : Nat) (v2 : Nat) (v3 : Nat) (v4 : Nat) (v5 : Nat) (sz : Nat)  : Met l (⟨"QuantityQuarry", "requireNoRun", "()V"⟩) ((Jvm.Cond.code ({ cls := "QuantityQuarry", name := "requireNoRun", desc := "()V" } : Jvm.MethodName) prog_1_method_44_code (1 : Nat) (Option.none : Option Jvm.ClassFile.FieldType)) :: zq_W) ({ frames := 0, cells := 0, slots := 0, locals := 0 }) (zq_Pc D zq_cl [.ref ax] sz [(ax, .inr (0, [.ref pr, .ref ps, .ref v2, .ref v3, .ref v4, .ref v5, .int 0, .int 0, .int 0, .int 0, .long 0]))] []) (va_Qv (fun _ : Unit => True) (fun (u : Unit) (t : State) => zq_B D zq_cl [(ax, .inr (0, [.ref pr, .ref ps, .ref v2, .ref v3, .ref v4, .ref v5, .int 0, .int 0, .int 0, .int 0, .long 0]))] [] (va_A [(ax, .inr (0, [.ref pr, .ref ps, .ref v2, .ref v3, .ref v4, .ref v5, .int 0, .int 0, .int 0, .int 0, .long 0]))] sz) t) (va_A [(ax, .inr (0, [.ref pr, .ref ps, .ref v2, .ref v3, .ref v4, .ref v5, .int 0, .int 0, .int 0, .int 0, .long 0]))] sz)) 0 0 (va_A [(ax, .inr (0, [.ref pr, .ref ps, .ref v2, .ref v3, .ref v4, .ref v5, .int 0, .int 0, .int 0, .int 0, .long 0]))] sz) := by
  refine Met.ofW (cc := prog_1_method_44_code) (maxL := 1) (ret := (Option.none : Option Jvm.ClassFile.FieldType)) (by decide) rfl ?_
  intro p e s m args below meth c s₁ B hml hv
  obtain ⟨rfl, hsz, hP, hK, hD0, hN, hT⟩ := hv
  have hx := B.exec
  have hb := B.bytes
  have hr := B.returns
  have hts := atoms_spec (ws := ((Jvm.Cond.code ({ cls := "QuantityQuarry", name := "requireNoRun", desc := "()V" } : Jvm.MethodName) prog_1_method_44_code (1 : Nat) (Option.none : Option Jvm.ClassFile.FieldType)) :: zq_W)) B.pre
  have hown : s.vm.findClass "QuantityQuarry" = some m.cls := findClass_of_methodNamed B.named
  have hlocks := B.notSynchronized
  subst hsz
  have hD := hD0.self (sz := s.heap.size)
  generalize hAe : va_A [(ax, .inr (0, [.ref pr, .ref ps, .ref v2, .ref v3, .ref v4, .ref v5, .int 0, .int 0, .int 0, .int 0, .long 0]))] s.heap.size = A at hD hT ⊢
  have hA : ∀ q : Nat, s.heap.size ≤ q → A q := fun q h => by rw [← hAe]; exact Or.inr h
  have hS : va_S A s.heap s.heap [] := va_S.rf
  have hP : va_P D zq_cl [(ax, .inr (0, [.ref pr, .ref ps, .ref v2, .ref v3, .ref v4, .ref v5, .int 0, .int 0, .int 0, .int 0, .long 0]))] s.heap := hP
  have hl := lv_entry ([.ref ax]) (n := 1) (Nat.le_of_ble_eq_true rfl)
  rw [lg_entry_eq]
  generalize (lg_sl ([.ref ax]) ++ List.replicate (1 - (lg_sl ([.ref ax])).length) Slot.unset).toArray = ls at hl ⊢
  have hl : lv_has ls 1 [(0, .ref ax)] := hl
  refine lv_aload_n hx hb d_X7_requireNoRun_0 rfl (lv_at hl 0 rfl) ?_
  refine va_get (D := D) (cl := zq_cl) (ci := 0) (v := .int 0) (C := RX7) (T := TX7) (N := 11) hx hb hts (fun w h => List.mem_cons_of_mem _ (in_X7 w h)) hown hK hP 0 rfl rfl 6 (by decide) (hts _ (List.mem_cons_of_mem _ m_304)) (fun _ h9 => h9) rfl d_X7_requireNoRun_1 ?_
  refine lv_if_eq (tgt := 18) hx hb d_X7_requireNoRun_4 (by decide) (fun _ => ?_) (fun h => absurd (by decide) h)
  have hP9 := hP.sub (ws' := [(ax, .inr (0, [.ref pr, .ref ps, .ref v2, .ref v3, .ref v4, .ref v5, .int 0, .int 0, .int 0, .int 0, .long 0]))]) [0] rfl
  have hD9 := hD.sub (ws' := [(ax, .inr (0, [.ref pr, .ref ps, .ref v2, .ref v3, .ref v4, .ref v5, .int 0, .int 0, .int 0, .int 0, .long 0]))]) [0] (by decide) rfl
  have hK9 := hK.sub (tys' := []) [] rfl
  refine W.widen (k := 0) (n := 0) (Nat.le_of_ble_eq_true rfl) (Nat.le_of_ble_eq_true rfl) ?_
  exact W.vret hx hb hr (fun t ht hW => ⟨⟨(), rfl, trivial, ⟨by rw [ht]; exact hP9, va_K.moved hW.alike hK9, hD9⟩⟩, hS.F ht⟩) hS.2.2 d_X7_requireNoRun_18

set_option maxHeartbeats 4000000 in
set_option maxRecDepth 100000 in
theorem c_requireRun (l : Launch) (hl0 : l.stackTraces = false) (D : va_G) (ax : Nat) (pr : Nat) (ps : Nat) (v2 : Nat) (v3 : Nat) (v4 : Nat) (v5 : Nat) (sz : Nat)  : vx_Met l (⟨"QuantityQuarry", "requireRun", "()V"⟩) ((Jvm.Cond.code ({ cls := "QuantityQuarry", name := "requireRun", desc := "()V" } : Jvm.MethodName) prog_1_method_45_code (1 : Nat) (Option.none : Option Jvm.ClassFile.FieldType)) :: zq_W) ({ frames := 6, cells := 1, slots := 6, locals := 82 }) (zq_Pc D zq_cl [.ref ax] sz [(ax, .inr (0, [.ref pr, .ref ps, .ref v2, .ref v3, .ref v4, .ref v5, .int 0, .int 0, .int 0, .int 0, .long 0]))] []) (zq_no (va_A [(ax, .inr (0, [.ref pr, .ref ps, .ref v2, .ref v3, .ref v4, .ref v5, .int 0, .int 0, .int 0, .int 0, .long 0]))] sz)) (zq_X D zq_cl [(ax, .inr (0, [.ref pr, .ref ps, .ref v2, .ref v3, .ref v4, .ref v5, .int 0, .int 0, .int 0, .int 0, .long 0]))] [] (va_A [(ax, .inr (0, [.ref pr, .ref ps, .ref v2, .ref v3, .ref v4, .ref v5, .int 0, .int 0, .int 0, .int 0, .long 0]))] sz) "java/lang/IllegalStateException") 1 6 (va_A [(ax, .inr (0, [.ref pr, .ref ps, .ref v2, .ref v3, .ref v4, .ref v5, .int 0, .int 0, .int 0, .int 0, .long 0]))] sz) := by
  refine vx_ofW (cc := prog_1_method_45_code) (maxL := 1) (ret := (Option.none : Option Jvm.ClassFile.FieldType)) (by decide) rfl ?_
  intro p e s m args below meth c s₁ B hml htb hv
  obtain ⟨rfl, hsz, hP, hK, hD0, hN, hT⟩ := hv
  have hx := B.exec
  have hb := B.bytes
  have hr := B.returns
  have hts := atoms_spec (ws := ((Jvm.Cond.code ({ cls := "QuantityQuarry", name := "requireRun", desc := "()V" } : Jvm.MethodName) prog_1_method_45_code (1 : Nat) (Option.none : Option Jvm.ClassFile.FieldType)) :: zq_W)) B.pre
  have hown : s.vm.findClass "QuantityQuarry" = some m.cls := findClass_of_methodNamed B.named
  have hlocks := B.notSynchronized
  subst hsz
  have hD := hD0.self (sz := s.heap.size)
  generalize hAe : va_A [(ax, .inr (0, [.ref pr, .ref ps, .ref v2, .ref v3, .ref v4, .ref v5, .int 0, .int 0, .int 0, .int 0, .long 0]))] s.heap.size = A at hD hT ⊢
  have hA : ∀ q : Nat, s.heap.size ≤ q → A q := fun q h => by rw [← hAe]; exact Or.inr h
  have hS : va_S A s.heap s.heap [] := va_S.rf
  have hP : va_P D zq_cl [(ax, .inr (0, [.ref pr, .ref ps, .ref v2, .ref v3, .ref v4, .ref v5, .int 0, .int 0, .int 0, .int 0, .long 0]))] s.heap := hP
  have hl := lv_entry ([.ref ax]) (n := 1) (Nat.le_of_ble_eq_true rfl)
  rw [lg_entry_eq]
  generalize (lg_sl ([.ref ax]) ++ List.replicate (1 - (lg_sl ([.ref ax])).length) Slot.unset).toArray = ls at hl ⊢
  have hl : lv_has ls 1 [(0, .ref ax)] := hl
  refine lv_aload_n hx hb d_X7_requireRun_0 rfl (lv_at hl 0 rfl) ?_
  refine va_get (D := D) (cl := zq_cl) (ci := 0) (v := .int 0) (C := RX7) (T := TX7) (N := 11) hx hb hts (fun w h => List.mem_cons_of_mem _ (in_X7 w h)) hown hK hP 0 rfl rfl 6 (by decide) (hts _ (List.mem_cons_of_mem _ m_304)) (fun _ h9 => h9) rfl d_X7_requireRun_1 ?_
  refine lv_if_ne (tgt := 18) hx hb d_X7_requireRun_4 (by decide) (fun h => absurd h (by decide)) (fun _ => ?_)
  obtain ⟨sa_1, hsa_1⟩ := hT.2.2.1 ("QuantityQuarry", 388, "no run has begun") str_X7_388
  exact vx_throwSW (names := ["java/lang/RuntimeException", "java/lang/Exception"]) (text := "no run has begun") hx hb hl0 hown (by decide +kernel) (by decide +kernel) (hts _ (List.mem_cons_of_mem _ m_425)) (hts _ (List.mem_cons_of_mem _ m_134)) hsa_1 (zq_hat at_X7_57_b hts hN) at_X7_57_g hT.1 hT.2.1 hS (by rw [hml]; exact hl.1) d_X7_requireRun_7 d_X7_requireRun_10 d_X7_requireRun_11 d_X7_requireRun_14 d_X7_requireRun_17 (fun x hx9 => (htb x hx9).elim) (Nat.le_of_ble_eq_true rfl) (Nat.le_of_ble_eq_true rfl) (Nat.le_of_ble_eq_true rfl) (Nat.le_of_ble_eq_true rfl) hlocks (zq_thr hS hP hK hD) (zq_free hS) (Nat.le_of_ble_eq_true rfl) (Nat.le_of_ble_eq_true rfl)

set_option maxHeartbeats 4000000 in
set_option maxRecDepth 100000 in
theorem c_partyNumbered (l : Launch) (hl0 : l.stackTraces = false) (D : va_G) (ax : Nat) (pr : Nat) (ps : Nat) (v2 : Nat) (v3 : Nat) (v4 : Nat) (v5 : Nat) (cP : ClassId) (n : Int32) (sz : Nat)  : vx_Met l (⟨"QuantityQuarry", "partyNumbered", "(I)LQuantityQuarry$Party;"⟩) ((Jvm.Cond.code ({ cls := "QuantityQuarry", name := "partyNumbered", desc := "(I)LQuantityQuarry$Party;" } : Jvm.MethodName) prog_1_method_41_code (3 : Nat) (Option.some (Jvm.ClassFile.FieldType.object "QuantityQuarry$Party"))) :: zq_W) ({ frames := 6, cells := 1, slots := 6, locals := 82 }) (zq_Pc D zq_cl [.ref ax, .int n] sz [(ax, .inr (0, [.ref pr, .ref ps, .ref v2, .ref v3, .ref v4, .ref v5, .int 0, .int 0, .int 0, .int 0, .long 0])), (ps, .inl (cP, 4, .inr (.inr (.inr (.inr (fun _ => none))))))] [(cP, .object "QuantityQuarry$Party")]) (zq_no (va_A [(ax, .inr (0, [.ref pr, .ref ps, .ref v2, .ref v3, .ref v4, .ref v5, .int 0, .int 0, .int 0, .int 0, .long 0])), (ps, .inl (cP, 4, .inr (.inr (.inr (.inr (fun _ => none))))))] sz)) (zq_X D zq_cl [(ax, .inr (0, [.ref pr, .ref ps, .ref v2, .ref v3, .ref v4, .ref v5, .int 0, .int 0, .int 0, .int 0, .long 0])), (ps, .inl (cP, 4, .inr (.inr (.inr (.inr (fun _ => none))))))] [(cP, .object "QuantityQuarry$Party")] (va_A [(ax, .inr (0, [.ref pr, .ref ps, .ref v2, .ref v3, .ref v4, .ref v5, .int 0, .int 0, .int 0, .int 0, .long 0])), (ps, .inl (cP, 4, .inr (.inr (.inr (.inr (fun _ => none))))))] sz) "java/lang/IndexOutOfBoundsException") 1 6 (va_A [(ax, .inr (0, [.ref pr, .ref ps, .ref v2, .ref v3, .ref v4, .ref v5, .int 0, .int 0, .int 0, .int 0, .long 0])), (ps, .inl (cP, 4, .inr (.inr (.inr (.inr (fun _ => none))))))] sz) := by
  refine vx_ofW (cc := prog_1_method_41_code) (maxL := 3) (ret := (Option.some (Jvm.ClassFile.FieldType.object "QuantityQuarry$Party"))) (by decide) rfl ?_
  intro p e s m args below meth c s₁ B hml htb hv
  obtain ⟨rfl, hsz, hP, hK, hD0, hN, hT⟩ := hv
  have hx := B.exec
  have hb := B.bytes
  have hr := B.returns
  have hts := atoms_spec (ws := ((Jvm.Cond.code ({ cls := "QuantityQuarry", name := "partyNumbered", desc := "(I)LQuantityQuarry$Party;" } : Jvm.MethodName) prog_1_method_41_code (3 : Nat) (Option.some (Jvm.ClassFile.FieldType.object "QuantityQuarry$Party"))) :: zq_W)) B.pre
  have hown : s.vm.findClass "QuantityQuarry" = some m.cls := findClass_of_methodNamed B.named
  have hlocks := B.notSynchronized
  subst hsz
  have hD := hD0.self (sz := s.heap.size)
  generalize hAe : va_A [(ax, .inr (0, [.ref pr, .ref ps, .ref v2, .ref v3, .ref v4, .ref v5, .int 0, .int 0, .int 0, .int 0, .long 0])), (ps, .inl (cP, 4, .inr (.inr (.inr (.inr (fun _ => none))))))] s.heap.size = A at hD hT ⊢
  have hA : ∀ q : Nat, s.heap.size ≤ q → A q := fun q h => by rw [← hAe]; exact Or.inr h
  have hS : va_S A s.heap s.heap [] := va_S.rf
  have hP : va_P D zq_cl [(ax, .inr (0, [.ref pr, .ref ps, .ref v2, .ref v3, .ref v4, .ref v5, .int 0, .int 0, .int 0, .int 0, .long 0])), (ps, .inl (cP, 4, .inr (.inr (.inr (.inr (fun _ => none))))))] s.heap := hP
  have hl := lv_entry ([.ref ax, .int n]) (n := 3) (Nat.le_of_ble_eq_true rfl)
  rw [lg_entry_eq]
  generalize (lg_sl ([.ref ax, .int n]) ++ List.replicate (3 - (lg_sl ([.ref ax, .int n])).length) Slot.unset).toArray = ls at hl ⊢
  have hl : lv_has ls 3 [(0, .ref ax), (1, .int n)] := hl
  refine lv_iload_n hx hb d_X7_partyNumbered_0 rfl (lv_at hl 1 rfl) ?_
  refine lv_if_lt (tgt := 22) hx hb d_X7_partyNumbered_1 (by decide) (fun h_1 => ?_) (fun h_1 => ?_)
  · have _u := 0
    refine lv_null hx hb d_X7_partyNumbered_22 ?_
    refine lv_astore_nN (lv' := [(2, .null), (0, .ref ax), (1, .int n)]) hx hb d_X7_partyNumbered_23 rfl hl (by decide) rfl (fun ls hl => ?_)
    refine lv_aload_nN hx hb d_X7_partyNumbered_24 rfl (lv_at hl 0 rfl) ?_
    refine lv_ifnonnullN hx hb d_X7_partyNumbered_25 ?_
    obtain ⟨sa_2, hsa_2⟩ := hT.2.2.1 ("QuantityQuarry", 374, "there is no such party") str_X7_374
    exact vx_throwSW (names := ["java/lang/RuntimeException", "java/lang/Exception"]) (text := "there is no such party") hx hb hl0 hown (by decide +kernel) (by decide +kernel) (hts _ (List.mem_cons_of_mem _ m_664)) (hts _ (List.mem_cons_of_mem _ m_142)) hsa_2 (zq_hat at_X7_187_b hts hN) at_X7_187_g hT.1 hT.2.1 hS (by rw [hml]; exact hl.1) d_X7_partyNumbered_28 d_X7_partyNumbered_31 d_X7_partyNumbered_32 d_X7_partyNumbered_35 d_X7_partyNumbered_38 (fun x hx9 => (htb x hx9).elim) (Nat.le_of_ble_eq_true rfl) (Nat.le_of_ble_eq_true rfl) (Nat.le_of_ble_eq_true rfl) (Nat.le_of_ble_eq_true rfl) hlocks (zq_thr hS hP hK hD) (zq_free hS) (Nat.le_of_ble_eq_true rfl) (Nat.le_of_ble_eq_true rfl)
  · have _u := 0
    refine lv_iload_n hx hb d_X7_partyNumbered_4 rfl (lv_at hl 1 rfl) ?_
    refine lv_aload_n hx hb d_X7_partyNumbered_5 rfl (lv_at hl 0 rfl) ?_
    refine va_get (D := D) (cl := zq_cl) (ci := 0) (v := .ref ps) (C := RX7) (T := TX7) (N := 11) hx hb hts (fun w h => List.mem_cons_of_mem _ (in_X7 w h)) hown hK hP 0 rfl rfl 1 (by decide) (hts _ (List.mem_cons_of_mem _ m_299)) (fun _ h9 => h9) rfl d_X7_partyNumbered_6 ?_
    refine va_alen hx hb hK hP 1 0 rfl rfl (v := 4) (by decide) d_X7_partyNumbered_9 ?_
    refine lv_icmp_ge (tgt := 22) hx hb d_X7_partyNumbered_10 (by decide) (fun h_3 => ?_) (fun h_3 => ?_)
    · have _u := 0
      refine lv_null hx hb d_X7_partyNumbered_22 ?_
      refine lv_astore_nN (lv' := [(2, .null), (0, .ref ax), (1, .int n)]) hx hb d_X7_partyNumbered_23 rfl hl (by decide) rfl (fun ls hl => ?_)
      refine lv_aload_nN hx hb d_X7_partyNumbered_24 rfl (lv_at hl 0 rfl) ?_
      refine lv_ifnonnullN hx hb d_X7_partyNumbered_25 ?_
      obtain ⟨sa_4, hsa_4⟩ := hT.2.2.1 ("QuantityQuarry", 374, "there is no such party") str_X7_374
      exact vx_throwSW (names := ["java/lang/RuntimeException", "java/lang/Exception"]) (text := "there is no such party") hx hb hl0 hown (by decide +kernel) (by decide +kernel) (hts _ (List.mem_cons_of_mem _ m_664)) (hts _ (List.mem_cons_of_mem _ m_142)) hsa_4 (zq_hat at_X7_187_b hts hN) at_X7_187_g hT.1 hT.2.1 hS (by rw [hml]; exact hl.1) d_X7_partyNumbered_28 d_X7_partyNumbered_31 d_X7_partyNumbered_32 d_X7_partyNumbered_35 d_X7_partyNumbered_38 (fun x hx9 => (htb x hx9).elim) (Nat.le_of_ble_eq_true rfl) (Nat.le_of_ble_eq_true rfl) (Nat.le_of_ble_eq_true rfl) (Nat.le_of_ble_eq_true rfl) hlocks (zq_thr hS hP hK hD) (zq_free hS) (Nat.le_of_ble_eq_true rfl) (Nat.le_of_ble_eq_true rfl)
    · have _u := 0
      refine lv_aload_n hx hb d_X7_partyNumbered_13 rfl (lv_at hl 0 rfl) ?_
      refine va_get (D := D) (cl := zq_cl) (ci := 0) (v := .ref ps) (C := RX7) (T := TX7) (N := 11) hx hb hts (fun w h => List.mem_cons_of_mem _ (in_X7 w h)) hown hK hP 0 rfl rfl 1 (by decide) (hts _ (List.mem_cons_of_mem _ m_299)) (fun _ h9 => h9) rfl d_X7_partyNumbered_14 ?_
      refine lv_iload_n hx hb d_X7_partyNumbered_17 rfl (lv_at hl 1 rfl) ?_
      refine va_aldq hx hb hK hP 1 0 rfl rfl (zq_vin h_1 h_3 ⟨rfl, by decide⟩) d_X7_partyNumbered_18 ?_
      refine W.eq (g2 := F0 m 19 ls [.null]) rfl ?_
      refine lv_goto (tgt := 23) hx hb d_X7_partyNumbered_19 (by decide) ?_
      refine lv_astore_nN (lv' := [(2, .null), (0, .ref ax), (1, .int n)]) hx hb d_X7_partyNumbered_23 rfl hl (by decide) rfl (fun ls hl => ?_)
      refine lv_aload_nN hx hb d_X7_partyNumbered_24 rfl (lv_at hl 0 rfl) ?_
      refine lv_ifnonnullN hx hb d_X7_partyNumbered_25 ?_
      obtain ⟨sa_5, hsa_5⟩ := hT.2.2.1 ("QuantityQuarry", 374, "there is no such party") str_X7_374
      exact vx_throwSW (names := ["java/lang/RuntimeException", "java/lang/Exception"]) (text := "there is no such party") hx hb hl0 hown (by decide +kernel) (by decide +kernel) (hts _ (List.mem_cons_of_mem _ m_664)) (hts _ (List.mem_cons_of_mem _ m_142)) hsa_5 (zq_hat at_X7_187_b hts hN) at_X7_187_g hT.1 hT.2.1 hS (by rw [hml]; exact hl.1) d_X7_partyNumbered_28 d_X7_partyNumbered_31 d_X7_partyNumbered_32 d_X7_partyNumbered_35 d_X7_partyNumbered_38 (fun x hx9 => (htb x hx9).elim) (Nat.le_of_ble_eq_true rfl) (Nat.le_of_ble_eq_true rfl) (Nat.le_of_ble_eq_true rfl) (Nat.le_of_ble_eq_true rfl) hlocks (zq_thr hS hP hK hD) (zq_free hS) (Nat.le_of_ble_eq_true rfl) (Nat.le_of_ble_eq_true rfl)

set_option maxHeartbeats 4000000 in
set_option maxRecDepth 100000 in
theorem c_hasNode (l : Launch) (hl0 : l.stackTraces = false) (D : va_G) (pr : Nat) (s0 : Nat) (s1 : Nat) (s2 : Nat) (s3 : Nat) (s4 : Nat) (s5 : Nat) (n : Int32) (sz : Nat)  : Met l (⟨"QuantityQuarry$Protocol", "hasNode", "(I)Z"⟩) ((Jvm.Cond.code ({ cls := "QuantityQuarry$Protocol", name := "hasNode", desc := "(I)Z" } : Jvm.MethodName) prog_7_method_5_code (2 : Nat) (Option.some Jvm.ClassFile.FieldType.boolean)) :: zq_W) ({ frames := 0, cells := 0, slots := 0, locals := 0 }) (zq_Pc D zq_cl [.ref pr, .int n] sz [(pr, .inr (1, [.ref s0, .ref s1, .ref s2, .ref s3, .ref s4, .ref s5, .int 0, .int (-1), .int 0]))] []) (va_Qi (fun (r : Int32) (_ : Unit) => r = 0) (fun (u : Unit) (t : State) => zq_B D zq_cl [(pr, .inr (1, [.ref s0, .ref s1, .ref s2, .ref s3, .ref s4, .ref s5, .int 0, .int (-1), .int 0]))] [] (va_A [(pr, .inr (1, [.ref s0, .ref s1, .ref s2, .ref s3, .ref s4, .ref s5, .int 0, .int (-1), .int 0]))] sz) t) (va_A [(pr, .inr (1, [.ref s0, .ref s1, .ref s2, .ref s3, .ref s4, .ref s5, .int 0, .int (-1), .int 0]))] sz)) 0 0 (va_A [(pr, .inr (1, [.ref s0, .ref s1, .ref s2, .ref s3, .ref s4, .ref s5, .int 0, .int (-1), .int 0]))] sz) := by
  refine Met.ofW (cc := prog_7_method_5_code) (maxL := 2) (ret := (Option.some Jvm.ClassFile.FieldType.boolean)) (by decide) rfl ?_
  intro p e s m args below meth c s₁ B hml hv
  obtain ⟨rfl, hsz, hP, hK, hD0, hN, hT⟩ := hv
  have hx := B.exec
  have hb := B.bytes
  have hr := B.returns
  have hts := atoms_spec (ws := ((Jvm.Cond.code ({ cls := "QuantityQuarry$Protocol", name := "hasNode", desc := "(I)Z" } : Jvm.MethodName) prog_7_method_5_code (2 : Nat) (Option.some Jvm.ClassFile.FieldType.boolean)) :: zq_W)) B.pre
  have hown : s.vm.findClass "QuantityQuarry$Protocol" = some m.cls := findClass_of_methodNamed B.named
  have hlocks := B.notSynchronized
  subst hsz
  have hD := hD0.self (sz := s.heap.size)
  generalize hAe : va_A [(pr, .inr (1, [.ref s0, .ref s1, .ref s2, .ref s3, .ref s4, .ref s5, .int 0, .int (-1), .int 0]))] s.heap.size = A at hD hT ⊢
  have hA : ∀ q : Nat, s.heap.size ≤ q → A q := fun q h => by rw [← hAe]; exact Or.inr h
  have hS : va_S A s.heap s.heap [] := va_S.rf
  have hP : va_P D zq_cl [(pr, .inr (1, [.ref s0, .ref s1, .ref s2, .ref s3, .ref s4, .ref s5, .int 0, .int (-1), .int 0]))] s.heap := hP
  have hl := lv_entry ([.ref pr, .int n]) (n := 2) (Nat.le_of_ble_eq_true rfl)
  rw [lg_entry_eq]
  generalize (lg_sl ([.ref pr, .int n]) ++ List.replicate (2 - (lg_sl ([.ref pr, .int n])).length) Slot.unset).toArray = ls at hl ⊢
  have hl : lv_has ls 2 [(0, .ref pr), (1, .int n)] := hl
  refine lv_iload_n hx hb d_X5_hasNode_0 rfl (lv_at hl 1 rfl) ?_
  refine lv_if_lt (tgt := 16) hx hb d_X5_hasNode_1 (by decide) (fun h_1 => ?_) (fun h_1 => ?_)
  · have _u := 0
    refine lv_iconst (v := 0) hx hb d_X5_hasNode_16 (by decide) ?_
    have hP9 := hP.sub (ws' := [(pr, .inr (1, [.ref s0, .ref s1, .ref s2, .ref s3, .ref s4, .ref s5, .int 0, .int (-1), .int 0]))]) [0] rfl
    have hD9 := hD.sub (ws' := [(pr, .inr (1, [.ref s0, .ref s1, .ref s2, .ref s3, .ref s4, .ref s5, .int 0, .int (-1), .int 0]))]) [0] (by decide) rfl
    have hK9 := hK.sub (tys' := []) [] rfl
    refine W.widen (k := 0) (n := 0) (Nat.le_of_ble_eq_true rfl) (Nat.le_of_ble_eq_true rfl) ?_
    exact W.zret (v := 0) hx hb hr (by decide) (fun t ht hW => ⟨⟨0, (), rfl, rfl, ⟨by rw [ht]; exact hP9, va_K.moved hW.alike hK9, hD9⟩⟩, hS.F ht⟩) hS.2.2 d_X5_hasNode_17
  · have _u := 0
    refine lv_iload_n hx hb d_X5_hasNode_4 rfl (lv_at hl 1 rfl) ?_
    refine lv_aload_n hx hb d_X5_hasNode_5 rfl (lv_at hl 0 rfl) ?_
    refine va_get (D := D) (cl := zq_cl) (ci := 1) (v := .int 0) (C := RX5) (T := TX5) (N := 9) hx hb hts (fun w h => List.mem_cons_of_mem _ (in_X5 w h)) hown hK hP 0 rfl rfl 6 (by decide) (hts _ (List.mem_cons_of_mem _ m_203)) (fun _ h9 => h9) rfl d_X5_hasNode_6 ?_
    refine lv_icmp_ge (tgt := 16) hx hb d_X5_hasNode_9 (by decide) (fun _ => ?_) (fun h => absurd (Int32.not_lt.mp h_1) h)
    refine lv_iconst (v := 0) hx hb d_X5_hasNode_16 (by decide) ?_
    have hP9 := hP.sub (ws' := [(pr, .inr (1, [.ref s0, .ref s1, .ref s2, .ref s3, .ref s4, .ref s5, .int 0, .int (-1), .int 0]))]) [0] rfl
    have hD9 := hD.sub (ws' := [(pr, .inr (1, [.ref s0, .ref s1, .ref s2, .ref s3, .ref s4, .ref s5, .int 0, .int (-1), .int 0]))]) [0] (by decide) rfl
    have hK9 := hK.sub (tys' := []) [] rfl
    refine W.widen (k := 0) (n := 0) (Nat.le_of_ble_eq_true rfl) (Nat.le_of_ble_eq_true rfl) ?_
    exact W.zret (v := 0) hx hb hr (by decide) (fun t ht hW => ⟨⟨0, (), rfl, rfl, ⟨by rw [ht]; exact hP9, va_K.moved hW.alike hK9, hD9⟩⟩, hS.F ht⟩) hS.2.2 d_X5_hasNode_17

set_option maxHeartbeats 4000000 in
set_option maxRecDepth 100000 in
theorem c_requireNode (l : Launch) (hl0 : l.stackTraces = false) (D : va_G) (ax : Nat) (pr : Nat) (ps : Nat) (v2 : Nat) (v3 : Nat) (v4 : Nat) (v5 : Nat) (s0 : Nat) (s1 : Nat) (s2 : Nat) (s3 : Nat) (s4 : Nat) (s5 : Nat) (n : Int32) (sz : Nat)  : vx_Met l (⟨"QuantityQuarry", "requireNode", "(I)V"⟩) ((Jvm.Cond.code ({ cls := "QuantityQuarry", name := "requireNode", desc := "(I)V" } : Jvm.MethodName) prog_1_method_42_code (2 : Nat) (Option.none : Option Jvm.ClassFile.FieldType)) :: zq_W) ({ frames := 6, cells := 1, slots := 6, locals := 82 }) (zq_Pc D zq_cl [.ref ax, .int n] sz [(ax, .inr (0, [.ref pr, .ref ps, .ref v2, .ref v3, .ref v4, .ref v5, .int 0, .int 0, .int 0, .int 0, .long 0])), (pr, .inr (1, [.ref s0, .ref s1, .ref s2, .ref s3, .ref s4, .ref s5, .int 0, .int (-1), .int 0]))] []) (zq_no (va_A [(ax, .inr (0, [.ref pr, .ref ps, .ref v2, .ref v3, .ref v4, .ref v5, .int 0, .int 0, .int 0, .int 0, .long 0])), (pr, .inr (1, [.ref s0, .ref s1, .ref s2, .ref s3, .ref s4, .ref s5, .int 0, .int (-1), .int 0]))] sz)) (zq_X D zq_cl [(ax, .inr (0, [.ref pr, .ref ps, .ref v2, .ref v3, .ref v4, .ref v5, .int 0, .int 0, .int 0, .int 0, .long 0])), (pr, .inr (1, [.ref s0, .ref s1, .ref s2, .ref s3, .ref s4, .ref s5, .int 0, .int (-1), .int 0]))] [] (va_A [(ax, .inr (0, [.ref pr, .ref ps, .ref v2, .ref v3, .ref v4, .ref v5, .int 0, .int 0, .int 0, .int 0, .long 0])), (pr, .inr (1, [.ref s0, .ref s1, .ref s2, .ref s3, .ref s4, .ref s5, .int 0, .int (-1), .int 0]))] sz) "java/lang/IndexOutOfBoundsException") 1 6 (va_A [(ax, .inr (0, [.ref pr, .ref ps, .ref v2, .ref v3, .ref v4, .ref v5, .int 0, .int 0, .int 0, .int 0, .long 0])), (pr, .inr (1, [.ref s0, .ref s1, .ref s2, .ref s3, .ref s4, .ref s5, .int 0, .int (-1), .int 0]))] sz) := by
  refine vx_ofW (cc := prog_1_method_42_code) (maxL := 2) (ret := (Option.none : Option Jvm.ClassFile.FieldType)) (by decide) rfl ?_
  intro p e s m args below meth c s₁ B hml htb hv
  obtain ⟨rfl, hsz, hP, hK, hD0, hN, hT⟩ := hv
  have hx := B.exec
  have hb := B.bytes
  have hr := B.returns
  have hts := atoms_spec (ws := ((Jvm.Cond.code ({ cls := "QuantityQuarry", name := "requireNode", desc := "(I)V" } : Jvm.MethodName) prog_1_method_42_code (2 : Nat) (Option.none : Option Jvm.ClassFile.FieldType)) :: zq_W)) B.pre
  have hown : s.vm.findClass "QuantityQuarry" = some m.cls := findClass_of_methodNamed B.named
  have hlocks := B.notSynchronized
  subst hsz
  have hD := hD0.self (sz := s.heap.size)
  generalize hAe : va_A [(ax, .inr (0, [.ref pr, .ref ps, .ref v2, .ref v3, .ref v4, .ref v5, .int 0, .int 0, .int 0, .int 0, .long 0])), (pr, .inr (1, [.ref s0, .ref s1, .ref s2, .ref s3, .ref s4, .ref s5, .int 0, .int (-1), .int 0]))] s.heap.size = A at hD hT ⊢
  have hA : ∀ q : Nat, s.heap.size ≤ q → A q := fun q h => by rw [← hAe]; exact Or.inr h
  have hS : va_S A s.heap s.heap [] := va_S.rf
  have hP : va_P D zq_cl [(ax, .inr (0, [.ref pr, .ref ps, .ref v2, .ref v3, .ref v4, .ref v5, .int 0, .int 0, .int 0, .int 0, .long 0])), (pr, .inr (1, [.ref s0, .ref s1, .ref s2, .ref s3, .ref s4, .ref s5, .int 0, .int (-1), .int 0]))] s.heap := hP
  have hl := lv_entry ([.ref ax, .int n]) (n := 2) (Nat.le_of_ble_eq_true rfl)
  rw [lg_entry_eq]
  generalize (lg_sl ([.ref ax, .int n]) ++ List.replicate (2 - (lg_sl ([.ref ax, .int n])).length) Slot.unset).toArray = ls at hl ⊢
  have hl : lv_has ls 2 [(0, .ref ax), (1, .int n)] := hl
  refine lv_aload_n hx hb d_X7_requireNode_0 rfl (lv_at hl 0 rfl) ?_
  refine va_get (D := D) (cl := zq_cl) (ci := 0) (v := .ref pr) (C := RX7) (T := TX7) (N := 11) hx hb hts (fun w h => List.mem_cons_of_mem _ (in_X7 w h)) hown hK hP 0 rfl rfl 0 (by decide) (hts _ (List.mem_cons_of_mem _ m_298)) (fun _ h9 => h9) rfl d_X7_requireNode_1 ?_
  refine lv_iload_n hx hb d_X7_requireNode_4 rfl (lv_at hl 1 rfl) ?_
  have hPc := hP.sub (ws' := [(pr, .inr (1, [.ref s0, .ref s1, .ref s2, .ref s3, .ref s4, .ref s5, .int 0, .int (-1), .int 0]))]) [1] rfl
  have hDc := hD.sub (ws' := [(pr, .inr (1, [.ref s0, .ref s1, .ref s2, .ref s3, .ref s4, .ref s5, .int 0, .int (-1), .int 0]))]) [1] (by decide) rfl
  have hKc := hK.sub (tys' := []) [] rfl
  have hFc := va_free (wc := [(pr, .inr (1, [.ref s0, .ref s1, .ref s2, .ref s3, .ref s4, .ref s5, .int 0, .int (-1), .int 0]))]) hD hS hA [1] rfl
  refine va_calli (va_runV (As := [.int n]) (rest := []) ⟨hx, hb, hml, hown, hts⟩ (c_hasNode l hl0 D pr s0 s1 s2 s3 s4 s5 n H.size ) (cwV 1 hts (zq_in (zq_sV m_721 m_722 m_723 m_123 m_724)) rfl rfl rfl (by decide +kernel) ⟨Nat.le_of_ble_eq_true rfl, Nat.le_of_ble_eq_true rfl⟩) ⟨zq_blind, va_recv hKc hPc (ci := 1) (q0 := 0) rfl rfl, zq_pre hPc hKc hDc hN hT hS hFc⟩ rfl rfl hl.1 rfl (lv_room (Nat.le_of_ble_eq_true rfl)) d_X7_requireNode_5 ⟨Nat.le_of_ble_eq_true rfl, Nat.le_of_ble_eq_true rfl⟩) hS (fun q _ h => hFc q h) hFc (fun r u t H1 locs ht hvm hw hB hz1 hk1 hS => ?_)
  obtain ⟨hP1, hK1, hD1⟩ := hB
  obtain rfl : r = 0 := hw
  rw [ht] at hP1
  obtain ⟨hP, hD⟩ := va_join (wr := [(ax, .inr (0, [.ref pr, .ref ps, .ref v2, .ref v3, .ref v4, .ref v5, .int 0, .int 0, .int 0, .int 0, .long 0]))]) (w1 := [(pr, .inr (1, [.ref s0, .ref s1, .ref s2, .ref s3, .ref s4, .ref s5, .int 0, .int (-1), .int 0]))]) hP hD [1] [0] rfl rfl (by decide) (by decide) hk1 hFc hP1 hD1
  generalize H1 = H at hP hS ⊢
  have hP : va_P D zq_cl [(ax, .inr (0, [.ref pr, .ref ps, .ref v2, .ref v3, .ref v4, .ref v5, .int 0, .int 0, .int 0, .int 0, .long 0])), (pr, .inr (1, [.ref s0, .ref s1, .ref s2, .ref s3, .ref s4, .ref s5, .int 0, .int (-1), .int 0]))] H := hP
  have hD : va_D A [(ax, .inr (0, [.ref pr, .ref ps, .ref v2, .ref v3, .ref v4, .ref v5, .int 0, .int 0, .int 0, .int 0, .long 0])), (pr, .inr (1, [.ref s0, .ref s1, .ref s2, .ref s3, .ref s4, .ref s5, .int 0, .int (-1), .int 0]))] := hD
  refine W.widen (k := 0) (n := 0) (Nat.le_of_ble_eq_true rfl) (Nat.le_of_ble_eq_true rfl) ?_
  refine lv_if_ne (tgt := 22) hx hb d_X7_requireNode_8 (by decide) (fun h => absurd h (by decide)) (fun _ => ?_)
  obtain ⟨sa_1, hsa_1⟩ := hT.2.2.1 ("QuantityQuarry", 379, "there is no such node") str_X7_379
  exact vx_throwSW (names := ["java/lang/RuntimeException", "java/lang/Exception"]) (text := "there is no such node") hx hb hl0 hown (by decide +kernel) (by decide +kernel) (hts _ (List.mem_cons_of_mem _ m_664)) (hts _ (List.mem_cons_of_mem _ m_142)) hsa_1 (zq_hat at_X7_187_b hts hN) at_X7_187_g hT.1 hT.2.1 hS (by rw [hml]; exact hl.1) d_X7_requireNode_11 d_X7_requireNode_14 d_X7_requireNode_15 d_X7_requireNode_18 d_X7_requireNode_21 (fun x hx9 => (htb x hx9).elim) (Nat.le_of_ble_eq_true rfl) (Nat.le_of_ble_eq_true rfl) (Nat.le_of_ble_eq_true rfl) (Nat.le_of_ble_eq_true rfl) hlocks (zq_thr hS hP hK hD) (zq_free hS) (Nat.le_of_ble_eq_true rfl) (Nat.le_of_ble_eq_true rfl)
