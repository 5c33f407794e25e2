/-! The bytes of the page. -/
theorem tw_188 : (Jvm.Cond.initialized "java/lang/IndexOutOfBoundsException") ∈ wd_all := wd_i 188 (by decide +kernel) (by decide +kernel)
theorem tw_2082 : (Jvm.Cond.code ({ cls := "MatrixScripts", name := "shown", desc := "(I)I" } : Jvm.MethodName) prog_1_method_7_code (2 : Nat) (Option.some Jvm.ClassFile.FieldType.int)) ∈ wd_all := wd_i 2082 (by decide +kernel) (by decide +kernel)
theorem tw_2083 : (Jvm.Cond.classLink "MatrixScripts" (70 : Nat) "java/lang/IndexOutOfBoundsException") ∈ wd_all := wd_i 2083 (by decide +kernel) (by decide +kernel)
theorem tw_2098 : (Jvm.Cond.methodLink "MatrixScripts" (73 : Nat) ({ cls := "MatrixScripts$Page", name := "byteAt", desc := "(I)I" } : Jvm.MethodName)) ∈ wd_all := wd_i 2098 (by decide +kernel) (by decide +kernel)
theorem tw_2099 : (Jvm.Cond.instanceMethod ({ cls := "MatrixScripts$Page", name := "byteAt", desc := "(I)I" } : Jvm.MethodName)) ∈ wd_all := wd_i 2099 (by decide +kernel) (by decide +kernel)
theorem tw_2100 : (Jvm.Cond.selects "MatrixScripts$Page" ({ cls := "MatrixScripts$Page", name := "byteAt", desc := "(I)I" } : Jvm.MethodName) ({ cls := "MatrixScripts$Page", name := "byteAt", desc := "(I)I" } : Jvm.MethodName)) ∈ wd_all := wd_i 2100 (by decide +kernel) (by decide +kernel)
theorem tw_2101 : (Jvm.Cond.code ({ cls := "MatrixScripts$Page", name := "byteAt", desc := "(I)I" } : Jvm.MethodName) prog_10_method_2_code (2 : Nat) (Option.some Jvm.ClassFile.FieldType.int)) ∈ wd_all := wd_i 2101 (by decide +kernel) (by decide +kernel)
theorem tw_3075 : (Jvm.Cond.code ({ cls := "MatrixScriptsModel", name := "shown", desc := "(I)I" } : Jvm.MethodName) prog_17_method_66_code (2 : Nat) (Option.some Jvm.ClassFile.FieldType.int)) ∈ wd_all := wd_i 3075 (by decide +kernel) (by decide +kernel)
theorem d_Mdl_shown_0 : decode prog_17_method_66_code 0 = .ok (.aload_n 0, 1) := by decide +kernel
theorem d_Mdl_shown_1 : decode prog_17_method_66_code 1 = .ok (.iload_n 1, 1) := by decide +kernel
theorem d_Mdl_shown_2 : decode prog_17_method_66_code 2 = .ok (.ifCond .lt 11, 3) := by decide +kernel
theorem d_Mdl_shown_5 : decode prog_17_method_66_code 5 = .ok (.iload_n 1, 1) := by decide +kernel
theorem d_Mdl_shown_6 : decode prog_17_method_66_code 6 = .ok (.aload_n 0, 1) := by decide +kernel
theorem d_Mdl_shown_7 : decode prog_17_method_66_code 7 = .ok (.getfield 541, 3) := by decide +kernel
theorem d_Mdl_shown_10 : decode prog_17_method_66_code 10 = .ok (.if_icmp .lt 7, 3) := by decide +kernel
theorem d_Mdl_shown_13 : decode prog_17_method_66_code 13 = .ok (.iconst 1, 1) := by decide +kernel
theorem d_Mdl_shown_14 : decode prog_17_method_66_code 14 = .ok (.goto 4, 3) := by decide +kernel
theorem d_Mdl_shown_17 : decode prog_17_method_66_code 17 = .ok (.iconst 0, 1) := by decide +kernel
theorem d_Mdl_shown_18 : decode prog_17_method_66_code 18 = .ok (.putfield 69, 3) := by decide +kernel
theorem d_Mdl_shown_21 : decode prog_17_method_66_code 21 = .ok (.aload_n 0, 1) := by decide +kernel
theorem d_Mdl_shown_22 : decode prog_17_method_66_code 22 = .ok (.getfield 69, 3) := by decide +kernel
theorem d_Mdl_shown_25 : decode prog_17_method_66_code 25 = .ok (.ifCond .le 7, 3) := by decide +kernel
theorem d_Mdl_shown_28 : decode prog_17_method_66_code 28 = .ok (.iconst 0, 1) := by decide +kernel
theorem d_Mdl_shown_29 : decode prog_17_method_66_code 29 = .ok (.goto 13, 3) := by decide +kernel
theorem d_Mdl_shown_32 : decode prog_17_method_66_code 32 = .ok (.aload_n 0, 1) := by decide +kernel
theorem d_Mdl_shown_33 : decode prog_17_method_66_code 33 = .ok (.getfield 52, 3) := by decide +kernel
theorem d_Mdl_shown_36 : decode prog_17_method_66_code 36 = .ok (.iload_n 1, 1) := by decide +kernel
theorem d_Mdl_shown_37 : decode prog_17_method_66_code 37 = .ok (.baload, 1) := by decide +kernel
theorem d_Mdl_shown_38 : decode prog_17_method_66_code 38 = .ok (.sipush 255, 3) := by decide +kernel
theorem d_Mdl_shown_41 : decode prog_17_method_66_code 41 = .ok (.iand, 1) := by decide +kernel
theorem d_Mdl_shown_42 : decode prog_17_method_66_code 42 = .ok (.ireturn, 1) := by decide +kernel
theorem d_Ms_shown_0 : decode prog_1_method_7_code 0 = .ok (.iload_n 1, 1) := by decide +kernel
theorem d_Ms_shown_1 : decode prog_1_method_7_code 1 = .ok (.ifCond .lt 14, 3) := by decide +kernel
theorem d_Ms_shown_4 : decode prog_1_method_7_code 4 = .ok (.iload_n 1, 1) := by decide +kernel
theorem d_Ms_shown_5 : decode prog_1_method_7_code 5 = .ok (.aload_n 0, 1) := by decide +kernel
theorem d_Ms_shown_6 : decode prog_1_method_7_code 6 = .ok (.getfield 25, 3) := by decide +kernel
theorem d_Ms_shown_9 : decode prog_1_method_7_code 9 = .ok (.getfield 67, 3) := by decide +kernel
theorem d_Ms_shown_12 : decode prog_1_method_7_code 12 = .ok (.if_icmp .lt 11, 3) := by decide +kernel
theorem d_Ms_shown_15 : decode prog_1_method_7_code 15 = .ok (.new 70, 3) := by decide +kernel
theorem d_Ms_shown_18 : decode prog_1_method_7_code 18 = .ok (.dup, 1) := by decide +kernel
theorem d_Ms_shown_19 : decode prog_1_method_7_code 19 = .ok (.invokespecial 72, 3) := by decide +kernel
theorem d_Ms_shown_22 : decode prog_1_method_7_code 22 = .ok (.athrow, 1) := by decide +kernel
theorem d_Ms_shown_23 : decode prog_1_method_7_code 23 = .ok (.aload_n 0, 1) := by decide +kernel
theorem d_Ms_shown_24 : decode prog_1_method_7_code 24 = .ok (.getfield 25, 3) := by decide +kernel
theorem d_Ms_shown_27 : decode prog_1_method_7_code 27 = .ok (.iload_n 1, 1) := by decide +kernel
theorem d_Ms_shown_28 : decode prog_1_method_7_code 28 = .ok (.invokevirtual 73, 3) := by decide +kernel
theorem d_Ms_shown_31 : decode prog_1_method_7_code 31 = .ok (.ireturn, 1) := by decide +kernel
theorem d_Page_byteAt_0 : decode prog_10_method_2_code 0 = .ok (.aload_n 0, 1) := by decide +kernel
theorem d_Page_byteAt_1 : decode prog_10_method_2_code 1 = .ok (.getfield 7, 3) := by decide +kernel
theorem d_Page_byteAt_4 : decode prog_10_method_2_code 4 = .ok (.iload_n 1, 1) := by decide +kernel
theorem d_Page_byteAt_5 : decode prog_10_method_2_code 5 = .ok (.iconst 2, 1) := by decide +kernel
theorem d_Page_byteAt_6 : decode prog_10_method_2_code 6 = .ok (.ishr, 1) := by decide +kernel
theorem d_Page_byteAt_7 : decode prog_10_method_2_code 7 = .ok (.iaload, 1) := by decide +kernel
theorem d_Page_byteAt_8 : decode prog_10_method_2_code 8 = .ok (.bipush 24, 2) := by decide +kernel
theorem d_Page_byteAt_10 : decode prog_10_method_2_code 10 = .ok (.bipush 8, 2) := by decide +kernel
theorem d_Page_byteAt_12 : decode prog_10_method_2_code 12 = .ok (.iload_n 1, 1) := by decide +kernel
theorem d_Page_byteAt_13 : decode prog_10_method_2_code 13 = .ok (.iconst 3, 1) := by decide +kernel
theorem d_Page_byteAt_14 : decode prog_10_method_2_code 14 = .ok (.iand, 1) := by decide +kernel
theorem d_Page_byteAt_15 : decode prog_10_method_2_code 15 = .ok (.imul, 1) := by decide +kernel
theorem d_Page_byteAt_16 : decode prog_10_method_2_code 16 = .ok (.isub, 1) := by decide +kernel
theorem d_Page_byteAt_17 : decode prog_10_method_2_code 17 = .ok (.iushr, 1) := by decide +kernel
theorem d_Page_byteAt_18 : decode prog_10_method_2_code 18 = .ok (.sipush 255, 3) := by decide +kernel
theorem d_Page_byteAt_21 : decode prog_10_method_2_code 21 = .ok (.iand, 1) := by decide +kernel
theorem d_Page_byteAt_22 : decode prog_10_method_2_code 22 = .ok (.ireturn, 1) := by decide +kernel
theorem zo_Ms_shown {args : Array Value} {s : State} (hT : ∀ w ∈ wd_all, w.before args s = true) (hN : nw_all s) (hZ : zz s) : ∀ a ∈ Bundle.ownAtoms0 "MatrixScripts" 72 "java/lang/IndexOutOfBoundsException" ["java/lang/RuntimeException", "java/lang/Exception"], a.before args s = true := zo_of (by decide +kernel) hT hN hZ
def pb (f : Nat → Int32) (i : Int32) : Int32 := ((f (i >>> ((2 : Int32) &&& 31)).toNatClampNeg).toUInt32 >>> ((24 - 8 * (i &&& 3) : Int32).toUInt32 &&& Int32.toUInt32 31)).toInt32 &&& 255
def w_Page_byteAt : List Cond := .code ⟨"MatrixScripts$Page", "byteAt", "(I)I"⟩ prog_10_method_2_code 2 (some .int) :: wd_all
theorem gd_Page_byteAt : GoodIn wd_all w_Page_byteAt := gd_of tw_2101
set_option maxHeartbeats 4000000 in
set_option maxRecDepth 100000 in
theorem c_Page_byteAt (l : Launch) (D : va_G) (g : Nat → ClassId) (h0 : Nat) (p0 : Nat) (p1 : Int32) (p2 : Nat) (p3 : Nat) (p4 : Nat) (an : Nat) (af : Nat → Int32) (i : Int32) (hin : vp_in (i >>> ((2 : Int32) &&& 31)) an) (sz : Nat) : Met l ⟨"MatrixScripts$Page", "byteAt", "(I)I"⟩ w_Page_byteAt { frames := 0, cells := 0, slots := 0, locals := 0 } (cp D g [.ref h0, .int i] [(h0, .inr (6, [.ref p0, .int p1, .ref p2, .ref p3, .ref p4])), (p0, .inl (g 0, an, .inl af))] sz) (ci D (va_A [(h0, .inr (6, [.ref p0, .int p1, .ref p2, .ref p3, .ref p4])), (p0, .inl (g 0, an, .inl af))] sz) (fun r _ => r = pb af i) (fun u : Unit => [(h0, .inr (6, [.ref p0, .int p1, .ref p2, .ref p3, .ref p4])), (p0, .inl (g 0, an, .inl af))])) 0 0 (va_A [(h0, .inr (6, [.ref p0, .int p1, .ref p2, .ref p3, .ref p4])), (p0, .inl (g 0, an, .inl af))] sz) := by
  refine Met.ofW (cc := prog_10_method_2_code) (maxL := 2) (ret := (some .int)) (by decide) rfl ?_
  intro p e s m args below meth c s₁ B0 hml hv
  obtain ⟨rfl, hsz, hP, hK, hD0, hN⟩ := hv
  have hx := B0.exec
  have hb := B0.bytes
  have hr := B0.returns
  have hts := atoms_spec (ws := w_Page_byteAt) B0.pre
  have hT := fun (w : Cond) (h : w ∈ wd_all) => hts w (List.mem_cons_of_mem _ h)
  have hown : s.vm.findClass "MatrixScripts$Page" = some m.cls := findClass_of_methodNamed B0.named
  have hlocks := B0.notSynchronized
  subst hsz
  have hD := hD0.self (sz := s.heap.size)
  generalize hAe : va_A [(h0, .inr (6, [.ref p0, .int p1, .ref p2, .ref p3, .ref p4])), (p0, .inl (g 0, an, .inl af))] s.heap.size = A at hD ⊢
  have hA : ∀ q : Nat, s.heap.size ≤ q → A q := fun q h => by rw [← hAe]; exact Or.inr h
  have hS : va_S A s.heap s.heap [] := va_S.rf
  have hP : va_P D vC ([(h0, .inr (6, [.ref p0, .int p1, .ref p2, .ref p3, .ref p4])), (p0, .inl (g 0, an, .inl af))] ++ ([] : va_W)) s.heap := hP
  have hD : va_D A ([(h0, .inr (6, [.ref p0, .int p1, .ref p2, .ref p3, .ref p4])), (p0, .inl (g 0, an, .inl af))] ++ ([] : va_W)) := hD
  have hl := lv_entry ([.ref h0, .int i]) (n := 2) (Nat.le_of_ble_eq_true rfl)
  rw [lg_entry_eq]
  generalize (lg_sl ([.ref h0, .int i]) ++ List.replicate (2 - (lg_sl ([.ref h0, .int i])).length) Slot.unset).toArray = ls at hl ⊢
  have hl : lv_has ls 2 [(0, .ref h0), (1, .int i)] := hl
  refine lv_aload_n hx hb d_Page_byteAt_0 rfl (lv_at hl 0 rfl) ?_
  refine va_get (D := D) (ci := 6) (v := .ref p0) (C := "MatrixScripts$Page") (T := T_Page) (N := 5) hx hb hT in_Page hown hK hP 0 rfl rfl 0 (by decide) (hT _ tw_273) (fun _ h9 => h9) rfl d_Page_byteAt_1 ?_
  refine lv_iload_n hx hb d_Page_byteAt_4 rfl (lv_at hl 1 rfl) ?_
  refine lv_iconst (v := 2) hx hb d_Page_byteAt_5 (by decide) ?_
  refine lv_ishr hx hb d_Page_byteAt_6 ?_
  refine lv_topi (fun v6 ev6 => ?_)
  refine va_iald hx hb hK hP 1 0 rfl rfl (i := v6) (by rw [ev6]; exact hin) d_Page_byteAt_7 ?_
  refine lv_topi (fun v7 ev7 => ?_)
  refine lv_bipush (v := 24) hx hb d_Page_byteAt_8 (by decide) ?_
  refine lv_bipush (v := 8) hx hb d_Page_byteAt_10 (by decide) ?_
  refine lv_iload_n hx hb d_Page_byteAt_12 rfl (lv_at hl 1 rfl) ?_
  refine lv_iconst (v := 3) hx hb d_Page_byteAt_13 (by decide) ?_
  refine lv_iand hx hb d_Page_byteAt_14 ?_
  refine lv_topi (fun v14 ev14 => ?_)
  refine lv_imul hx hb d_Page_byteAt_15 ?_
  refine lv_topi (fun v15 ev15 => ?_)
  refine lv_isub hx hb d_Page_byteAt_16 ?_
  refine lv_topi (fun v16 ev16 => ?_)
  refine lv_iushr hx hb d_Page_byteAt_17 rfl ?_
  refine lv_topi (fun v17 ev17 => ?_)
  refine lv_sipush (v := 255) hx hb d_Page_byteAt_18 (by decide) ?_
  refine lv_iand hx hb d_Page_byteAt_21 ?_
  refine lv_topi (fun v21 ev21 => ?_)
  have hP9 := pm_subP (a' := [(h0, .inr (6, [.ref p0, .int p1, .ref p2, .ref p3, .ref p4])), (p0, .inl (g 0, an, .inl af))]) hP [0, 1] rfl
  have hD9 := pm_subD (a' := [(h0, .inr (6, [.ref p0, .int p1, .ref p2, .ref p3, .ref p4])), (p0, .inl (g 0, an, .inl af))]) hD [0, 1] (by decide) rfl
  refine W.widen (k := 0) (n := 0) (Nat.le_of_ble_eq_true rfl) (Nat.le_of_ble_eq_true rfl) ?_
  exact W.iret (v := v21) hx hb hr (fun t ht1 hW => ⟨⟨_, (), rfl, by rw [ev21, ev17, ev16, ev15, ev14, ev7, ev6]; rfl, by rw [ht1]; exact hP9, hD9⟩, hS.F ht1⟩) hS.2.2 d_Page_byteAt_22
def w_Ms_shown : List Cond := .code ⟨"MatrixScripts", "shown", "(I)I"⟩ prog_1_method_7_code 2 (some .int) :: wd_all
theorem gd_Ms_shown : GoodIn wd_all w_Ms_shown := gd_of tw_2082
set_option maxHeartbeats 4000000 in
set_option maxRecDepth 100000 in
theorem c_Ms_shown (l : Launch) (hfl : ∀ e, l.admits e → e.platform.stackTraces = false) (D : va_G) (g : Nat → ClassId) (h0 : Nat) (m0 : Nat) (m1 : Nat) (m2 : Nat) (p0 : Nat) (p1 : Int32) (p2 : Nat) (p3 : Nat) (p4 : Nat) (an : Nat) (af : Nat → Int32) (i : Int32) (hin : ¬ (i < 0 ∨ p1 ≤ i) → vp_in (i >>> ((2 : Int32) &&& 31)) an) (sz : Nat) : MetE l ⟨"MatrixScripts", "shown", "(I)I"⟩ w_Ms_shown { frames := 6, cells := 1, slots := 6, locals := 81 } (cpz D g [.ref h0, .int i] [(h0, .inr (12, [.ref m0, .ref m1, .ref m2])), (m2, .inr (6, [.ref p0, .int p1, .ref p2, .ref p3, .ref p4])), (p0, .inl (g 0, an, .inl af))] sz) (cE D (va_A [(h0, .inr (12, [.ref m0, .ref m1, .ref m2])), (m2, .inr (6, [.ref p0, .int p1, .ref p2, .ref p3, .ref p4])), (p0, .inl (g 0, an, .inl af))] sz) "java/lang/IndexOutOfBoundsException" (fun v _ => v = some (.int (pb af i)) ∧ ¬ (i < 0 ∨ p1 ≤ i)) (fun u : Unit => [(h0, .inr (12, [.ref m0, .ref m1, .ref m2])), (m2, .inr (6, [.ref p0, .int p1, .ref p2, .ref p3, .ref p4])), (p0, .inl (g 0, an, .inl af))]) (i < 0 ∨ p1 ≤ i) [(h0, .inr (12, [.ref m0, .ref m1, .ref m2])), (m2, .inr (6, [.ref p0, .int p1, .ref p2, .ref p3, .ref p4])), (p0, .inl (g 0, an, .inl af))]) 1 6 (va_A [(h0, .inr (12, [.ref m0, .ref m1, .ref m2])), (m2, .inr (6, [.ref p0, .int p1, .ref p2, .ref p3, .ref p4])), (p0, .inl (g 0, an, .inl af))] sz) := by
  refine MetE.ofW (cc := prog_1_method_7_code) (maxL := 2) (ret := (some .int)) (by decide) rfl ?_
  intro p e s m args below meth c s₁ B0 hml htab hv
  obtain ⟨rfl, hsz, hP, hK, hD0, hN, hZ⟩ := hv
  have hx := B0.exec
  have hb := B0.bytes
  have hr := B0.returns
  have hts := atoms_spec (ws := w_Ms_shown) B0.pre
  have hT := fun (w : Cond) (h : w ∈ wd_all) => hts w (List.mem_cons_of_mem _ h)
  have hown : s.vm.findClass "MatrixScripts" = some m.cls := findClass_of_methodNamed B0.named
  have hlocks := B0.notSynchronized
  subst hsz
  have hD := hD0.self (sz := s.heap.size)
  have hPs := hP
  generalize hAe : va_A [(h0, .inr (12, [.ref m0, .ref m1, .ref m2])), (m2, .inr (6, [.ref p0, .int p1, .ref p2, .ref p3, .ref p4])), (p0, .inl (g 0, an, .inl af))] s.heap.size = A at hD ⊢
  have hA : ∀ q : Nat, s.heap.size ≤ q → A q := fun q h => by rw [← hAe]; exact Or.inr h
  have hS : va_S A s.heap s.heap [] := va_S.rf
  have hP : va_P D vC ([(h0, .inr (12, [.ref m0, .ref m1, .ref m2])), (m2, .inr (6, [.ref p0, .int p1, .ref p2, .ref p3, .ref p4])), (p0, .inl (g 0, an, .inl af))] ++ ([] : va_W)) s.heap := hP
  have hD : va_D A ([(h0, .inr (12, [.ref m0, .ref m1, .ref m2])), (m2, .inr (6, [.ref p0, .int p1, .ref p2, .ref p3, .ref p4])), (p0, .inl (g 0, an, .inl af))] ++ ([] : va_W)) := hD
  have hl := lv_entry ([.ref h0, .int i]) (n := 2) (Nat.le_of_ble_eq_true rfl)
  rw [lg_entry_eq]
  generalize (lg_sl ([.ref h0, .int i]) ++ List.replicate (2 - (lg_sl ([.ref h0, .int i])).length) Slot.unset).toArray = ls at hl ⊢
  have hl : lv_has ls 2 [(0, .ref h0), (1, .int i)] := hl
  refine lv_iload_n hx hb d_Ms_shown_0 rfl (lv_at hl 1 rfl) ?_
  refine lv_if_lt (tgt := 15) hx hb d_Ms_shown_1 (by decide) (fun c1 => ?_) (fun c1 => ?_)
  · refine ex_widen (mc := 1) (ms := 6) (Nat.le_of_ble_eq_true rfl) (Nat.le_of_ble_eq_true rfl) ?_
    refine ex_throw (cls := "java/lang/IndexOutOfBoundsException") (names := ["java/lang/RuntimeException", "java/lang/Exception"]) hx hb (hfl _ B0.admits) hown (by decide +kernel) (by decide +kernel) (zo_Ms_shown hT hN hZ) (hT _ tw_2083) (hT _ tw_188) (fun x h => by cases h) (Nat.le_refl _) (fun x h => by rw [htab] at h; cases h) (hl.1.trans hml.symm) d_Ms_shown_15 d_Ms_shown_18 d_Ms_shown_19 d_Ms_shown_22 (Nat.le_of_ble_eq_true rfl) (Nat.le_of_ble_eq_true rfl) (Nat.le_of_ble_eq_true rfl) (Nat.le_of_ble_eq_true rfl) hlocks (fun x h => by cases h) (fun t ce h1 h2 h3 h4 h5 h6 => ?_)
    exact cE_threw hPs hD (hA _ (Nat.le_refl _)) (Or.inl c1) h1 h2 h3 h5 (fun q hq => h6 q hq (fun y hy => by cases hy))
  · refine lv_iload_n hx hb d_Ms_shown_4 rfl (lv_at hl 1 rfl) ?_
    refine lv_aload_n hx hb d_Ms_shown_5 rfl (lv_at hl 0 rfl) ?_
    refine va_get (D := D) (ci := 12) (v := .ref m2) (C := "MatrixScripts") (T := T_Ms) (N := 3) hx hb hT in_Ms hown hK hP 0 rfl rfl 2 (by decide) (hT _ tw_741) (fun _ h9 => h9) rfl d_Ms_shown_6 ?_
    refine va_get (D := D) (ci := 6) (v := .int p1) (C := "MatrixScripts$Page") (T := T_Page) (N := 5) hx hb hT in_Page hown hK hP 1 rfl rfl 1 (by decide) (hT _ tw_275) (fun _ h9 => h9) rfl d_Ms_shown_9 ?_
    refine lv_icmp_lt (tgt := 23) hx hb d_Ms_shown_12 (by decide) (fun c12 => ?_) (fun c12 => ?_)
    · refine lv_aload_n hx hb d_Ms_shown_23 rfl (lv_at hl 0 rfl) ?_
      refine va_get (D := D) (ci := 12) (v := .ref m2) (C := "MatrixScripts") (T := T_Ms) (N := 3) hx hb hT in_Ms hown hK hP 0 rfl rfl 2 (by decide) (hT _ tw_741) (fun _ h9 => h9) rfl d_Ms_shown_24 ?_
      refine lv_iload_n hx hb d_Ms_shown_27 rfl (lv_at hl 1 rfl) ?_
      have hP := pm_subP (a' := [(m2, .inr (6, [.ref p0, .int p1, .ref p2, .ref p3, .ref p4])), (p0, .inl (g 0, an, .inl af)), (h0, .inr (12, [.ref m0, .ref m1, .ref m2]))]) hP [1, 2, 0] rfl
      have hD := pm_subD (a' := [(m2, .inr (6, [.ref p0, .int p1, .ref p2, .ref p3, .ref p4])), (p0, .inl (g 0, an, .inl af)), (h0, .inr (12, [.ref m0, .ref m1, .ref m2]))]) hD [1, 2, 0] (by decide) rfl
      have hP : va_P D vC ([(m2, .inr (6, [.ref p0, .int p1, .ref p2, .ref p3, .ref p4])), (p0, .inl (g 0, an, .inl af))] ++ ([(h0, .inr (12, [.ref m0, .ref m1, .ref m2]))] ++ ([] : va_W))) s.heap := hP
      have hD : va_D A ([(m2, .inr (6, [.ref p0, .int p1, .ref p2, .ref p3, .ref p4])), (p0, .inl (g 0, an, .inl af))] ++ ([(h0, .inr (12, [.ref m0, .ref m1, .ref m2]))] ++ ([] : va_W))) := hD
      have hFc := pm_free hD hS hA
      refine va_calli (va_runV (As := [.int i]) (rest := []) ⟨hx, hb, hml, hown, hT⟩ (c_Page_byteAt l D g m2 p0 p1 p2 p3 p4 an af i (hin (fun h => h.elim c1 (fun h => Int32.not_lt.mpr h c12))) s.heap.size) (cwV 1 hT (gdV tw_2098 tw_2099 tw_2100 tw_157 tw_2101) rfl rfl rfl (by decide +kernel) ⟨Nat.le_of_ble_eq_true rfl, Nat.le_of_ble_eq_true rfl⟩) (cp_V (C := "MatrixScripts$Page") (T := T_Page) (N := 5) (ci := 6) hP hK hD hN rfl) rfl rfl hl.1 rfl (lv_room (Nat.le_of_ble_eq_true rfl)) d_Ms_shown_28 ⟨Nat.le_of_ble_eq_true rfl, Nat.le_of_ble_eq_true rfl⟩) hS (fun q _ h => hFc q h) hFc (fun r28 u28 t H1 locs ht1 hvm hw hB hz1 hk1 hS => ?_)
      obtain ⟨hP1, hD1⟩ := hB
      rw [ht1] at hP1
      obtain ⟨hP, hD⟩ := pm_join hP hD hk1 hFc hP1 hD1
      generalize H1 = H at hP hS ⊢
      have hw28 := hw
      have hP : va_P D vC ([(m2, .inr (6, [.ref p0, .int p1, .ref p2, .ref p3, .ref p4])), (p0, .inl (g 0, an, .inl af)), (h0, .inr (12, [.ref m0, .ref m1, .ref m2]))] ++ ([] : va_W)) H := hP
      have hD : va_D A ([(m2, .inr (6, [.ref p0, .int p1, .ref p2, .ref p3, .ref p4])), (p0, .inl (g 0, an, .inl af)), (h0, .inr (12, [.ref m0, .ref m1, .ref m2]))] ++ ([] : va_W)) := hD
      have hP9 := pm_subP (a' := [(h0, .inr (12, [.ref m0, .ref m1, .ref m2])), (m2, .inr (6, [.ref p0, .int p1, .ref p2, .ref p3, .ref p4])), (p0, .inl (g 0, an, .inl af))]) hP [2, 0, 1] rfl
      have hD9 := pm_subD (a' := [(h0, .inr (12, [.ref m0, .ref m1, .ref m2])), (m2, .inr (6, [.ref p0, .int p1, .ref p2, .ref p3, .ref p4])), (p0, .inl (g 0, an, .inl af))]) hD [2, 0, 1] (by decide) rfl
      refine W.widen (k := 1) (n := 6) (Nat.le_of_ble_eq_true rfl) (Nat.le_of_ble_eq_true rfl) ?_
      exact ex_of (W.iret (v := r28) hx hb hr (fun t ht1 hW => cE_ret (v := some (.int r28)) () (⟨by rw [hw28], fun h => h.elim c1 (fun h => Int32.not_lt.mpr h c12)⟩) (by rw [ht1]; exact hP9) hD9 (hS.F ht1)) hS.2.2 d_Ms_shown_31)
    · refine ex_widen (mc := 1) (ms := 6) (Nat.le_of_ble_eq_true rfl) (Nat.le_of_ble_eq_true rfl) ?_
      refine ex_throw (cls := "java/lang/IndexOutOfBoundsException") (names := ["java/lang/RuntimeException", "java/lang/Exception"]) hx hb (hfl _ B0.admits) hown (by decide +kernel) (by decide +kernel) (zo_Ms_shown hT hN hZ) (hT _ tw_2083) (hT _ tw_188) (fun x h => by cases h) (Nat.le_refl _) (fun x h => by rw [htab] at h; cases h) (hl.1.trans hml.symm) d_Ms_shown_15 d_Ms_shown_18 d_Ms_shown_19 d_Ms_shown_22 (Nat.le_of_ble_eq_true rfl) (Nat.le_of_ble_eq_true rfl) (Nat.le_of_ble_eq_true rfl) (Nat.le_of_ble_eq_true rfl) hlocks (fun x h => by cases h) (fun t ce h1 h2 h3 h4 h5 h6 => ?_)
      exact cE_threw hPs hD (hA _ (Nat.le_refl _)) (Or.inr (Int32.not_lt.mp c12)) h1 h2 h3 h5 (fun q hq => h6 q hq (fun y hy => by cases hy))
def w_Mdl_shown : List Cond := .code ⟨"MatrixScriptsModel", "shown", "(I)I"⟩ prog_17_method_66_code 2 (some .int) :: wd_all
theorem gd_Mdl_shown : GoodIn wd_all w_Mdl_shown := gd_of tw_3075
set_option maxHeartbeats 4000000 in
set_option maxRecDepth 100000 in
theorem c_Mdl_shown (l : Launch) (D : va_G) (g : Nat → ClassId) (h0 : Nat) (m0 : Int32) (m1 : Nat) (m2 : Int32) (m3 : Nat) (m4 : Nat) (m5 : Nat) (m6 : Nat) (m7 : Nat) (m8 : Nat) (m9 : Nat) (m10 : Nat) (m11 : Nat) (m12 : Int32) (m13 : Int32) (m14 : Int32) (m15 : Nat) (m16 : Int32) (m17 : Int32) (m18 : Int32) (m19 : Int32) (m20 : Int32) (m21 : Int32) (m22 : Int32) (m23 : Int32) (m24 : Int32) (m25 : Int32) (m26 : Int32) (m27 : Int64) (m28 : Int32) (m29 : Int32) (m30 : Nat) (m31 : Nat) (m32 : Int32) (m33 : Int32) (m34 : Int32) (m35 : Int32) (m36 : Nat) (an : Nat) (af : Nat → Int32) (i : Int32) (hin : ¬ (i < 0 ∨ m16 ≤ i) → vp_in i an) (sz : Nat) : Met l ⟨"MatrixScriptsModel", "shown", "(I)I"⟩ w_Mdl_shown { frames := 0, cells := 0, slots := 0, locals := 0 } (cp D g [.ref h0, .int i] [(h0, .inr (16, [.int m0, .ref m1, .int m2, .ref m3, .ref m4, .ref m5, .ref m6, .ref m7, .ref m8, .ref m9, .ref m10, .ref m11, .int m12, .int m13, .int m14, .ref m15, .int m16, .int m17, .int m18, .int m19, .int m20, .int m21, .int m22, .int m23, .int m24, .int m25, .int m26, .long m27, .int m28, .int m29, .ref m30, .ref m31, .int m32, .int m33, .int m34, .int m35, .ref m36])), (m15, .inl (g 2, an, .inl af))] sz) (ci D (va_A [(h0, .inr (16, [.int m0, .ref m1, .int m2, .ref m3, .ref m4, .ref m5, .ref m6, .ref m7, .ref m8, .ref m9, .ref m10, .ref m11, .int m12, .int m13, .int m14, .ref m15, .int m16, .int m17, .int m18, .int m19, .int m20, .int m21, .int m22, .int m23, .int m24, .int m25, .int m26, .long m27, .int m28, .int m29, .ref m30, .ref m31, .int m32, .int m33, .int m34, .int m35, .ref m36])), (m15, .inl (g 2, an, .inl af))] sz) (fun r u => ((i < 0 ∨ m16 ≤ i) → u = 1) ∧ (¬ (i < 0 ∨ m16 ≤ i) → u = 0 ∧ r = af i.toNatClampNeg &&& 255)) (fun u : Int32 => [(h0, .inr (16, [.int u, .ref m1, .int m2, .ref m3, .ref m4, .ref m5, .ref m6, .ref m7, .ref m8, .ref m9, .ref m10, .ref m11, .int m12, .int m13, .int m14, .ref m15, .int m16, .int m17, .int m18, .int m19, .int m20, .int m21, .int m22, .int m23, .int m24, .int m25, .int m26, .long m27, .int m28, .int m29, .ref m30, .ref m31, .int m32, .int m33, .int m34, .int m35, .ref m36])), (m15, .inl (g 2, an, .inl af))])) 0 0 (va_A [(h0, .inr (16, [.int m0, .ref m1, .int m2, .ref m3, .ref m4, .ref m5, .ref m6, .ref m7, .ref m8, .ref m9, .ref m10, .ref m11, .int m12, .int m13, .int m14, .ref m15, .int m16, .int m17, .int m18, .int m19, .int m20, .int m21, .int m22, .int m23, .int m24, .int m25, .int m26, .long m27, .int m28, .int m29, .ref m30, .ref m31, .int m32, .int m33, .int m34, .int m35, .ref m36])), (m15, .inl (g 2, an, .inl af))] sz) := by
  refine Met.ofW (cc := prog_17_method_66_code) (maxL := 2) (ret := (some .int)) (by decide) rfl ?_
  intro p e s m args below meth c s₁ B0 hml hv
  obtain ⟨rfl, hsz, hP, hK, hD0, hN⟩ := hv
  have hx := B0.exec
  have hb := B0.bytes
  have hr := B0.returns
  have hts := atoms_spec (ws := w_Mdl_shown) B0.pre
  have hT := fun (w : Cond) (h : w ∈ wd_all) => hts w (List.mem_cons_of_mem _ h)
  have hown : s.vm.findClass "MatrixScriptsModel" = some m.cls := findClass_of_methodNamed B0.named
  have hlocks := B0.notSynchronized
  subst hsz
  have hD := hD0.self (sz := s.heap.size)
  generalize hAe : va_A [(h0, .inr (16, [.int m0, .ref m1, .int m2, .ref m3, .ref m4, .ref m5, .ref m6, .ref m7, .ref m8, .ref m9, .ref m10, .ref m11, .int m12, .int m13, .int m14, .ref m15, .int m16, .int m17, .int m18, .int m19, .int m20, .int m21, .int m22, .int m23, .int m24, .int m25, .int m26, .long m27, .int m28, .int m29, .ref m30, .ref m31, .int m32, .int m33, .int m34, .int m35, .ref m36])), (m15, .inl (g 2, an, .inl af))] s.heap.size = A at hD ⊢
  have hA : ∀ q : Nat, s.heap.size ≤ q → A q := fun q h => by rw [← hAe]; exact Or.inr h
  have hS : va_S A s.heap s.heap [] := va_S.rf
  have hP : va_P D vC ([(h0, .inr (16, [.int m0, .ref m1, .int m2, .ref m3, .ref m4, .ref m5, .ref m6, .ref m7, .ref m8, .ref m9, .ref m10, .ref m11, .int m12, .int m13, .int m14, .ref m15, .int m16, .int m17, .int m18, .int m19, .int m20, .int m21, .int m22, .int m23, .int m24, .int m25, .int m26, .long m27, .int m28, .int m29, .ref m30, .ref m31, .int m32, .int m33, .int m34, .int m35, .ref m36])), (m15, .inl (g 2, an, .inl af))] ++ ([] : va_W)) s.heap := hP
  have hD : va_D A ([(h0, .inr (16, [.int m0, .ref m1, .int m2, .ref m3, .ref m4, .ref m5, .ref m6, .ref m7, .ref m8, .ref m9, .ref m10, .ref m11, .int m12, .int m13, .int m14, .ref m15, .int m16, .int m17, .int m18, .int m19, .int m20, .int m21, .int m22, .int m23, .int m24, .int m25, .int m26, .long m27, .int m28, .int m29, .ref m30, .ref m31, .int m32, .int m33, .int m34, .int m35, .ref m36])), (m15, .inl (g 2, an, .inl af))] ++ ([] : va_W)) := hD
  have hl := lv_entry ([.ref h0, .int i]) (n := 2) (Nat.le_of_ble_eq_true rfl)
  rw [lg_entry_eq]
  generalize (lg_sl ([.ref h0, .int i]) ++ List.replicate (2 - (lg_sl ([.ref h0, .int i])).length) Slot.unset).toArray = ls at hl ⊢
  have hl : lv_has ls 2 [(0, .ref h0), (1, .int i)] := hl
  refine lv_aload_n hx hb d_Mdl_shown_0 rfl (lv_at hl 0 rfl) ?_
  refine lv_iload_n hx hb d_Mdl_shown_1 rfl (lv_at hl 1 rfl) ?_
  refine lv_if_lt (tgt := 13) hx hb d_Mdl_shown_2 (by decide) (fun c2 => ?_) (fun c2 => ?_)
  · refine lv_iconst (v := 1) hx hb d_Mdl_shown_13 (by decide) ?_
    refine lv_goto (tgt := 18) hx hb d_Mdl_shown_14 (by decide) ?_
    refine va_put (D := D) (ci := 16) (v := .int 1) (ty := .int) (C := "MatrixScriptsModel") (T := T_Mdl) (N := 37) hx hb hT in_Mdl ty_Mdl ty_Mdl_ok nm_Mdl hown hK hP hD hS 0 rfl rfl 0 (by decide) (hT _ tw_2215) (fun _ h9 => h9) rfl (by decide +kernel) rfl rfl (Nat.le_of_ble_eq_true rfl) d_Mdl_shown_18 (fun H locs hP hD hS => ?_)
    have hP : va_P D vC ([(h0, .inr (16, [.int 1, .ref m1, .int m2, .ref m3, .ref m4, .ref m5, .ref m6, .ref m7, .ref m8, .ref m9, .ref m10, .ref m11, .int m12, .int m13, .int m14, .ref m15, .int m16, .int m17, .int m18, .int m19, .int m20, .int m21, .int m22, .int m23, .int m24, .int m25, .int m26, .long m27, .int m28, .int m29, .ref m30, .ref m31, .int m32, .int m33, .int m34, .int m35, .ref m36])), (m15, .inl (g 2, an, .inl af))] ++ ([] : va_W)) H := hP
    have hD : va_D A ([(h0, .inr (16, [.int 1, .ref m1, .int m2, .ref m3, .ref m4, .ref m5, .ref m6, .ref m7, .ref m8, .ref m9, .ref m10, .ref m11, .int m12, .int m13, .int m14, .ref m15, .int m16, .int m17, .int m18, .int m19, .int m20, .int m21, .int m22, .int m23, .int m24, .int m25, .int m26, .long m27, .int m28, .int m29, .ref m30, .ref m31, .int m32, .int m33, .int m34, .int m35, .ref m36])), (m15, .inl (g 2, an, .inl af))] ++ ([] : va_W)) := hD
    refine lv_aload_n hx hb d_Mdl_shown_21 rfl (lv_at hl 0 rfl) ?_
    refine va_get (D := D) (ci := 16) (v := .int 1) (C := "MatrixScriptsModel") (T := T_Mdl) (N := 37) hx hb hT in_Mdl hown hK hP 0 rfl rfl 0 (by decide) (hT _ tw_2215) (fun _ h9 => h9) rfl d_Mdl_shown_22 ?_
    refine lv_if_le (tgt := 32) hx hb d_Mdl_shown_25 (by decide) (fun c25 => absurd c25 (by decide)) (fun c25 => ?_)
    refine lv_iconst (v := 0) hx hb d_Mdl_shown_28 (by decide) ?_
    refine lv_goto (tgt := 42) hx hb d_Mdl_shown_29 (by decide) ?_
    have hP9 := pm_subP (a' := [(h0, .inr (16, [.int 1, .ref m1, .int m2, .ref m3, .ref m4, .ref m5, .ref m6, .ref m7, .ref m8, .ref m9, .ref m10, .ref m11, .int m12, .int m13, .int m14, .ref m15, .int m16, .int m17, .int m18, .int m19, .int m20, .int m21, .int m22, .int m23, .int m24, .int m25, .int m26, .long m27, .int m28, .int m29, .ref m30, .ref m31, .int m32, .int m33, .int m34, .int m35, .ref m36])), (m15, .inl (g 2, an, .inl af))]) hP [0, 1] rfl
    have hD9 := pm_subD (a' := [(h0, .inr (16, [.int 1, .ref m1, .int m2, .ref m3, .ref m4, .ref m5, .ref m6, .ref m7, .ref m8, .ref m9, .ref m10, .ref m11, .int m12, .int m13, .int m14, .ref m15, .int m16, .int m17, .int m18, .int m19, .int m20, .int m21, .int m22, .int m23, .int m24, .int m25, .int m26, .long m27, .int m28, .int m29, .ref m30, .ref m31, .int m32, .int m33, .int m34, .int m35, .ref m36])), (m15, .inl (g 2, an, .inl af))]) hD [0, 1] (by decide) rfl
    refine W.widen (k := 0) (n := 0) (Nat.le_of_ble_eq_true rfl) (Nat.le_of_ble_eq_true rfl) ?_
    exact W.iret (v := 0) hx hb hr (fun t ht1 hW => ⟨⟨_, 1, rfl, ⟨fun _ => rfl, fun h => absurd (Or.inl c2) h⟩, by rw [ht1]; exact hP9, hD9⟩, hS.F ht1⟩) hS.2.2 d_Mdl_shown_42
  · refine lv_iload_n hx hb d_Mdl_shown_5 rfl (lv_at hl 1 rfl) ?_
    refine lv_aload_n hx hb d_Mdl_shown_6 rfl (lv_at hl 0 rfl) ?_
    refine va_get (D := D) (ci := 16) (v := .int m16) (C := "MatrixScriptsModel") (T := T_Mdl) (N := 37) hx hb hT in_Mdl hown hK hP 0 rfl rfl 16 (by decide) (hT _ tw_2231) (fun _ h9 => h9) rfl d_Mdl_shown_7 ?_
    refine lv_icmp_lt (tgt := 17) hx hb d_Mdl_shown_10 (by decide) (fun c10 => ?_) (fun c10 => ?_)
    · refine lv_iconst (v := 0) hx hb d_Mdl_shown_17 (by decide) ?_
      refine va_put (D := D) (ci := 16) (v := .int 0) (ty := .int) (C := "MatrixScriptsModel") (T := T_Mdl) (N := 37) hx hb hT in_Mdl ty_Mdl ty_Mdl_ok nm_Mdl hown hK hP hD hS 0 rfl rfl 0 (by decide) (hT _ tw_2215) (fun _ h9 => h9) rfl (by decide +kernel) rfl rfl (Nat.le_of_ble_eq_true rfl) d_Mdl_shown_18 (fun H locs hP hD hS => ?_)
      have hP : va_P D vC ([(h0, .inr (16, [.int 0, .ref m1, .int m2, .ref m3, .ref m4, .ref m5, .ref m6, .ref m7, .ref m8, .ref m9, .ref m10, .ref m11, .int m12, .int m13, .int m14, .ref m15, .int m16, .int m17, .int m18, .int m19, .int m20, .int m21, .int m22, .int m23, .int m24, .int m25, .int m26, .long m27, .int m28, .int m29, .ref m30, .ref m31, .int m32, .int m33, .int m34, .int m35, .ref m36])), (m15, .inl (g 2, an, .inl af))] ++ ([] : va_W)) H := hP
      have hD : va_D A ([(h0, .inr (16, [.int 0, .ref m1, .int m2, .ref m3, .ref m4, .ref m5, .ref m6, .ref m7, .ref m8, .ref m9, .ref m10, .ref m11, .int m12, .int m13, .int m14, .ref m15, .int m16, .int m17, .int m18, .int m19, .int m20, .int m21, .int m22, .int m23, .int m24, .int m25, .int m26, .long m27, .int m28, .int m29, .ref m30, .ref m31, .int m32, .int m33, .int m34, .int m35, .ref m36])), (m15, .inl (g 2, an, .inl af))] ++ ([] : va_W)) := hD
      refine lv_aload_n hx hb d_Mdl_shown_21 rfl (lv_at hl 0 rfl) ?_
      refine va_get (D := D) (ci := 16) (v := .int 0) (C := "MatrixScriptsModel") (T := T_Mdl) (N := 37) hx hb hT in_Mdl hown hK hP 0 rfl rfl 0 (by decide) (hT _ tw_2215) (fun _ h9 => h9) rfl d_Mdl_shown_22 ?_
      refine lv_if_le (tgt := 32) hx hb d_Mdl_shown_25 (by decide) (fun c25 => ?_) (fun c25 => absurd (by decide) c25)
      refine lv_aload_n hx hb d_Mdl_shown_32 rfl (lv_at hl 0 rfl) ?_
      refine va_get (D := D) (ci := 16) (v := .ref m15) (C := "MatrixScriptsModel") (T := T_Mdl) (N := 37) hx hb hT in_Mdl hown hK hP 0 rfl rfl 15 (by decide) (hT _ tw_2230) (fun _ h9 => h9) rfl d_Mdl_shown_33 ?_
      refine lv_iload_n hx hb d_Mdl_shown_36 rfl (lv_at hl 1 rfl) ?_
      refine va_bald hx hb hK hP 1 2 rfl rfl (i := i) (hin (fun h => h.elim c2 (fun h => Int32.not_lt.mpr h c10))) d_Mdl_shown_37 ?_
      refine lv_topi (fun v37 ev37 => ?_)
      refine lv_sipush (v := 255) hx hb d_Mdl_shown_38 (by decide) ?_
      refine lv_iand hx hb d_Mdl_shown_41 ?_
      refine lv_topi (fun v41 ev41 => ?_)
      have hP9 := pm_subP (a' := [(h0, .inr (16, [.int 0, .ref m1, .int m2, .ref m3, .ref m4, .ref m5, .ref m6, .ref m7, .ref m8, .ref m9, .ref m10, .ref m11, .int m12, .int m13, .int m14, .ref m15, .int m16, .int m17, .int m18, .int m19, .int m20, .int m21, .int m22, .int m23, .int m24, .int m25, .int m26, .long m27, .int m28, .int m29, .ref m30, .ref m31, .int m32, .int m33, .int m34, .int m35, .ref m36])), (m15, .inl (g 2, an, .inl af))]) hP [0, 1] rfl
      have hD9 := pm_subD (a' := [(h0, .inr (16, [.int 0, .ref m1, .int m2, .ref m3, .ref m4, .ref m5, .ref m6, .ref m7, .ref m8, .ref m9, .ref m10, .ref m11, .int m12, .int m13, .int m14, .ref m15, .int m16, .int m17, .int m18, .int m19, .int m20, .int m21, .int m22, .int m23, .int m24, .int m25, .int m26, .long m27, .int m28, .int m29, .ref m30, .ref m31, .int m32, .int m33, .int m34, .int m35, .ref m36])), (m15, .inl (g 2, an, .inl af))]) hD [0, 1] (by decide) rfl
      refine W.widen (k := 0) (n := 0) (Nat.le_of_ble_eq_true rfl) (Nat.le_of_ble_eq_true rfl) ?_
      exact W.iret (v := v41) hx hb hr (fun t ht1 hW => ⟨⟨_, 0, rfl, ⟨fun h => absurd h (fun h => h.elim c2 (fun h => Int32.not_lt.mpr h c10)), fun _ => ⟨rfl, by rw [ev41, ev37]⟩⟩, by rw [ht1]; exact hP9, hD9⟩, hS.F ht1⟩) hS.2.2 d_Mdl_shown_42
    · refine lv_iconst (v := 1) hx hb d_Mdl_shown_13 (by decide) ?_
      refine lv_goto (tgt := 18) hx hb d_Mdl_shown_14 (by decide) ?_
      refine va_put (D := D) (ci := 16) (v := .int 1) (ty := .int) (C := "MatrixScriptsModel") (T := T_Mdl) (N := 37) hx hb hT in_Mdl ty_Mdl ty_Mdl_ok nm_Mdl hown hK hP hD hS 0 rfl rfl 0 (by decide) (hT _ tw_2215) (fun _ h9 => h9) rfl (by decide +kernel) rfl rfl (Nat.le_of_ble_eq_true rfl) d_Mdl_shown_18 (fun H locs hP hD hS => ?_)
      have hP : va_P D vC ([(h0, .inr (16, [.int 1, .ref m1, .int m2, .ref m3, .ref m4, .ref m5, .ref m6, .ref m7, .ref m8, .ref m9, .ref m10, .ref m11, .int m12, .int m13, .int m14, .ref m15, .int m16, .int m17, .int m18, .int m19, .int m20, .int m21, .int m22, .int m23, .int m24, .int m25, .int m26, .long m27, .int m28, .int m29, .ref m30, .ref m31, .int m32, .int m33, .int m34, .int m35, .ref m36])), (m15, .inl (g 2, an, .inl af))] ++ ([] : va_W)) H := hP
      have hD : va_D A ([(h0, .inr (16, [.int 1, .ref m1, .int m2, .ref m3, .ref m4, .ref m5, .ref m6, .ref m7, .ref m8, .ref m9, .ref m10, .ref m11, .int m12, .int m13, .int m14, .ref m15, .int m16, .int m17, .int m18, .int m19, .int m20, .int m21, .int m22, .int m23, .int m24, .int m25, .int m26, .long m27, .int m28, .int m29, .ref m30, .ref m31, .int m32, .int m33, .int m34, .int m35, .ref m36])), (m15, .inl (g 2, an, .inl af))] ++ ([] : va_W)) := hD
      refine lv_aload_n hx hb d_Mdl_shown_21 rfl (lv_at hl 0 rfl) ?_
      refine va_get (D := D) (ci := 16) (v := .int 1) (C := "MatrixScriptsModel") (T := T_Mdl) (N := 37) hx hb hT in_Mdl hown hK hP 0 rfl rfl 0 (by decide) (hT _ tw_2215) (fun _ h9 => h9) rfl d_Mdl_shown_22 ?_
      refine lv_if_le (tgt := 32) hx hb d_Mdl_shown_25 (by decide) (fun c25 => absurd c25 (by decide)) (fun c25 => ?_)
      refine lv_iconst (v := 0) hx hb d_Mdl_shown_28 (by decide) ?_
      refine lv_goto (tgt := 42) hx hb d_Mdl_shown_29 (by decide) ?_
      have hP9 := pm_subP (a' := [(h0, .inr (16, [.int 1, .ref m1, .int m2, .ref m3, .ref m4, .ref m5, .ref m6, .ref m7, .ref m8, .ref m9, .ref m10, .ref m11, .int m12, .int m13, .int m14, .ref m15, .int m16, .int m17, .int m18, .int m19, .int m20, .int m21, .int m22, .int m23, .int m24, .int m25, .int m26, .long m27, .int m28, .int m29, .ref m30, .ref m31, .int m32, .int m33, .int m34, .int m35, .ref m36])), (m15, .inl (g 2, an, .inl af))]) hP [0, 1] rfl
      have hD9 := pm_subD (a' := [(h0, .inr (16, [.int 1, .ref m1, .int m2, .ref m3, .ref m4, .ref m5, .ref m6, .ref m7, .ref m8, .ref m9, .ref m10, .ref m11, .int m12, .int m13, .int m14, .ref m15, .int m16, .int m17, .int m18, .int m19, .int m20, .int m21, .int m22, .int m23, .int m24, .int m25, .int m26, .long m27, .int m28, .int m29, .ref m30, .ref m31, .int m32, .int m33, .int m34, .int m35, .ref m36])), (m15, .inl (g 2, an, .inl af))]) hD [0, 1] (by decide) rfl
      refine W.widen (k := 0) (n := 0) (Nat.le_of_ble_eq_true rfl) (Nat.le_of_ble_eq_true rfl) ?_
      exact W.iret (v := 0) hx hb hr (fun t ht1 hW => ⟨⟨_, 1, rfl, ⟨fun _ => rfl, fun h => absurd (Or.inr (Int32.not_lt.mp c10)) h⟩, by rw [ht1]; exact hP9, hD9⟩, hS.F ht1⟩) hS.2.2 d_Mdl_shown_42
