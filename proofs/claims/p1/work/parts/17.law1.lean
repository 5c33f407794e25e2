theorem tw_154 : (Jvm.Cond.initialized "MatrixScripts") ∈ wd_all := wd_i 154 (by decide +kernel) (by decide +kernel)
theorem tw_2064 : (Jvm.Cond.codeWith ({ cls := "MatrixScriptsLaw", name := "end", desc := "(LMatrixScripts;I)I" } : Jvm.MethodName) method_4_code (3 : Nat) (Option.some Jvm.ClassFile.FieldType.int) [((0 : Nat), (5 : Nat), (8 : Nat), (19 : Nat))]) ∈ wd_all := wd_i 2064 (by decide +kernel) (by decide +kernel)
theorem tw_2065 : (Jvm.Cond.classLink "MatrixScriptsLaw" (19 : Nat) "java/lang/IllegalArgumentException") ∈ wd_all := wd_i 2065 (by decide +kernel) (by decide +kernel)
theorem tw_2066 : (Jvm.Cond.methodLink "MatrixScriptsLaw" (15 : Nat) ({ cls := "MatrixScripts", name := "end", desc := "(I)V" } : Jvm.MethodName)) ∈ wd_all := wd_i 2066 (by decide +kernel) (by decide +kernel)
theorem tw_2067 : (Jvm.Cond.instanceMethod ({ cls := "MatrixScripts", name := "end", desc := "(I)V" } : Jvm.MethodName)) ∈ wd_all := wd_i 2067 (by decide +kernel) (by decide +kernel)
theorem tw_2068 : (Jvm.Cond.selects "MatrixScripts" ({ cls := "MatrixScripts", name := "end", desc := "(I)V" } : Jvm.MethodName) ({ cls := "MatrixScripts", name := "end", desc := "(I)V" } : Jvm.MethodName)) ∈ wd_all := wd_i 2068 (by decide +kernel) (by decide +kernel)
theorem tw_2077 : (Jvm.Cond.codeWith ({ cls := "MatrixScriptsLaw", name := "shown", desc := "(LMatrixScripts;I[J)I" } : Jvm.MethodName) method_5_code (4 : Nat) (Option.some Jvm.ClassFile.FieldType.int) [((0 : Nat), (9 : Nat), (12 : Nat), (25 : Nat))]) ∈ wd_all := wd_i 2077 (by decide +kernel) (by decide +kernel)
theorem tw_2078 : (Jvm.Cond.classLink "MatrixScriptsLaw" (25 : Nat) "java/lang/IndexOutOfBoundsException") ∈ wd_all := wd_i 2078 (by decide +kernel) (by decide +kernel)
theorem tw_2079 : (Jvm.Cond.methodLink "MatrixScriptsLaw" (21 : Nat) ({ cls := "MatrixScripts", name := "shown", desc := "(I)I" } : Jvm.MethodName)) ∈ wd_all := wd_i 2079 (by decide +kernel) (by decide +kernel)
theorem tw_2080 : (Jvm.Cond.instanceMethod ({ cls := "MatrixScripts", name := "shown", desc := "(I)I" } : Jvm.MethodName)) ∈ wd_all := wd_i 2080 (by decide +kernel) (by decide +kernel)
theorem tw_2081 : (Jvm.Cond.selects "MatrixScripts" ({ cls := "MatrixScripts", name := "shown", desc := "(I)I" } : Jvm.MethodName) ({ cls := "MatrixScripts", name := "shown", desc := "(I)I" } : Jvm.MethodName)) ∈ wd_all := wd_i 2081 (by decide +kernel) (by decide +kernel)
theorem nw_1170 : (Jvm.Cond.castable "java/lang/IllegalArgumentException" "java/lang/IllegalArgumentException") ∈ nw_L := nw_i 1170 (by decide +kernel) (by decide +kernel)
theorem nw_2085 : (Jvm.Cond.castable "java/lang/IndexOutOfBoundsException" "java/lang/IndexOutOfBoundsException") ∈ nw_L := nw_i 2085 (by decide +kernel) (by decide +kernel)
theorem d_Law_end_0 : decode method_4_code 0 = .ok (.aload_n 0, 1) := by decide +kernel
theorem d_Law_end_1 : decode method_4_code 1 = .ok (.iload_n 1, 1) := by decide +kernel
theorem d_Law_end_2 : decode method_4_code 2 = .ok (.invokevirtual 15, 3) := by decide +kernel
theorem d_Law_end_5 : decode method_4_code 5 = .ok (.goto 6, 3) := by decide +kernel
theorem d_Law_end_8 : decode method_4_code 8 = .ok (.astore_n 2, 1) := by decide +kernel
theorem d_Law_end_9 : decode method_4_code 9 = .ok (.iconst 1, 1) := by decide +kernel
theorem d_Law_end_10 : decode method_4_code 10 = .ok (.ireturn, 1) := by decide +kernel
theorem d_Law_end_11 : decode method_4_code 11 = .ok (.iconst 0, 1) := by decide +kernel
theorem d_Law_end_12 : decode method_4_code 12 = .ok (.ireturn, 1) := by decide +kernel
theorem d_Law_shown_0 : decode method_5_code 0 = .ok (.aload_n 2, 1) := by decide +kernel
theorem d_Law_shown_1 : decode method_5_code 1 = .ok (.iconst 0, 1) := by decide +kernel
theorem d_Law_shown_2 : decode method_5_code 2 = .ok (.aload_n 0, 1) := by decide +kernel
theorem d_Law_shown_3 : decode method_5_code 3 = .ok (.iload_n 1, 1) := by decide +kernel
theorem d_Law_shown_4 : decode method_5_code 4 = .ok (.invokevirtual 21, 3) := by decide +kernel
theorem d_Law_shown_7 : decode method_5_code 7 = .ok (.i2l, 1) := by decide +kernel
theorem d_Law_shown_8 : decode method_5_code 8 = .ok (.lastore, 1) := by decide +kernel
theorem d_Law_shown_9 : decode method_5_code 9 = .ok (.goto 6, 3) := by decide +kernel
theorem d_Law_shown_12 : decode method_5_code 12 = .ok (.astore_n 3, 1) := by decide +kernel
theorem d_Law_shown_13 : decode method_5_code 13 = .ok (.iconst 1, 1) := by decide +kernel
theorem d_Law_shown_14 : decode method_5_code 14 = .ok (.ireturn, 1) := by decide +kernel
theorem d_Law_shown_15 : decode method_5_code 15 = .ok (.iconst 0, 1) := by decide +kernel
theorem d_Law_shown_16 : decode method_5_code 16 = .ok (.ireturn, 1) := by decide +kernel
def w_Law_end : List Cond := .codeWith ⟨"MatrixScriptsLaw", "end", "(LMatrixScripts;I)I"⟩ method_4_code 3 (some .int) [((0 : Nat), (5 : Nat), (8 : Nat), (19 : Nat))] :: wd_all
theorem gd_Law_end : GoodIn wd_all w_Law_end := gd_of tw_2064
set_option maxHeartbeats 4000000 in
set_option maxRecDepth 100000 in
theorem c_Law_end (l : Launch) (hfl : ∀ e, l.admits e → e.platform.stackTraces = false) (D : va_G) (g : Nat → ClassId) (h0 : Nat) (m0 : Nat) (m1 : Nat) (m2 : Nat) (t0 : Nat) (t1 : Int32) (t2 : Int32) (t3 : Int32) (t4 : Int32) (n : Int32) (sz : Nat) : Met l ⟨"MatrixScriptsLaw", "end", "(LMatrixScripts;I)I"⟩ w_Law_end { frames := 7, cells := 1, slots := 6, locals := 102 } (cpz D g [.ref h0, .int n] [(h0, .inr (12, [.ref m0, .ref m1, .ref m2])), (m1, .inr (9, [.ref t0, .int t1, .int t2, .int t3, .int t4]))] sz) (ci D (va_A [(h0, .inr (12, [.ref m0, .ref m1, .ref m2])), (m1, .inr (9, [.ref t0, .int t1, .int t2, .int t3, .int t4]))] sz) (fun r u => ((n < 0 ∨ t1 < n) → r = 1 ∧ u = t1) ∧ (¬ (n < 0 ∨ t1 < n) → r = 0 ∧ u = n)) (fun u : Int32 => [(h0, .inr (12, [.ref m0, .ref m1, .ref m2])), (m1, .inr (9, [.ref t0, .int u, .int t2, .int t3, .int t4]))])) 1 6 (va_A [(h0, .inr (12, [.ref m0, .ref m1, .ref m2])), (m1, .inr (9, [.ref t0, .int t1, .int t2, .int t3, .int t4]))] sz) := by
  refine Met.ofWH (cc := method_4_code) (maxL := 3) (ret := (some .int)) (by decide) rfl ?_
  intro p e s m args below meth c s₁ B0 hml htab hv
  obtain ⟨rfl, hsz, hP, hK, hD0, hN, hZ⟩ := hv
  have hx := B0.exec
  have hb := B0.bytes
  have hr := B0.returns
  have hts := atoms_spec (ws := w_Law_end) B0.pre
  have hT := fun (w : Cond) (h : w ∈ wd_all) => hts w (List.mem_cons_of_mem _ h)
  have hown : s.vm.findClass "MatrixScriptsLaw" = some m.cls := findClass_of_methodNamed B0.named
  have hlocks := B0.notSynchronized
  subst hsz
  have hD := hD0.self (sz := s.heap.size)
  have hPs := hP
  generalize hAe : va_A [(h0, .inr (12, [.ref m0, .ref m1, .ref m2])), (m1, .inr (9, [.ref t0, .int t1, .int t2, .int t3, .int t4]))] s.heap.size = A at hD ⊢
  have hA : ∀ q : Nat, s.heap.size ≤ q → A q := fun q h => by rw [← hAe]; exact Or.inr h
  have hS : va_S A s.heap s.heap [] := va_S.rf
  have hP : va_P D vC ([(h0, .inr (12, [.ref m0, .ref m1, .ref m2])), (m1, .inr (9, [.ref t0, .int t1, .int t2, .int t3, .int t4]))] ++ ([] : va_W)) s.heap := hP
  have hD : va_D A ([(h0, .inr (12, [.ref m0, .ref m1, .ref m2])), (m1, .inr (9, [.ref t0, .int t1, .int t2, .int t3, .int t4]))] ++ ([] : va_W)) := hD
  have hl := lv_entry ([.ref h0, .int n]) (n := 3) (Nat.le_of_ble_eq_true rfl)
  rw [lg_entry_eq]
  generalize (lg_sl ([.ref h0, .int n]) ++ List.replicate (3 - (lg_sl ([.ref h0, .int n])).length) Slot.unset).toArray = ls at hl ⊢
  have hl : lv_has ls 3 [(0, .ref h0), (1, .int n)] := hl
  refine lv_aload_n hx hb d_Law_end_0 rfl (lv_at hl 0 rfl) ?_
  refine lv_iload_n hx hb d_Law_end_1 rfl (lv_at hl 1 rfl) ?_
  have hP : va_P D vC ([(h0, .inr (12, [.ref m0, .ref m1, .ref m2])), (m1, .inr (9, [.ref t0, .int t1, .int t2, .int t3, .int t4]))] ++ ([] ++ ([] : va_W))) s.heap := hP
  have hD : va_D A ([(h0, .inr (12, [.ref m0, .ref m1, .ref m2])), (m1, .inr (9, [.ref t0, .int t1, .int t2, .int t3, .int t4]))] ++ ([] ++ ([] : va_W))) := hD
  have hFc := pm_free hD hS hA
  refine cE_callV (x := ⟨0, 5, 8, 19⟩) (As := [.int n]) (rest := []) ⟨hx, hb, hml, hown, hT⟩ (c_Ms_end l hfl D g h0 m0 m1 m2 t0 t1 t2 t3 t4 n s.heap.size) (cwV 1 hT (gdV tw_2066 tw_2067 tw_2068 tw_154 tw_2069) rfl rfl rfl (by decide +kernel) ⟨Nat.le_of_ble_eq_true rfl, Nat.le_of_ble_eq_true rfl⟩) (cpz_V (C := "MatrixScripts") (T := T_Ms) (N := 3) (ci := 12) hP hK hD hN hZ hPs (by rw [hAe]; exact hS) rfl) rfl hl.1 (Nat.le_of_ble_eq_true rfl) d_Law_end_2 ⟨Nat.le_of_ble_eq_true rfl, Nat.le_of_ble_eq_true rfl⟩ htab (by decide) (by decide) (hT _ tw_2065) (va_Nw.use rfl (hN.1 _ nw_1170)) hS hFc (fun r2 u2 H1 locs hw hP1 hD1 hk1 hS => ?_) (fun x2 H1 locs hw hP1 hD1 hk1 hS => ?_)
  · obtain ⟨hP, hD⟩ := pm_join hP hD hk1 hFc hP1 hD1
    generalize H1 = H at hP hS ⊢
    obtain ⟨rfl, hw2⟩ := hw
    have hP : va_P D vC ([(h0, .inr (12, [.ref m0, .ref m1, .ref m2])), (m1, .inr (9, [.ref t0, .int n, .int t2, .int t3, .int t4]))] ++ ([] : va_W)) H := hP
    have hD : va_D A ([(h0, .inr (12, [.ref m0, .ref m1, .ref m2])), (m1, .inr (9, [.ref t0, .int n, .int t2, .int t3, .int t4]))] ++ ([] : va_W)) := hD
    refine W.eq (g2 := F0 m 5 ls []) rfl ?_
    refine W.widen (k := 1) (n := 6) (Nat.le_of_ble_eq_true rfl) (Nat.le_of_ble_eq_true rfl) ?_
    refine lv_goto (tgt := 11) hx hb d_Law_end_5 (by decide) ?_
    refine lv_iconst (v := 0) hx hb d_Law_end_11 (by decide) ?_
    have hP9 := pm_subP (a' := [(h0, .inr (12, [.ref m0, .ref m1, .ref m2])), (m1, .inr (9, [.ref t0, .int n, .int t2, .int t3, .int t4]))]) hP [0, 1] rfl
    have hD9 := pm_subD (a' := [(h0, .inr (12, [.ref m0, .ref m1, .ref m2])), (m1, .inr (9, [.ref t0, .int n, .int t2, .int t3, .int t4]))]) hD [0, 1] (by decide) rfl
    refine W.widen (k := 1) (n := 6) (Nat.le_of_ble_eq_true rfl) (Nat.le_of_ble_eq_true rfl) ?_
    exact W.iret (v := 0) hx hb hr (fun t ht1 hW => ⟨⟨_, n, rfl, ⟨fun h => absurd h hw2, fun _ => ⟨rfl, rfl⟩⟩, by rw [ht1]; exact hP9, hD9⟩, hS.F ht1⟩) hS.2.2 d_Law_end_12
  · obtain ⟨hP, hD⟩ := pm_join hP hD hk1 hFc hP1 hD1
    generalize H1 = H at hP hS ⊢
    have hP : va_P D vC ([(h0, .inr (12, [.ref m0, .ref m1, .ref m2])), (m1, .inr (9, [.ref t0, .int t1, .int t2, .int t3, .int t4]))] ++ ([] : va_W)) H := hP
    have hD : va_D A ([(h0, .inr (12, [.ref m0, .ref m1, .ref m2])), (m1, .inr (9, [.ref t0, .int t1, .int t2, .int t3, .int t4]))] ++ ([] : va_W)) := hD
    refine W.eq (g2 := F0 m 8 ls [.ref x2]) rfl ?_
    refine W.widen (k := 1) (n := 6) (Nat.le_of_ble_eq_true rfl) (Nat.le_of_ble_eq_true rfl) ?_
    refine lv_astore_n (lv' := [(2, .ref x2), (0, .ref h0), (1, .int n)]) hx hb d_Law_end_8 rfl hl (by decide) rfl (fun ls hl => ?_)
    refine lv_iconst (v := 1) hx hb d_Law_end_9 (by decide) ?_
    have hP9 := pm_subP (a' := [(h0, .inr (12, [.ref m0, .ref m1, .ref m2])), (m1, .inr (9, [.ref t0, .int t1, .int t2, .int t3, .int t4]))]) hP [0, 1] rfl
    have hD9 := pm_subD (a' := [(h0, .inr (12, [.ref m0, .ref m1, .ref m2])), (m1, .inr (9, [.ref t0, .int t1, .int t2, .int t3, .int t4]))]) hD [0, 1] (by decide) rfl
    refine W.widen (k := 1) (n := 6) (Nat.le_of_ble_eq_true rfl) (Nat.le_of_ble_eq_true rfl) ?_
    exact W.iret (v := 1) hx hb hr (fun t ht1 hW => ⟨⟨_, t1, rfl, ⟨fun _ => ⟨rfl, rfl⟩, fun h => absurd hw h⟩, by rw [ht1]; exact hP9, hD9⟩, hS.F ht1⟩) hS.2.2 d_Law_end_10
def w_Law_shown : List Cond := .codeWith ⟨"MatrixScriptsLaw", "shown", "(LMatrixScripts;I[J)I"⟩ method_5_code 4 (some .int) [((0 : Nat), (9 : Nat), (12 : Nat), (25 : Nat))] :: wd_all
theorem gd_Law_shown : GoodIn wd_all w_Law_shown := gd_of tw_2077
set_option maxHeartbeats 4000000 in
set_option maxRecDepth 100000 in
theorem c_Law_shown (l : Launch) (hfl : ∀ e, l.admits e → e.platform.stackTraces = false) (D : va_G) (g : Nat → ClassId) (h0 : Nat) (m0 : Nat) (m1 : Nat) (m2 : Nat) (p0 : Nat) (p1 : Int32) (p2 : Nat) (p3 : Nat) (p4 : Nat) (an : Nat) (af : Nat → Int32) (on : Nat) (of : Nat → Int64) (i : Int32) (o : Nat) (hin : ¬ (i < 0 ∨ p1 ≤ i) → vp_in (i >>> ((2 : Int32) &&& 31)) an) (ho : vp_in 0 on) (sz : Nat) : Met l ⟨"MatrixScriptsLaw", "shown", "(LMatrixScripts;I[J)I"⟩ w_Law_shown { frames := 7, cells := 1, slots := 6, locals := 102 } (cpz D g [.ref h0, .int i, .ref o] [(h0, .inr (12, [.ref m0, .ref m1, .ref m2])), (m2, .inr (6, [.ref p0, .int p1, .ref p2, .ref p3, .ref p4])), (p0, .inl (g 0, an, .inl af)), (o, .inl (g 1, on, .inr (.inl of)))] sz) (ci D (va_A [(h0, .inr (12, [.ref m0, .ref m1, .ref m2])), (m2, .inr (6, [.ref p0, .int p1, .ref p2, .ref p3, .ref p4])), (p0, .inl (g 0, an, .inl af)), (o, .inl (g 1, on, .inr (.inl of)))] sz) (fun r u => ((i < 0 ∨ p1 ≤ i) → r = 1 ∧ u = of) ∧ (¬ (i < 0 ∨ p1 ≤ i) → r = 0 ∧ u = vp_updL of 0 (pb af i).toInt64)) (fun u : Nat → Int64 => [(h0, .inr (12, [.ref m0, .ref m1, .ref m2])), (m2, .inr (6, [.ref p0, .int p1, .ref p2, .ref p3, .ref p4])), (p0, .inl (g 0, an, .inl af)), (o, .inl (g 1, on, .inr (.inl u)))])) 1 6 (va_A [(h0, .inr (12, [.ref m0, .ref m1, .ref m2])), (m2, .inr (6, [.ref p0, .int p1, .ref p2, .ref p3, .ref p4])), (p0, .inl (g 0, an, .inl af)), (o, .inl (g 1, on, .inr (.inl of)))] sz) := by
  refine Met.ofWH (cc := method_5_code) (maxL := 4) (ret := (some .int)) (by decide) rfl ?_
  intro p e s m args below meth c s₁ B0 hml htab hv
  obtain ⟨rfl, hsz, hP, hK, hD0, hN, hZ⟩ := hv
  have hx := B0.exec
  have hb := B0.bytes
  have hr := B0.returns
  have hts := atoms_spec (ws := w_Law_shown) B0.pre
  have hT := fun (w : Cond) (h : w ∈ wd_all) => hts w (List.mem_cons_of_mem _ h)
  have hown : s.vm.findClass "MatrixScriptsLaw" = some m.cls := findClass_of_methodNamed B0.named
  have hlocks := B0.notSynchronized
  subst hsz
  have hD := hD0.self (sz := s.heap.size)
  have hPs := hP
  generalize hAe : va_A [(h0, .inr (12, [.ref m0, .ref m1, .ref m2])), (m2, .inr (6, [.ref p0, .int p1, .ref p2, .ref p3, .ref p4])), (p0, .inl (g 0, an, .inl af)), (o, .inl (g 1, on, .inr (.inl of)))] s.heap.size = A at hD ⊢
  have hA : ∀ q : Nat, s.heap.size ≤ q → A q := fun q h => by rw [← hAe]; exact Or.inr h
  have hS : va_S A s.heap s.heap [] := va_S.rf
  have hP : va_P D vC ([(h0, .inr (12, [.ref m0, .ref m1, .ref m2])), (m2, .inr (6, [.ref p0, .int p1, .ref p2, .ref p3, .ref p4])), (p0, .inl (g 0, an, .inl af)), (o, .inl (g 1, on, .inr (.inl of)))] ++ ([] : va_W)) s.heap := hP
  have hD : va_D A ([(h0, .inr (12, [.ref m0, .ref m1, .ref m2])), (m2, .inr (6, [.ref p0, .int p1, .ref p2, .ref p3, .ref p4])), (p0, .inl (g 0, an, .inl af)), (o, .inl (g 1, on, .inr (.inl of)))] ++ ([] : va_W)) := hD
  have hl := lv_entry ([.ref h0, .int i, .ref o]) (n := 4) (Nat.le_of_ble_eq_true rfl)
  rw [lg_entry_eq]
  generalize (lg_sl ([.ref h0, .int i, .ref o]) ++ List.replicate (4 - (lg_sl ([.ref h0, .int i, .ref o])).length) Slot.unset).toArray = ls at hl ⊢
  have hl : lv_has ls 4 [(0, .ref h0), (1, .int i), (2, .ref o)] := hl
  refine lv_aload_n hx hb d_Law_shown_0 rfl (lv_at hl 2 rfl) ?_
  refine lv_iconst (v := 0) hx hb d_Law_shown_1 (by decide) ?_
  refine lv_aload_n hx hb d_Law_shown_2 rfl (lv_at hl 0 rfl) ?_
  refine lv_iload_n hx hb d_Law_shown_3 rfl (lv_at hl 1 rfl) ?_
  have hP : va_P D vC ([(h0, .inr (12, [.ref m0, .ref m1, .ref m2])), (m2, .inr (6, [.ref p0, .int p1, .ref p2, .ref p3, .ref p4])), (p0, .inl (g 0, an, .inl af))] ++ ([(o, .inl (g 1, on, .inr (.inl of)))] ++ ([] : va_W))) s.heap := hP
  have hD : va_D A ([(h0, .inr (12, [.ref m0, .ref m1, .ref m2])), (m2, .inr (6, [.ref p0, .int p1, .ref p2, .ref p3, .ref p4])), (p0, .inl (g 0, an, .inl af))] ++ ([(o, .inl (g 1, on, .inr (.inl of)))] ++ ([] : va_W))) := hD
  have hFc := pm_free hD hS hA
  refine cE_callV (x := ⟨0, 9, 12, 25⟩) (As := [.int i]) (rest := [.int 0, .ref o]) ⟨hx, hb, hml, hown, hT⟩ (c_Ms_shown l hfl D g h0 m0 m1 m2 p0 p1 p2 p3 p4 an af i hin s.heap.size) (cwV 1 hT (gdV tw_2079 tw_2080 tw_2081 tw_154 tw_2082) rfl rfl rfl (by decide +kernel) ⟨Nat.le_of_ble_eq_true rfl, Nat.le_of_ble_eq_true rfl⟩) (cpz_V (C := "MatrixScripts") (T := T_Ms) (N := 3) (ci := 12) hP hK hD hN hZ hPs (by rw [hAe]; exact hS) rfl) rfl hl.1 (Nat.le_of_ble_eq_true rfl) d_Law_shown_4 ⟨Nat.le_of_ble_eq_true rfl, Nat.le_of_ble_eq_true rfl⟩ htab (by decide) (by decide) (hT _ tw_2078) (va_Nw.use rfl (hN.1 _ nw_2085)) hS hFc (fun r4 u4 H1 locs hw hP1 hD1 hk1 hS => ?_) (fun x4 H1 locs hw hP1 hD1 hk1 hS => ?_)
  · obtain ⟨hP, hD⟩ := pm_join hP hD hk1 hFc hP1 hD1
    generalize H1 = H at hP hS ⊢
    obtain ⟨rfl, hw4⟩ := hw
    have hP : va_P D vC ([(h0, .inr (12, [.ref m0, .ref m1, .ref m2])), (m2, .inr (6, [.ref p0, .int p1, .ref p2, .ref p3, .ref p4])), (p0, .inl (g 0, an, .inl af)), (o, .inl (g 1, on, .inr (.inl of)))] ++ ([] : va_W)) H := hP
    have hD : va_D A ([(h0, .inr (12, [.ref m0, .ref m1, .ref m2])), (m2, .inr (6, [.ref p0, .int p1, .ref p2, .ref p3, .ref p4])), (p0, .inl (g 0, an, .inl af)), (o, .inl (g 1, on, .inr (.inl of)))] ++ ([] : va_W)) := hD
    refine W.eq (g2 := F0 m 7 ls [.int (pb af i), .int 0, .ref o]) rfl ?_
    refine W.widen (k := 1) (n := 6) (Nat.le_of_ble_eq_true rfl) (Nat.le_of_ble_eq_true rfl) ?_
    refine lv_i2l hx hb d_Law_shown_7 rfl ?_
    refine lv_topl (fun w7 ew7 => ?_)
    refine va_last hx hb hK hP hD hS 3 1 rfl rfl (i := 0) (x := w7) ho d_Law_shown_8 (fun H locs hP hD hS => ?_)
    have hP : va_P D vC ([(h0, .inr (12, [.ref m0, .ref m1, .ref m2])), (m2, .inr (6, [.ref p0, .int p1, .ref p2, .ref p3, .ref p4])), (p0, .inl (g 0, an, .inl af)), (o, .inl (g 1, on, .inr (.inl (vp_updL of 0 w7))))] ++ ([] : va_W)) H := hP
    have hD : va_D A ([(h0, .inr (12, [.ref m0, .ref m1, .ref m2])), (m2, .inr (6, [.ref p0, .int p1, .ref p2, .ref p3, .ref p4])), (p0, .inl (g 0, an, .inl af)), (o, .inl (g 1, on, .inr (.inl (vp_updL of 0 w7))))] ++ ([] : va_W)) := hD
    refine lv_goto (tgt := 15) hx hb d_Law_shown_9 (by decide) ?_
    refine lv_iconst (v := 0) hx hb d_Law_shown_15 (by decide) ?_
    have hP9 := pm_subP (a' := [(h0, .inr (12, [.ref m0, .ref m1, .ref m2])), (m2, .inr (6, [.ref p0, .int p1, .ref p2, .ref p3, .ref p4])), (p0, .inl (g 0, an, .inl af)), (o, .inl (g 1, on, .inr (.inl (vp_updL of 0 w7))))]) hP [0, 1, 2, 3] rfl
    have hD9 := pm_subD (a' := [(h0, .inr (12, [.ref m0, .ref m1, .ref m2])), (m2, .inr (6, [.ref p0, .int p1, .ref p2, .ref p3, .ref p4])), (p0, .inl (g 0, an, .inl af)), (o, .inl (g 1, on, .inr (.inl (vp_updL of 0 w7))))]) hD [0, 1, 2, 3] (by decide) rfl
    refine W.widen (k := 1) (n := 6) (Nat.le_of_ble_eq_true rfl) (Nat.le_of_ble_eq_true rfl) ?_
    exact W.iret (v := 0) hx hb hr (fun t ht1 hW => ⟨⟨_, vp_updL of 0 w7, rfl, ⟨fun h => absurd h hw4, fun _ => ⟨rfl, by rw [ew7]⟩⟩, by rw [ht1]; exact hP9, hD9⟩, hS.F ht1⟩) hS.2.2 d_Law_shown_16
  · obtain ⟨hP, hD⟩ := pm_join hP hD hk1 hFc hP1 hD1
    generalize H1 = H at hP hS ⊢
    have hP : va_P D vC ([(h0, .inr (12, [.ref m0, .ref m1, .ref m2])), (m2, .inr (6, [.ref p0, .int p1, .ref p2, .ref p3, .ref p4])), (p0, .inl (g 0, an, .inl af)), (o, .inl (g 1, on, .inr (.inl of)))] ++ ([] : va_W)) H := hP
    have hD : va_D A ([(h0, .inr (12, [.ref m0, .ref m1, .ref m2])), (m2, .inr (6, [.ref p0, .int p1, .ref p2, .ref p3, .ref p4])), (p0, .inl (g 0, an, .inl af)), (o, .inl (g 1, on, .inr (.inl of)))] ++ ([] : va_W)) := hD
    refine W.eq (g2 := F0 m 12 ls [.ref x4]) rfl ?_
    refine W.widen (k := 1) (n := 6) (Nat.le_of_ble_eq_true rfl) (Nat.le_of_ble_eq_true rfl) ?_
    refine lv_astore_n (lv' := [(3, .ref x4), (0, .ref h0), (1, .int i), (2, .ref o)]) hx hb d_Law_shown_12 rfl hl (by decide) rfl (fun ls hl => ?_)
    refine lv_iconst (v := 1) hx hb d_Law_shown_13 (by decide) ?_
    have hP9 := pm_subP (a' := [(h0, .inr (12, [.ref m0, .ref m1, .ref m2])), (m2, .inr (6, [.ref p0, .int p1, .ref p2, .ref p3, .ref p4])), (p0, .inl (g 0, an, .inl af)), (o, .inl (g 1, on, .inr (.inl of)))]) hP [0, 1, 2, 3] rfl
    have hD9 := pm_subD (a' := [(h0, .inr (12, [.ref m0, .ref m1, .ref m2])), (m2, .inr (6, [.ref p0, .int p1, .ref p2, .ref p3, .ref p4])), (p0, .inl (g 0, an, .inl af)), (o, .inl (g 1, on, .inr (.inl of)))]) hD [0, 1, 2, 3] (by decide) rfl
    refine W.widen (k := 1) (n := 6) (Nat.le_of_ble_eq_true rfl) (Nat.le_of_ble_eq_true rfl) ?_
    exact W.iret (v := 1) hx hb hr (fun t ht1 hW => ⟨⟨_, of, rfl, ⟨fun _ => ⟨rfl, rfl⟩, fun h => absurd hw h⟩, by rw [ht1]; exact hP9, hD9⟩, hS.F ht1⟩) hS.2.2 d_Law_shown_14
