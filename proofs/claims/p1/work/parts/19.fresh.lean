def w_Tape_byteAt : List Cond := .code ⟨"MatrixScripts$Tape", "byteAt", "(I)I"⟩ prog_13_method_3_code 2 (some .int) :: wd_all
theorem gd_Tape_byteAt : GoodIn wd_all w_Tape_byteAt := gd_of tw_781
set_option maxHeartbeats 4000000 in
set_option maxRecDepth 100000 in
theorem c_Tape_byteAt (l : Launch) (D : va_G) (g : Nat → ClassId) (h0 : Nat) (t0 : Nat) (t1 : Int32) (t2 : Int32) (t3 : Int32) (t4 : Int32) (an : Nat) (af : Nat → Int32) (i : Int32) (hin : ¬ (i < 0 ∨ t1 ≤ i) → vp_in (i >>> ((2 : Int32) &&& 31)) an) (sz : Nat) : Met l ⟨"MatrixScripts$Tape", "byteAt", "(I)I"⟩ w_Tape_byteAt { frames := 0, cells := 0, slots := 0, locals := 0 } (cp D g [.ref h0, .int i] [(h0, .inr (9, [.ref t0, .int t1, .int t2, .int t3, .int t4])), (t0, .inl (g 0, an, .inl af))] sz) (ci D (va_A [(h0, .inr (9, [.ref t0, .int t1, .int t2, .int t3, .int t4])), (t0, .inl (g 0, an, .inl af))] sz) (fun r _ => r = if i < 0 ∨ t1 ≤ i then -1 else pb af i) (fun u : Unit => [(h0, .inr (9, [.ref t0, .int t1, .int t2, .int t3, .int t4])), (t0, .inl (g 0, an, .inl af))])) 0 0 (va_A [(h0, .inr (9, [.ref t0, .int t1, .int t2, .int t3, .int t4])), (t0, .inl (g 0, an, .inl af))] sz) := by
  refine Met.ofW (cc := prog_13_method_3_code) (maxL := 2) (ret := (some .int)) (by decide) rfl ?_
  intro p e s m args below meth c s₁ B0 hml hv
  obtain ⟨rfl, hsz, hP, hK, hD0, hN⟩ := hv
  have hx := B0.exec
  have hb := B0.bytes
  have hr := B0.returns
  have hts := atoms_spec (ws := w_Tape_byteAt) B0.pre
  have hT := fun (w : Cond) (h : w ∈ wd_all) => hts w (List.mem_cons_of_mem _ h)
  have hown : s.vm.findClass "MatrixScripts$Tape" = some m.cls := findClass_of_methodNamed B0.named
  have hlocks := B0.notSynchronized
  subst hsz
  have hD := hD0.self (sz := s.heap.size)
  generalize hAe : va_A [(h0, .inr (9, [.ref t0, .int t1, .int t2, .int t3, .int t4])), (t0, .inl (g 0, an, .inl af))] s.heap.size = A at hD ⊢
  have hA : ∀ q : Nat, s.heap.size ≤ q → A q := fun q h => by rw [← hAe]; exact Or.inr h
  have hS : va_S A s.heap s.heap [] := va_S.rf
  have hP : va_P D vC ([(h0, .inr (9, [.ref t0, .int t1, .int t2, .int t3, .int t4])), (t0, .inl (g 0, an, .inl af))] ++ ([] : va_W)) s.heap := hP
  have hD : va_D A ([(h0, .inr (9, [.ref t0, .int t1, .int t2, .int t3, .int t4])), (t0, .inl (g 0, an, .inl af))] ++ ([] : va_W)) := hD
  have hl := lv_entry ([.ref h0, .int i]) (n := 2) (Nat.le_of_ble_eq_true rfl)
  rw [lg_entry_eq]
  generalize (lg_sl ([.ref h0, .int i]) ++ List.replicate (2 - (lg_sl ([.ref h0, .int i])).length) Slot.unset).toArray = ls at hl ⊢
  have hl : lv_has ls 2 [(0, .ref h0), (1, .int i)] := hl
  refine lv_iload_n hx hb d_Tape_byteAt_0 rfl (lv_at hl 1 rfl) ?_
  refine lv_if_lt (tgt := 12) hx hb d_Tape_byteAt_1 (by decide) (fun c1 => ?_) (fun c1 => ?_)
  · refine lv_iconst (v := -1) hx hb d_Tape_byteAt_12 (by decide) ?_
    refine lv_goto (tgt := 38) hx hb d_Tape_byteAt_13 (by decide) ?_
    have hP9 := pm_subP (a' := [(h0, .inr (9, [.ref t0, .int t1, .int t2, .int t3, .int t4])), (t0, .inl (g 0, an, .inl af))]) hP [0, 1] rfl
    have hD9 := pm_subD (a' := [(h0, .inr (9, [.ref t0, .int t1, .int t2, .int t3, .int t4])), (t0, .inl (g 0, an, .inl af))]) hD [0, 1] (by decide) rfl
    refine W.widen (k := 0) (n := 0) (Nat.le_of_ble_eq_true rfl) (Nat.le_of_ble_eq_true rfl) ?_
    exact W.iret (v := (-1)) hx hb hr (fun t ht1 hW => ⟨⟨_, (), rfl, by rw [if_pos (Or.inl c1)], by rw [ht1]; exact hP9, hD9⟩, hS.F ht1⟩) hS.2.2 d_Tape_byteAt_38
  · refine lv_iload_n hx hb d_Tape_byteAt_4 rfl (lv_at hl 1 rfl) ?_
    refine lv_aload_n hx hb d_Tape_byteAt_5 rfl (lv_at hl 0 rfl) ?_
    refine va_get (D := D) (ci := 9) (v := .int t1) (C := "MatrixScripts$Tape") (T := T_Tape) (N := 5) hx hb hT in_Tape hown hK hP 0 rfl rfl 1 (by decide) (hT _ tw_215) (fun _ h9 => h9) rfl d_Tape_byteAt_6 ?_
    refine lv_icmp_lt (tgt := 16) hx hb d_Tape_byteAt_9 (by decide) (fun c9 => ?_) (fun c9 => ?_)
    · refine lv_aload_n hx hb d_Tape_byteAt_16 rfl (lv_at hl 0 rfl) ?_
      refine va_get (D := D) (ci := 9) (v := .ref t0) (C := "MatrixScripts$Tape") (T := T_Tape) (N := 5) hx hb hT in_Tape hown hK hP 0 rfl rfl 0 (by decide) (hT _ tw_213) (fun _ h9 => h9) rfl d_Tape_byteAt_17 ?_
      refine lv_iload_n hx hb d_Tape_byteAt_20 rfl (lv_at hl 1 rfl) ?_
      refine lv_iconst (v := 2) hx hb d_Tape_byteAt_21 (by decide) ?_
      refine lv_ishr hx hb d_Tape_byteAt_22 ?_
      refine lv_topi (fun v22 ev22 => ?_)
      refine va_iald hx hb hK hP 1 0 rfl rfl (i := v22) (by rw [ev22]; exact hin (fun h => h.elim c1 (fun h => Int32.not_lt.mpr h c9))) d_Tape_byteAt_23 ?_
      refine lv_topi (fun v23 ev23 => ?_)
      refine lv_bipush (v := 24) hx hb d_Tape_byteAt_24 (by decide) ?_
      refine lv_bipush (v := 8) hx hb d_Tape_byteAt_26 (by decide) ?_
      refine lv_iload_n hx hb d_Tape_byteAt_28 rfl (lv_at hl 1 rfl) ?_
      refine lv_iconst (v := 3) hx hb d_Tape_byteAt_29 (by decide) ?_
      refine lv_iand hx hb d_Tape_byteAt_30 ?_
      refine lv_topi (fun v30 ev30 => ?_)
      refine lv_imul hx hb d_Tape_byteAt_31 ?_
      refine lv_topi (fun v31 ev31 => ?_)
      refine lv_isub hx hb d_Tape_byteAt_32 ?_
      refine lv_topi (fun v32 ev32 => ?_)
      refine lv_iushr hx hb d_Tape_byteAt_33 rfl ?_
      refine lv_topi (fun v33 ev33 => ?_)
      refine lv_sipush (v := 255) hx hb d_Tape_byteAt_34 (by decide) ?_
      refine lv_iand hx hb d_Tape_byteAt_37 ?_
      refine lv_topi (fun v37 ev37 => ?_)
      have hP9 := pm_subP (a' := [(h0, .inr (9, [.ref t0, .int t1, .int t2, .int t3, .int t4])), (t0, .inl (g 0, an, .inl af))]) hP [0, 1] rfl
      have hD9 := pm_subD (a' := [(h0, .inr (9, [.ref t0, .int t1, .int t2, .int t3, .int t4])), (t0, .inl (g 0, an, .inl af))]) hD [0, 1] (by decide) rfl
      refine W.widen (k := 0) (n := 0) (Nat.le_of_ble_eq_true rfl) (Nat.le_of_ble_eq_true rfl) ?_
      exact W.iret (v := v37) hx hb hr (fun t ht1 hW => ⟨⟨_, (), rfl, by rw [if_neg (fun h => h.elim c1 (fun h => Int32.not_lt.mpr h c9)), ev37, ev33, ev32, ev31, ev30, ev23, ev22]; rfl, by rw [ht1]; exact hP9, hD9⟩, hS.F ht1⟩) hS.2.2 d_Tape_byteAt_38
    · refine lv_iconst (v := -1) hx hb d_Tape_byteAt_12 (by decide) ?_
      refine lv_goto (tgt := 38) hx hb d_Tape_byteAt_13 (by decide) ?_
      have hP9 := pm_subP (a' := [(h0, .inr (9, [.ref t0, .int t1, .int t2, .int t3, .int t4])), (t0, .inl (g 0, an, .inl af))]) hP [0, 1] rfl
      have hD9 := pm_subD (a' := [(h0, .inr (9, [.ref t0, .int t1, .int t2, .int t3, .int t4])), (t0, .inl (g 0, an, .inl af))]) hD [0, 1] (by decide) rfl
      refine W.widen (k := 0) (n := 0) (Nat.le_of_ble_eq_true rfl) (Nat.le_of_ble_eq_true rfl) ?_
      exact W.iret (v := (-1)) hx hb hr (fun t ht1 hW => ⟨⟨_, (), rfl, by rw [if_pos (Or.inr (Int32.not_lt.mp c9))], by rw [ht1]; exact hP9, hD9⟩, hS.F ht1⟩) hS.2.2 d_Tape_byteAt_38
def w_Tape_behindBlanks : List Cond := .code ⟨"MatrixScripts$Tape", "behindBlanks", "(I)I"⟩ prog_13_method_7_code 5 (some .int) :: wd_all
theorem gd_Tape_behindBlanks : GoodIn wd_all w_Tape_behindBlanks := gd_of tw_777
set_option maxHeartbeats 4000000 in
set_option maxRecDepth 100000 in
theorem c_Tape_behindBlanks_e (l : Launch) (D : va_G) (g : Nat → ClassId) (h0 : Nat) (t0 : Nat) (t2 : Int32) (t3 : Int32) (t4 : Int32) (sz : Nat) : Met l ⟨"MatrixScripts$Tape", "behindBlanks", "(I)I"⟩ w_Tape_behindBlanks { frames := 0, cells := 0, slots := 0, locals := 0 } (cp D g [.ref h0, .int 0] [(h0, .inr (9, [.ref t0, .int 0, .int t2, .int t3, .int t4]))] sz) (ci D (va_A [(h0, .inr (9, [.ref t0, .int 0, .int t2, .int t3, .int t4]))] sz) (fun r _ => r = 0) (fun u : Unit => [(h0, .inr (9, [.ref t0, .int 0, .int t2, .int t3, .int t4]))])) 0 0 (va_A [(h0, .inr (9, [.ref t0, .int 0, .int t2, .int t3, .int t4]))] sz) := by
  refine Met.ofW (cc := prog_13_method_7_code) (maxL := 5) (ret := (some .int)) (by decide) rfl ?_
  intro p e s m args below meth c s₁ B0 hml hv
  obtain ⟨rfl, hsz, hP, hK, hD0, hN⟩ := hv
  have hx := B0.exec
  have hb := B0.bytes
  have hr := B0.returns
  have hts := atoms_spec (ws := w_Tape_behindBlanks) B0.pre
  have hT := fun (w : Cond) (h : w ∈ wd_all) => hts w (List.mem_cons_of_mem _ h)
  have hown : s.vm.findClass "MatrixScripts$Tape" = some m.cls := findClass_of_methodNamed B0.named
  have hlocks := B0.notSynchronized
  subst hsz
  have hD := hD0.self (sz := s.heap.size)
  generalize hAe : va_A [(h0, .inr (9, [.ref t0, .int 0, .int t2, .int t3, .int t4]))] s.heap.size = A at hD ⊢
  have hA : ∀ q : Nat, s.heap.size ≤ q → A q := fun q h => by rw [← hAe]; exact Or.inr h
  have hS : va_S A s.heap s.heap [] := va_S.rf
  have hP : va_P D vC ([(h0, .inr (9, [.ref t0, .int 0, .int t2, .int t3, .int t4]))] ++ ([] : va_W)) s.heap := hP
  have hD : va_D A ([(h0, .inr (9, [.ref t0, .int 0, .int t2, .int t3, .int t4]))] ++ ([] : va_W)) := hD
  have hl := lv_entry ([.ref h0, .int 0]) (n := 5) (Nat.le_of_ble_eq_true rfl)
  rw [lg_entry_eq]
  generalize (lg_sl ([.ref h0, .int 0]) ++ List.replicate (5 - (lg_sl ([.ref h0, .int 0])).length) Slot.unset).toArray = ls at hl ⊢
  have hl : lv_has ls 5 [(0, .ref h0), (1, .int 0)] := hl
  refine lv_iconst (v := 0) hx hb d_Tape_behindBlanks_0 (by decide) ?_
  refine lv_istore_n (lv' := [(2, .int 0), (0, .ref h0), (1, .int 0)]) hx hb d_Tape_behindBlanks_1 rfl hl (by decide) rfl (fun ls hl => ?_)
  refine lv_iload_n hx hb d_Tape_behindBlanks_2 rfl (lv_at hl 2 rfl) ?_
  refine lv_istore_n (lv' := [(3, .int 0), (2, .int 0), (0, .ref h0), (1, .int 0)]) hx hb d_Tape_behindBlanks_3 rfl hl (by decide) rfl (fun ls hl => ?_)
  refine lv_iload_n hx hb d_Tape_behindBlanks_4 rfl (lv_at hl 0 rfl) ?_
  refine lv_aload_n hx hb d_Tape_behindBlanks_5 rfl (lv_at hl 2 rfl) ?_
  refine va_get (D := D) (ci := 9) (v := .int 0) (C := "MatrixScripts$Tape") (T := T_Tape) (N := 5) hx hb hT in_Tape hown hK hP 0 rfl rfl 1 (by decide) (hT _ tw_215) (fun _ h9 => h9) rfl d_Tape_behindBlanks_6 ?_
  refine lv_icmp_ge (tgt := 88) hx hb d_Tape_behindBlanks_9 (by decide) (fun c9 => ?_) (fun c9 => absurd (by decide) c9)
  refine lv_iload_n hx hb d_Tape_behindBlanks_88 rfl (lv_at hl 0 rfl) ?_
  have hP9 := pm_subP (a' := [(h0, .inr (9, [.ref t0, .int 0, .int t2, .int t3, .int t4]))]) hP [0] rfl
  have hD9 := pm_subD (a' := [(h0, .inr (9, [.ref t0, .int 0, .int t2, .int t3, .int t4]))]) hD [0] (by decide) rfl
  refine W.widen (k := 0) (n := 0) (Nat.le_of_ble_eq_true rfl) (Nat.le_of_ble_eq_true rfl) ?_
  exact W.iret (v := 0) hx hb hr (fun t ht1 hW => ⟨⟨_, (), rfl, rfl, by rw [ht1]; exact hP9, hD9⟩, hS.F ht1⟩) hS.2.2 d_Tape_behindBlanks_89
def w_Tape_next : List Cond := .code ⟨"MatrixScripts$Tape", "next", "()Z"⟩ prog_13_method_4_code 3 (some .boolean) :: wd_all
theorem gd_Tape_next : GoodIn wd_all w_Tape_next := gd_of tw_773
set_option maxHeartbeats 4000000 in
set_option maxRecDepth 100000 in
theorem c_Tape_next_e (l : Launch) (D : va_G) (g : Nat → ClassId) (h0 : Nat) (t0 : Nat) (t2 : Int32) (t3 : Int32) (an : Nat) (af : Nat → Int32) (sz : Nat) : Met l ⟨"MatrixScripts$Tape", "next", "()Z"⟩ w_Tape_next { frames := 1, cells := 0, slots := 0, locals := 24 } (cp D g [.ref h0] [(h0, .inr (9, [.ref t0, .int 0, .int t2, .int t3, .int 0])), (t0, .inl (g 0, an, .inl af))] sz) (ci D (va_A [(h0, .inr (9, [.ref t0, .int 0, .int t2, .int t3, .int 0])), (t0, .inl (g 0, an, .inl af))] sz) (fun r _ => r = 1) (fun u : Unit => [(h0, .inr (9, [.ref t0, .int 0, .int 0, .int 0, .int 0])), (t0, .inl (g 0, an, .inl af))])) 0 0 (va_A [(h0, .inr (9, [.ref t0, .int 0, .int t2, .int t3, .int 0])), (t0, .inl (g 0, an, .inl af))] sz) := by
  refine Met.ofW (cc := prog_13_method_4_code) (maxL := 3) (ret := (some .boolean)) (by decide) rfl ?_
  intro p e s m args below meth c s₁ B0 hml hv
  obtain ⟨rfl, hsz, hP, hK, hD0, hN⟩ := hv
  have hx := B0.exec
  have hb := B0.bytes
  have hr := B0.returns
  have hts := atoms_spec (ws := w_Tape_next) B0.pre
  have hT := fun (w : Cond) (h : w ∈ wd_all) => hts w (List.mem_cons_of_mem _ h)
  have hown : s.vm.findClass "MatrixScripts$Tape" = some m.cls := findClass_of_methodNamed B0.named
  have hlocks := B0.notSynchronized
  subst hsz
  have hD := hD0.self (sz := s.heap.size)
  generalize hAe : va_A [(h0, .inr (9, [.ref t0, .int 0, .int t2, .int t3, .int 0])), (t0, .inl (g 0, an, .inl af))] s.heap.size = A at hD ⊢
  have hA : ∀ q : Nat, s.heap.size ≤ q → A q := fun q h => by rw [← hAe]; exact Or.inr h
  have hS : va_S A s.heap s.heap [] := va_S.rf
  have hP : va_P D vC ([(h0, .inr (9, [.ref t0, .int 0, .int t2, .int t3, .int 0])), (t0, .inl (g 0, an, .inl af))] ++ ([] : va_W)) s.heap := hP
  have hD : va_D A ([(h0, .inr (9, [.ref t0, .int 0, .int t2, .int t3, .int 0])), (t0, .inl (g 0, an, .inl af))] ++ ([] : va_W)) := hD
  have hl := lv_entry ([.ref h0]) (n := 3) (Nat.le_of_ble_eq_true rfl)
  rw [lg_entry_eq]
  generalize (lg_sl ([.ref h0]) ++ List.replicate (3 - (lg_sl ([.ref h0])).length) Slot.unset).toArray = ls at hl ⊢
  have hl : lv_has ls 3 [(0, .ref h0)] := hl
  refine lv_aload_n hx hb d_Tape_next_0 rfl (lv_at hl 0 rfl) ?_
  refine lv_aload_n hx hb d_Tape_next_1 rfl (lv_at hl 0 rfl) ?_
  refine lv_aload_n hx hb d_Tape_next_2 rfl (lv_at hl 0 rfl) ?_
  refine va_get (D := D) (ci := 9) (v := .int 0) (C := "MatrixScripts$Tape") (T := T_Tape) (N := 5) hx hb hT in_Tape hown hK hP 0 rfl rfl 4 (by decide) (hT _ tw_221) (fun _ h9 => h9) rfl d_Tape_next_3 ?_
  have hP : va_P D vC ([(h0, .inr (9, [.ref t0, .int 0, .int t2, .int t3, .int 0]))] ++ ([(t0, .inl (g 0, an, .inl af))] ++ ([] : va_W))) s.heap := hP
  have hD : va_D A ([(h0, .inr (9, [.ref t0, .int 0, .int t2, .int t3, .int 0]))] ++ ([(t0, .inl (g 0, an, .inl af))] ++ ([] : va_W))) := hD
  have hFc := pm_free hD hS hA
  refine va_calli (va_runV (As := [.int 0]) (rest := [.ref h0]) ⟨hx, hb, hml, hown, hT⟩ (c_Tape_behindBlanks_e l D g h0 t0 t2 t3 0 s.heap.size) (cwV 1 hT (gdV tw_774 tw_776 tw_1 tw_156 tw_777) rfl rfl rfl (by decide +kernel) ⟨Nat.le_of_ble_eq_true rfl, Nat.le_of_ble_eq_true rfl⟩) (cp_V (C := "MatrixScripts$Tape") (T := T_Tape) (N := 5) (ci := 9) hP hK hD hN rfl) rfl rfl hl.1 rfl (lv_room (Nat.le_of_ble_eq_true rfl)) d_Tape_next_6 ⟨Nat.le_of_ble_eq_true rfl, Nat.le_of_ble_eq_true rfl⟩) hS (fun q _ h => hFc q h) hFc (fun r6 u6 t H1 locs ht1 hvm hw hB hz1 hk1 hS => ?_)
  obtain ⟨hP1, hD1⟩ := hB
  rw [ht1] at hP1
  obtain ⟨hP, hD⟩ := pm_join hP hD hk1 hFc hP1 hD1
  generalize H1 = H at hP hS ⊢
  have hw6 := hw
  have hP : va_P D vC ([(h0, .inr (9, [.ref t0, .int 0, .int t2, .int t3, .int 0])), (t0, .inl (g 0, an, .inl af))] ++ ([] : va_W)) H := hP
  have hD : va_D A ([(h0, .inr (9, [.ref t0, .int 0, .int t2, .int t3, .int 0])), (t0, .inl (g 0, an, .inl af))] ++ ([] : va_W)) := hD
  obtain rfl : r6 = 0 := hw
  refine va_put (D := D) (ci := 9) (v := .int 0) (ty := .int) (C := "MatrixScripts$Tape") (T := T_Tape) (N := 5) hx hb hT in_Tape ty_Tape ty_Tape_ok nm_Tape hown hK hP hD hS 0 rfl rfl 3 (by decide) (hT _ tw_218) (fun _ h9 => h9) rfl (by decide +kernel) rfl rfl (Nat.le_of_ble_eq_true rfl) d_Tape_next_9 (fun H locs hP hD hS => ?_)
  have hP : va_P D vC ([(h0, .inr (9, [.ref t0, .int 0, .int t2, .int 0, .int 0])), (t0, .inl (g 0, an, .inl af))] ++ ([] : va_W)) H := hP
  have hD : va_D A ([(h0, .inr (9, [.ref t0, .int 0, .int t2, .int 0, .int 0])), (t0, .inl (g 0, an, .inl af))] ++ ([] : va_W)) := hD
  refine lv_aload_n hx hb d_Tape_next_12 rfl (lv_at hl 0 rfl) ?_
  refine lv_aload_n hx hb d_Tape_next_13 rfl (lv_at hl 0 rfl) ?_
  refine va_get (D := D) (ci := 9) (v := .int 0) (C := "MatrixScripts$Tape") (T := T_Tape) (N := 5) hx hb hT in_Tape hown hK hP 0 rfl rfl 3 (by decide) (hT _ tw_218) (fun _ h9 => h9) rfl d_Tape_next_14 ?_
  refine va_put (D := D) (ci := 9) (v := .int 0) (ty := .int) (C := "MatrixScripts$Tape") (T := T_Tape) (N := 5) hx hb hT in_Tape ty_Tape ty_Tape_ok nm_Tape hown hK hP hD hS 0 rfl rfl 4 (by decide) (hT _ tw_221) (fun _ h9 => h9) rfl (by decide +kernel) rfl rfl (Nat.le_of_ble_eq_true rfl) d_Tape_next_17 (fun H locs hP hD hS => ?_)
  have hP : va_P D vC ([(h0, .inr (9, [.ref t0, .int 0, .int t2, .int 0, .int 0])), (t0, .inl (g 0, an, .inl af))] ++ ([] : va_W)) H := hP
  have hD : va_D A ([(h0, .inr (9, [.ref t0, .int 0, .int t2, .int 0, .int 0])), (t0, .inl (g 0, an, .inl af))] ++ ([] : va_W)) := hD
  refine lv_aload_n hx hb d_Tape_next_20 rfl (lv_at hl 0 rfl) ?_
  refine lv_aload_n hx hb d_Tape_next_21 rfl (lv_at hl 0 rfl) ?_
  refine va_get (D := D) (ci := 9) (v := .int 0) (C := "MatrixScripts$Tape") (T := T_Tape) (N := 5) hx hb hT in_Tape hown hK hP 0 rfl rfl 3 (by decide) (hT _ tw_218) (fun _ h9 => h9) rfl d_Tape_next_22 ?_
  have hP : va_P D vC ([(h0, .inr (9, [.ref t0, .int 0, .int t2, .int 0, .int 0])), (t0, .inl (g 0, an, .inl af))] ++ ([] ++ ([] : va_W))) H := hP
  have hD : va_D A ([(h0, .inr (9, [.ref t0, .int 0, .int t2, .int 0, .int 0])), (t0, .inl (g 0, an, .inl af))] ++ ([] ++ ([] : va_W))) := hD
  have hFc := pm_free hD hS hA
  refine va_calli (va_runV (As := [.int 0]) (rest := []) ⟨hx, hb, hml, hown, hT⟩ (c_Tape_byteAt l D g h0 t0 0 t2 0 0 an af 0 (fun h => absurd (by decide) h) H.size) (cwV 1 hT (gdV tw_778 tw_779 tw_780 tw_156 tw_781) rfl rfl rfl (by decide +kernel) ⟨Nat.le_of_ble_eq_true rfl, Nat.le_of_ble_eq_true rfl⟩) (cp_V (C := "MatrixScripts$Tape") (T := T_Tape) (N := 5) (ci := 9) hP hK hD hN rfl) rfl rfl hl.1 rfl (lv_room (Nat.le_of_ble_eq_true rfl)) d_Tape_next_25 ⟨Nat.le_of_ble_eq_true rfl, Nat.le_of_ble_eq_true rfl⟩) hS (fun q _ h => hFc q h) hFc (fun r25 u25 t H1 locs ht1 hvm hw hB hz1 hk1 hS => ?_)
  obtain ⟨hP1, hD1⟩ := hB
  rw [ht1] at hP1
  obtain ⟨hP, hD⟩ := pm_join hP hD hk1 hFc hP1 hD1
  generalize H1 = H at hP hS ⊢
  have hw25 := hw
  have hP : va_P D vC ([(h0, .inr (9, [.ref t0, .int 0, .int t2, .int 0, .int 0])), (t0, .inl (g 0, an, .inl af))] ++ ([] : va_W)) H := hP
  have hD : va_D A ([(h0, .inr (9, [.ref t0, .int 0, .int t2, .int 0, .int 0])), (t0, .inl (g 0, an, .inl af))] ++ ([] : va_W)) := hD
  obtain rfl : r25 = (-1) := hw.trans (if_pos (by decide))
  refine lv_istore_n (lv' := [(1, .int (-1)), (0, .ref h0)]) hx hb d_Tape_next_28 rfl hl (by decide) rfl (fun ls hl => ?_)
  refine lv_iload_n hx hb d_Tape_next_29 rfl (lv_at hl 0 rfl) ?_
  refine lv_iconst (v := -1) hx hb d_Tape_next_30 (by decide) ?_
  refine lv_icmp_ne (tgt := 41) hx hb d_Tape_next_31 (by decide) (fun c31 => absurd (by decide) c31) (fun c31 => ?_)
  refine lv_aload_n hx hb d_Tape_next_34 rfl (lv_at hl 1 rfl) ?_
  refine lv_iconst (v := 0) hx hb d_Tape_next_35 (by decide) ?_
  refine va_put (D := D) (ci := 9) (v := .int 0) (ty := .int) (C := "MatrixScripts$Tape") (T := T_Tape) (N := 5) hx hb hT in_Tape ty_Tape ty_Tape_ok nm_Tape hown hK hP hD hS 0 rfl rfl 2 (by decide) (hT _ tw_217) (fun _ h9 => h9) rfl (by decide +kernel) rfl rfl (Nat.le_of_ble_eq_true rfl) d_Tape_next_36 (fun H locs hP hD hS => ?_)
  have hP : va_P D vC ([(h0, .inr (9, [.ref t0, .int 0, .int 0, .int 0, .int 0])), (t0, .inl (g 0, an, .inl af))] ++ ([] : va_W)) H := hP
  have hD : va_D A ([(h0, .inr (9, [.ref t0, .int 0, .int 0, .int 0, .int 0])), (t0, .inl (g 0, an, .inl af))] ++ ([] : va_W)) := hD
  refine lv_iconst (v := 1) hx hb d_Tape_next_39 (by decide) ?_
  have hP9 := pm_subP (a' := [(h0, .inr (9, [.ref t0, .int 0, .int 0, .int 0, .int 0])), (t0, .inl (g 0, an, .inl af))]) hP [0, 1] rfl
  have hD9 := pm_subD (a' := [(h0, .inr (9, [.ref t0, .int 0, .int 0, .int 0, .int 0])), (t0, .inl (g 0, an, .inl af))]) hD [0, 1] (by decide) rfl
  refine W.widen (k := 0) (n := 0) (Nat.le_of_ble_eq_true rfl) (Nat.le_of_ble_eq_true rfl) ?_
  exact W.zret (v := 1) hx hb hr rfl (fun t ht1 hW => ⟨⟨_, (), rfl, rfl, by rw [ht1]; exact hP9, hD9⟩, hS.F ht1⟩) hS.2.2 d_Tape_next_40
def w_Script_advance : List Cond := .code ⟨"MatrixScripts$Script", "advance", "()V"⟩ prog_12_method_13_code 1 none :: wd_all
theorem gd_Script_advance : GoodIn wd_all w_Script_advance := gd_of tw_769
set_option maxHeartbeats 4000000 in
set_option maxRecDepth 100000 in
theorem c_Script_advance_e (l : Launch) (D : va_G) (g : Nat → ClassId) (h0 : Nat) (s0 : Nat) (s1 : Nat) (s2 : Nat) (s3 : Int32) (s4 : Int32) (s5 : Int32) (s6 : Int32) (s7 : Int32) (s8 : Nat) (s9 : Nat) (s10 : Nat) (s11 : Nat) (s12 : Nat) (s13 : Int32) (s14 : Int32) (s15 : Nat) (s16 : Int32) (t0 : Nat) (t2 : Int32) (t3 : Int32) (an : Nat) (af : Nat → Int32) (sz : Nat) : Met l ⟨"MatrixScripts$Script", "advance", "()V"⟩ w_Script_advance { frames := 2, cells := 0, slots := 0, locals := 46 } (cp D g [.ref h0] [(h0, .inr (8, [.ref s0, .ref s1, .ref s2, .int s3, .int s4, .int s5, .int s6, .int s7, .ref s8, .ref s9, .ref s10, .ref s11, .ref s12, .int s13, .int s14, .ref s15, .int s16])), (s0, .inr (9, [.ref t0, .int 0, .int t2, .int t3, .int 0])), (t0, .inl (g 0, an, .inl af))] sz) (cw D (va_A [(h0, .inr (8, [.ref s0, .ref s1, .ref s2, .int s3, .int s4, .int s5, .int s6, .int s7, .ref s8, .ref s9, .ref s10, .ref s11, .ref s12, .int s13, .int s14, .ref s15, .int s16])), (s0, .inr (9, [.ref t0, .int 0, .int t2, .int t3, .int 0])), (t0, .inl (g 0, an, .inl af))] sz) (fun _ => True) (fun u : Unit => [(h0, .inr (8, [.ref s0, .ref s1, .ref s2, .int s3, .int s4, .int s5, .int s6, .int s7, .ref s8, .ref s9, .ref s10, .ref s11, .ref s12, .int s13, .int s14, .ref s15, .int s16])), (s0, .inr (9, [.ref t0, .int 0, .int 0, .int 0, .int 0])), (t0, .inl (g 0, an, .inl af))])) 0 0 (va_A [(h0, .inr (8, [.ref s0, .ref s1, .ref s2, .int s3, .int s4, .int s5, .int s6, .int s7, .ref s8, .ref s9, .ref s10, .ref s11, .ref s12, .int s13, .int s14, .ref s15, .int s16])), (s0, .inr (9, [.ref t0, .int 0, .int t2, .int t3, .int 0])), (t0, .inl (g 0, an, .inl af))] sz) := by
  refine Met.ofW (cc := prog_12_method_13_code) (maxL := 1) (ret := none) (by decide) rfl ?_
  intro p e s m args below meth c s₁ B0 hml hv
  obtain ⟨rfl, hsz, hP, hK, hD0, hN⟩ := hv
  have hx := B0.exec
  have hb := B0.bytes
  have hr := B0.returns
  have hts := atoms_spec (ws := w_Script_advance) B0.pre
  have hT := fun (w : Cond) (h : w ∈ wd_all) => hts w (List.mem_cons_of_mem _ h)
  have hown : s.vm.findClass "MatrixScripts$Script" = some m.cls := findClass_of_methodNamed B0.named
  have hlocks := B0.notSynchronized
  subst hsz
  have hD := hD0.self (sz := s.heap.size)
  generalize hAe : va_A [(h0, .inr (8, [.ref s0, .ref s1, .ref s2, .int s3, .int s4, .int s5, .int s6, .int s7, .ref s8, .ref s9, .ref s10, .ref s11, .ref s12, .int s13, .int s14, .ref s15, .int s16])), (s0, .inr (9, [.ref t0, .int 0, .int t2, .int t3, .int 0])), (t0, .inl (g 0, an, .inl af))] s.heap.size = A at hD ⊢
  have hA : ∀ q : Nat, s.heap.size ≤ q → A q := fun q h => by rw [← hAe]; exact Or.inr h
  have hS : va_S A s.heap s.heap [] := va_S.rf
  have hP : va_P D vC ([(h0, .inr (8, [.ref s0, .ref s1, .ref s2, .int s3, .int s4, .int s5, .int s6, .int s7, .ref s8, .ref s9, .ref s10, .ref s11, .ref s12, .int s13, .int s14, .ref s15, .int s16])), (s0, .inr (9, [.ref t0, .int 0, .int t2, .int t3, .int 0])), (t0, .inl (g 0, an, .inl af))] ++ ([] : va_W)) s.heap := hP
  have hD : va_D A ([(h0, .inr (8, [.ref s0, .ref s1, .ref s2, .int s3, .int s4, .int s5, .int s6, .int s7, .ref s8, .ref s9, .ref s10, .ref s11, .ref s12, .int s13, .int s14, .ref s15, .int s16])), (s0, .inr (9, [.ref t0, .int 0, .int t2, .int t3, .int 0])), (t0, .inl (g 0, an, .inl af))] ++ ([] : va_W)) := hD
  have hl := lv_entry ([.ref h0]) (n := 1) (Nat.le_of_ble_eq_true rfl)
  rw [lg_entry_eq]
  generalize (lg_sl ([.ref h0]) ++ List.replicate (1 - (lg_sl ([.ref h0])).length) Slot.unset).toArray = ls at hl ⊢
  have hl : lv_has ls 1 [(0, .ref h0)] := hl
  refine lv_aload_n hx hb d_Script_advance_0 rfl (lv_at hl 0 rfl) ?_
  refine va_get (D := D) (ci := 8) (v := .ref s0) (C := "MatrixScripts$Script") (T := T_Script) (N := 17) hx hb hT in_Script hown hK hP 0 rfl rfl 0 (by decide) (hT _ tw_678) (fun _ h9 => h9) rfl d_Script_advance_1 ?_
  have hP := pm_subP (a' := [(s0, .inr (9, [.ref t0, .int 0, .int t2, .int t3, .int 0])), (t0, .inl (g 0, an, .inl af)), (h0, .inr (8, [.ref s0, .ref s1, .ref s2, .int s3, .int s4, .int s5, .int s6, .int s7, .ref s8, .ref s9, .ref s10, .ref s11, .ref s12, .int s13, .int s14, .ref s15, .int s16]))]) hP [1, 2, 0] rfl
  have hD := pm_subD (a' := [(s0, .inr (9, [.ref t0, .int 0, .int t2, .int t3, .int 0])), (t0, .inl (g 0, an, .inl af)), (h0, .inr (8, [.ref s0, .ref s1, .ref s2, .int s3, .int s4, .int s5, .int s6, .int s7, .ref s8, .ref s9, .ref s10, .ref s11, .ref s12, .int s13, .int s14, .ref s15, .int s16]))]) hD [1, 2, 0] (by decide) rfl
  have hP : va_P D vC ([(s0, .inr (9, [.ref t0, .int 0, .int t2, .int t3, .int 0])), (t0, .inl (g 0, an, .inl af))] ++ ([(h0, .inr (8, [.ref s0, .ref s1, .ref s2, .int s3, .int s4, .int s5, .int s6, .int s7, .ref s8, .ref s9, .ref s10, .ref s11, .ref s12, .int s13, .int s14, .ref s15, .int s16]))] ++ ([] : va_W))) s.heap := hP
  have hD : va_D A ([(s0, .inr (9, [.ref t0, .int 0, .int t2, .int t3, .int 0])), (t0, .inl (g 0, an, .inl af))] ++ ([(h0, .inr (8, [.ref s0, .ref s1, .ref s2, .int s3, .int s4, .int s5, .int s6, .int s7, .ref s8, .ref s9, .ref s10, .ref s11, .ref s12, .int s13, .int s14, .ref s15, .int s16]))] ++ ([] : va_W))) := hD
  have hFc := pm_free hD hS hA
  refine va_calli (va_runV (As := []) (rest := []) ⟨hx, hb, hml, hown, hT⟩ (c_Tape_next_e l D g s0 t0 t2 t3 an af s.heap.size) (cwV 0 hT (gdV tw_770 tw_771 tw_772 tw_156 tw_773) rfl rfl rfl (by decide +kernel) ⟨Nat.le_of_ble_eq_true rfl, Nat.le_of_ble_eq_true rfl⟩) (cp_V (C := "MatrixScripts$Tape") (T := T_Tape) (N := 5) (ci := 9) hP hK hD hN rfl) rfl rfl hl.1 rfl (lv_room (Nat.le_of_ble_eq_true rfl)) d_Script_advance_4 ⟨Nat.le_of_ble_eq_true rfl, Nat.le_of_ble_eq_true rfl⟩) hS (fun q _ h => hFc q h) hFc (fun r4 u4 t H1 locs ht1 hvm hw hB hz1 hk1 hS => ?_)
  obtain ⟨hP1, hD1⟩ := hB
  rw [ht1] at hP1
  obtain ⟨hP, hD⟩ := pm_join hP hD hk1 hFc hP1 hD1
  generalize H1 = H at hP hS ⊢
  have hw4 := hw
  have hP : va_P D vC ([(s0, .inr (9, [.ref t0, .int 0, .int 0, .int 0, .int 0])), (t0, .inl (g 0, an, .inl af)), (h0, .inr (8, [.ref s0, .ref s1, .ref s2, .int s3, .int s4, .int s5, .int s6, .int s7, .ref s8, .ref s9, .ref s10, .ref s11, .ref s12, .int s13, .int s14, .ref s15, .int s16]))] ++ ([] : va_W)) H := hP
  have hD : va_D A ([(s0, .inr (9, [.ref t0, .int 0, .int 0, .int 0, .int 0])), (t0, .inl (g 0, an, .inl af)), (h0, .inr (8, [.ref s0, .ref s1, .ref s2, .int s3, .int s4, .int s5, .int s6, .int s7, .ref s8, .ref s9, .ref s10, .ref s11, .ref s12, .int s13, .int s14, .ref s15, .int s16]))] ++ ([] : va_W)) := hD
  obtain rfl : r4 = 1 := hw
  refine lv_if_ne (tgt := 22) hx hb d_Script_advance_7 (by decide) (fun c7 => ?_) (fun c7 => absurd c7 (by decide))
  have hP9 := pm_subP (a' := [(h0, .inr (8, [.ref s0, .ref s1, .ref s2, .int s3, .int s4, .int s5, .int s6, .int s7, .ref s8, .ref s9, .ref s10, .ref s11, .ref s12, .int s13, .int s14, .ref s15, .int s16])), (s0, .inr (9, [.ref t0, .int 0, .int 0, .int 0, .int 0])), (t0, .inl (g 0, an, .inl af))]) hP [2, 0, 1] rfl
  have hD9 := pm_subD (a' := [(h0, .inr (8, [.ref s0, .ref s1, .ref s2, .int s3, .int s4, .int s5, .int s6, .int s7, .ref s8, .ref s9, .ref s10, .ref s11, .ref s12, .int s13, .int s14, .ref s15, .int s16])), (s0, .inr (9, [.ref t0, .int 0, .int 0, .int 0, .int 0])), (t0, .inl (g 0, an, .inl af))]) hD [2, 0, 1] (by decide) rfl
  refine W.widen (k := 0) (n := 0) (Nat.le_of_ble_eq_true rfl) (Nat.le_of_ble_eq_true rfl) ?_
  exact W.vret hx hb hr (fun t ht1 hW => ⟨⟨(), rfl, trivial, by rw [ht1]; exact hP9, hD9⟩, hS.F ht1⟩) hS.2.2 d_Script_advance_22
def w_Script_read : List Cond := .code ⟨"MatrixScripts$Script", "read", "()V"⟩ prog_12_method_4_code 4 none :: wd_all
theorem gd_Script_read : GoodIn wd_all w_Script_read := gd_of tw_765
set_option maxHeartbeats 4000000 in
set_option maxRecDepth 100000 in
theorem c_Script_read_e (l : Launch) (D : va_G) (g : Nat → ClassId) (h0 : Nat) (s0 : Nat) (s1 : Nat) (s2 : Nat) (s3 : Int32) (s4 : Int32) (s5 : Int32) (s6 : Int32) (s7 : Int32) (s8 : Nat) (s9 : Nat) (s10 : Nat) (s11 : Nat) (s12 : Nat) (s13 : Int32) (s14 : Int32) (s15 : Nat) (s16 : Int32) (t0 : Nat) (t2 : Int32) (t3 : Int32) (an : Nat) (af : Nat → Int32) (sz : Nat) : Met l ⟨"MatrixScripts$Script", "read", "()V"⟩ w_Script_read { frames := 3, cells := 0, slots := 0, locals := 66 } (cp D g [.ref h0] [(h0, .inr (8, [.ref s0, .ref s1, .ref s2, .int s3, .int s4, .int s5, .int s6, .int s7, .ref s8, .ref s9, .ref s10, .ref s11, .ref s12, .int s13, .int s14, .ref s15, .int s16])), (s0, .inr (9, [.ref t0, .int 0, .int t2, .int t3, .int 0])), (t0, .inl (g 0, an, .inl af))] sz) (cw D (va_A [(h0, .inr (8, [.ref s0, .ref s1, .ref s2, .int s3, .int s4, .int s5, .int s6, .int s7, .ref s8, .ref s9, .ref s10, .ref s11, .ref s12, .int s13, .int s14, .ref s15, .int s16])), (s0, .inr (9, [.ref t0, .int 0, .int t2, .int t3, .int 0])), (t0, .inl (g 0, an, .inl af))] sz) (fun _ => True) (fun u : Unit => [(h0, .inr (8, [.ref s0, .ref s1, .ref s2, .int s3, .int s4, .int s5, .int s6, .int s7, .ref s8, .ref s9, .ref s10, .ref s11, .ref s12, .int s13, .int s14, .ref s15, .int s16])), (s0, .inr (9, [.ref t0, .int 0, .int 0, .int 0, .int 0])), (t0, .inl (g 0, an, .inl af))])) 0 0 (va_A [(h0, .inr (8, [.ref s0, .ref s1, .ref s2, .int s3, .int s4, .int s5, .int s6, .int s7, .ref s8, .ref s9, .ref s10, .ref s11, .ref s12, .int s13, .int s14, .ref s15, .int s16])), (s0, .inr (9, [.ref t0, .int 0, .int t2, .int t3, .int 0])), (t0, .inl (g 0, an, .inl af))] sz) := by
  refine Met.ofW (cc := prog_12_method_4_code) (maxL := 4) (ret := none) (by decide) rfl ?_
  intro p e s m args below meth c s₁ B0 hml hv
  obtain ⟨rfl, hsz, hP, hK, hD0, hN⟩ := hv
  have hx := B0.exec
  have hb := B0.bytes
  have hr := B0.returns
  have hts := atoms_spec (ws := w_Script_read) B0.pre
  have hT := fun (w : Cond) (h : w ∈ wd_all) => hts w (List.mem_cons_of_mem _ h)
  have hown : s.vm.findClass "MatrixScripts$Script" = some m.cls := findClass_of_methodNamed B0.named
  have hlocks := B0.notSynchronized
  subst hsz
  have hD := hD0.self (sz := s.heap.size)
  generalize hAe : va_A [(h0, .inr (8, [.ref s0, .ref s1, .ref s2, .int s3, .int s4, .int s5, .int s6, .int s7, .ref s8, .ref s9, .ref s10, .ref s11, .ref s12, .int s13, .int s14, .ref s15, .int s16])), (s0, .inr (9, [.ref t0, .int 0, .int t2, .int t3, .int 0])), (t0, .inl (g 0, an, .inl af))] s.heap.size = A at hD ⊢
  have hA : ∀ q : Nat, s.heap.size ≤ q → A q := fun q h => by rw [← hAe]; exact Or.inr h
  have hS : va_S A s.heap s.heap [] := va_S.rf
  have hP : va_P D vC ([(h0, .inr (8, [.ref s0, .ref s1, .ref s2, .int s3, .int s4, .int s5, .int s6, .int s7, .ref s8, .ref s9, .ref s10, .ref s11, .ref s12, .int s13, .int s14, .ref s15, .int s16])), (s0, .inr (9, [.ref t0, .int 0, .int t2, .int t3, .int 0])), (t0, .inl (g 0, an, .inl af))] ++ ([] : va_W)) s.heap := hP
  have hD : va_D A ([(h0, .inr (8, [.ref s0, .ref s1, .ref s2, .int s3, .int s4, .int s5, .int s6, .int s7, .ref s8, .ref s9, .ref s10, .ref s11, .ref s12, .int s13, .int s14, .ref s15, .int s16])), (s0, .inr (9, [.ref t0, .int 0, .int t2, .int t3, .int 0])), (t0, .inl (g 0, an, .inl af))] ++ ([] : va_W)) := hD
  have hl := lv_entry ([.ref h0]) (n := 4) (Nat.le_of_ble_eq_true rfl)
  rw [lg_entry_eq]
  generalize (lg_sl ([.ref h0]) ++ List.replicate (4 - (lg_sl ([.ref h0])).length) Slot.unset).toArray = ls at hl ⊢
  have hl : lv_has ls 4 [(0, .ref h0)] := hl
  refine lv_aload_n hx hb d_Script_read_0 rfl (lv_at hl 0 rfl) ?_
  have hP : va_P D vC ([(h0, .inr (8, [.ref s0, .ref s1, .ref s2, .int s3, .int s4, .int s5, .int s6, .int s7, .ref s8, .ref s9, .ref s10, .ref s11, .ref s12, .int s13, .int s14, .ref s15, .int s16])), (s0, .inr (9, [.ref t0, .int 0, .int t2, .int t3, .int 0])), (t0, .inl (g 0, an, .inl af))] ++ ([] ++ ([] : va_W))) s.heap := hP
  have hD : va_D A ([(h0, .inr (8, [.ref s0, .ref s1, .ref s2, .int s3, .int s4, .int s5, .int s6, .int s7, .ref s8, .ref s9, .ref s10, .ref s11, .ref s12, .int s13, .int s14, .ref s15, .int s16])), (s0, .inr (9, [.ref t0, .int 0, .int t2, .int t3, .int 0])), (t0, .inl (g 0, an, .inl af))] ++ ([] ++ ([] : va_W))) := hD
  have hFc := pm_free hD hS hA
  refine va_callv (va_runV (As := []) (rest := []) ⟨hx, hb, hml, hown, hT⟩ (c_Script_advance_e l D g h0 s0 s1 s2 s3 s4 s5 s6 s7 s8 s9 s10 s11 s12 s13 s14 s15 s16 t0 t2 t3 an af s.heap.size) (cwV 0 hT (gdV tw_766 tw_768 tw_0 tw_155 tw_769) rfl rfl rfl (by decide +kernel) ⟨Nat.le_of_ble_eq_true rfl, Nat.le_of_ble_eq_true rfl⟩) (cp_V (C := "MatrixScripts$Script") (T := T_Script) (N := 17) (ci := 8) hP hK hD hN rfl) rfl rfl hl.1 rfl (lv_room (Nat.le_of_ble_eq_true rfl)) d_Script_read_1 ⟨Nat.le_of_ble_eq_true rfl, Nat.le_of_ble_eq_true rfl⟩) hS (fun q _ h => hFc q h) hFc (fun u1 t H1 locs ht1 hvm hw hB hz1 hk1 hS => ?_)
  obtain ⟨hP1, hD1⟩ := hB
  rw [ht1] at hP1
  obtain ⟨hP, hD⟩ := pm_join hP hD hk1 hFc hP1 hD1
  generalize H1 = H at hP hS ⊢
  have hw1 := hw
  have hP : va_P D vC ([(h0, .inr (8, [.ref s0, .ref s1, .ref s2, .int s3, .int s4, .int s5, .int s6, .int s7, .ref s8, .ref s9, .ref s10, .ref s11, .ref s12, .int s13, .int s14, .ref s15, .int s16])), (s0, .inr (9, [.ref t0, .int 0, .int 0, .int 0, .int 0])), (t0, .inl (g 0, an, .inl af))] ++ ([] : va_W)) H := hP
  have hD : va_D A ([(h0, .inr (8, [.ref s0, .ref s1, .ref s2, .int s3, .int s4, .int s5, .int s6, .int s7, .ref s8, .ref s9, .ref s10, .ref s11, .ref s12, .int s13, .int s14, .ref s15, .int s16])), (s0, .inr (9, [.ref t0, .int 0, .int 0, .int 0, .int 0])), (t0, .inl (g 0, an, .inl af))] ++ ([] : va_W)) := hD
  refine lv_iconst (v := 0) hx hb d_Script_read_4 (by decide) ?_
  refine lv_istore_n (lv' := [(1, .int 0), (0, .ref h0)]) hx hb d_Script_read_5 rfl hl (by decide) rfl (fun ls hl => ?_)
  refine lv_iload_n hx hb d_Script_read_6 rfl (lv_at hl 0 rfl) ?_
  refine lv_ldc (v := 65536) hx hb hown (hT _ tw_976) d_Script_read_7 ?_
  refine lv_icmp_gt (tgt := 141) hx hb d_Script_read_9 (by decide) (fun c9 => absurd c9 (by decide)) (fun c9 => ?_)
  refine lv_aload_n hx hb d_Script_read_12 rfl (lv_at hl 1 rfl) ?_
  refine va_get (D := D) (ci := 8) (v := .ref s0) (C := "MatrixScripts$Script") (T := T_Script) (N := 17) hx hb hT in_Script hown hK hP 0 rfl rfl 0 (by decide) (hT _ tw_678) (fun _ h9 => h9) rfl d_Script_read_13 ?_
  refine va_get (D := D) (ci := 9) (v := .int 0) (C := "MatrixScripts$Tape") (T := T_Tape) (N := 5) hx hb hT in_Tape hown hK hP 1 rfl rfl 2 (by decide) (hT _ tw_216) (fun _ h9 => h9) rfl d_Script_read_16 ?_
  refine lv_if_eq (tgt := 141) hx hb d_Script_read_19 (by decide) (fun c19 => ?_) (fun c19 => absurd (by decide) c19)
  have hP9 := pm_subP (a' := [(h0, .inr (8, [.ref s0, .ref s1, .ref s2, .int s3, .int s4, .int s5, .int s6, .int s7, .ref s8, .ref s9, .ref s10, .ref s11, .ref s12, .int s13, .int s14, .ref s15, .int s16])), (s0, .inr (9, [.ref t0, .int 0, .int 0, .int 0, .int 0])), (t0, .inl (g 0, an, .inl af))]) hP [0, 1, 2] rfl
  have hD9 := pm_subD (a' := [(h0, .inr (8, [.ref s0, .ref s1, .ref s2, .int s3, .int s4, .int s5, .int s6, .int s7, .ref s8, .ref s9, .ref s10, .ref s11, .ref s12, .int s13, .int s14, .ref s15, .int s16])), (s0, .inr (9, [.ref t0, .int 0, .int 0, .int 0, .int 0])), (t0, .inl (g 0, an, .inl af))]) hD [0, 1, 2] (by decide) rfl
  refine W.widen (k := 0) (n := 0) (Nat.le_of_ble_eq_true rfl) (Nat.le_of_ble_eq_true rfl) ?_
  exact W.vret hx hb hr (fun t ht1 hW => ⟨⟨(), rfl, trivial, by rw [ht1]; exact hP9, hD9⟩, hS.F ht1⟩) hS.2.2 d_Script_read_141
def w_Ms_run : List Cond := .codeWith ⟨"MatrixScripts", "run", "()I"⟩ prog_1_method_4_code 2 (some .int) [((7 : Nat), (14 : Nat), (17 : Nat), (33 : Nat))] :: wd_all
theorem gd_Ms_run : GoodIn wd_all w_Ms_run := gd_of tw_752
set_option maxHeartbeats 4000000 in
set_option maxRecDepth 100000 in
theorem c_Ms_run_e (l : Launch) (D : va_G) (g : Nat → ClassId) (h0 : Nat) (m0 : Nat) (m1 : Nat) (m2 : Nat) (s1 : Nat) (s2 : Nat) (s3 : Int32) (s4 : Int32) (s5 : Int32) (s6 : Int32) (s7 : Int32) (s8 : Nat) (s9 : Nat) (s10 : Nat) (s11 : Nat) (s12 : Nat) (s13 : Int32) (s14 : Int32) (s15 : Nat) (s16 : Int32) (k0 : Int32) (k1 : Nat) (k2 : Nat) (k3 : Nat) (k4 : Nat) (k5 : Nat) (k6 : Nat) (k7 : Nat) (k8 : Nat) (k9 : Nat) (k10 : Nat) (k11 : Nat) (v0 : Int32) (v1 : Int32) (v2 : Int32) (v3 : Nat) (v4 : Nat) (v5 : Int32) (t0 : Nat) (t2 : Int32) (t3 : Int32) (t4 : Int32) (an : Nat) (af : Nat → Int32) (sz : Nat) : Met l ⟨"MatrixScripts", "run", "()I"⟩ w_Ms_run { frames := 4, cells := 0, slots := 0, locals := 89 } (cp D g [.ref h0] [(h0, .inr (12, [.ref m0, .ref m1, .ref m2])), (m0, .inr (8, [.ref m1, .ref s1, .ref s2, .int s3, .int s4, .int s5, .int s6, .int s7, .ref s8, .ref s9, .ref s10, .ref s11, .ref s12, .int s13, .int s14, .ref s15, .int s16])), (s8, .inr (3, [.int k0, .ref k1, .ref k2, .ref k3, .ref k4, .ref k5, .ref k6, .ref k7, .ref k8, .ref k9, .ref k10, .ref k11])), (s9, .inr (10, [.int v0, .int v1, .int v2, .ref v3, .ref v4, .int v5])), (m1, .inr (9, [.ref t0, .int 0, .int t2, .int t3, .int t4])), (t0, .inl (g 0, an, .inl af))] sz) (ci D (va_A [(h0, .inr (12, [.ref m0, .ref m1, .ref m2])), (m0, .inr (8, [.ref m1, .ref s1, .ref s2, .int s3, .int s4, .int s5, .int s6, .int s7, .ref s8, .ref s9, .ref s10, .ref s11, .ref s12, .int s13, .int s14, .ref s15, .int s16])), (s8, .inr (3, [.int k0, .ref k1, .ref k2, .ref k3, .ref k4, .ref k5, .ref k6, .ref k7, .ref k8, .ref k9, .ref k10, .ref k11])), (s9, .inr (10, [.int v0, .int v1, .int v2, .ref v3, .ref v4, .int v5])), (m1, .inr (9, [.ref t0, .int 0, .int t2, .int t3, .int t4])), (t0, .inl (g 0, an, .inl af))] sz) (fun r _ => r = 0) (fun u : Unit => [(h0, .inr (12, [.ref m0, .ref m1, .ref m2])), (m0, .inr (8, [.ref m1, .ref s1, .ref s2, .int 0, .int 0, .int s5, .int 0, .int (-1), .ref s8, .ref s9, .ref s10, .ref s11, .ref s12, .int 0, .int s14, .ref s15, .int 0])), (s8, .inr (3, [.int 0, .ref k1, .ref k2, .ref k3, .ref k4, .ref k5, .ref k6, .ref k7, .ref k8, .ref k9, .ref k10, .ref k11])), (s9, .inr (10, [.int 0, .int 0, .int 0, .ref v3, .ref v4, .int 0])), (m1, .inr (9, [.ref t0, .int 0, .int 0, .int 0, .int 0])), (t0, .inl (g 0, an, .inl af))])) 0 0 (va_A [(h0, .inr (12, [.ref m0, .ref m1, .ref m2])), (m0, .inr (8, [.ref m1, .ref s1, .ref s2, .int s3, .int s4, .int s5, .int s6, .int s7, .ref s8, .ref s9, .ref s10, .ref s11, .ref s12, .int s13, .int s14, .ref s15, .int s16])), (s8, .inr (3, [.int k0, .ref k1, .ref k2, .ref k3, .ref k4, .ref k5, .ref k6, .ref k7, .ref k8, .ref k9, .ref k10, .ref k11])), (s9, .inr (10, [.int v0, .int v1, .int v2, .ref v3, .ref v4, .int v5])), (m1, .inr (9, [.ref t0, .int 0, .int t2, .int t3, .int t4])), (t0, .inl (g 0, an, .inl af))] sz) := by
  refine Met.ofWH (cc := prog_1_method_4_code) (maxL := 2) (ret := (some .int)) (by decide) rfl ?_
  intro p e s m args below meth c s₁ B0 hml htab hv
  obtain ⟨rfl, hsz, hP, hK, hD0, hN⟩ := hv
  have hx := B0.exec
  have hb := B0.bytes
  have hr := B0.returns
  have hts := atoms_spec (ws := w_Ms_run) B0.pre
  have hT := fun (w : Cond) (h : w ∈ wd_all) => hts w (List.mem_cons_of_mem _ h)
  have hown : s.vm.findClass "MatrixScripts" = some m.cls := findClass_of_methodNamed B0.named
  have hlocks := B0.notSynchronized
  subst hsz
  have hD := hD0.self (sz := s.heap.size)
  generalize hAe : va_A [(h0, .inr (12, [.ref m0, .ref m1, .ref m2])), (m0, .inr (8, [.ref m1, .ref s1, .ref s2, .int s3, .int s4, .int s5, .int s6, .int s7, .ref s8, .ref s9, .ref s10, .ref s11, .ref s12, .int s13, .int s14, .ref s15, .int s16])), (s8, .inr (3, [.int k0, .ref k1, .ref k2, .ref k3, .ref k4, .ref k5, .ref k6, .ref k7, .ref k8, .ref k9, .ref k10, .ref k11])), (s9, .inr (10, [.int v0, .int v1, .int v2, .ref v3, .ref v4, .int v5])), (m1, .inr (9, [.ref t0, .int 0, .int t2, .int t3, .int t4])), (t0, .inl (g 0, an, .inl af))] s.heap.size = A at hD ⊢
  have hA : ∀ q : Nat, s.heap.size ≤ q → A q := fun q h => by rw [← hAe]; exact Or.inr h
  have hS : va_S A s.heap s.heap [] := va_S.rf
  have hP : va_P D vC ([(h0, .inr (12, [.ref m0, .ref m1, .ref m2])), (m0, .inr (8, [.ref m1, .ref s1, .ref s2, .int s3, .int s4, .int s5, .int s6, .int s7, .ref s8, .ref s9, .ref s10, .ref s11, .ref s12, .int s13, .int s14, .ref s15, .int s16])), (s8, .inr (3, [.int k0, .ref k1, .ref k2, .ref k3, .ref k4, .ref k5, .ref k6, .ref k7, .ref k8, .ref k9, .ref k10, .ref k11])), (s9, .inr (10, [.int v0, .int v1, .int v2, .ref v3, .ref v4, .int v5])), (m1, .inr (9, [.ref t0, .int 0, .int t2, .int t3, .int t4])), (t0, .inl (g 0, an, .inl af))] ++ ([] : va_W)) s.heap := hP
  have hD : va_D A ([(h0, .inr (12, [.ref m0, .ref m1, .ref m2])), (m0, .inr (8, [.ref m1, .ref s1, .ref s2, .int s3, .int s4, .int s5, .int s6, .int s7, .ref s8, .ref s9, .ref s10, .ref s11, .ref s12, .int s13, .int s14, .ref s15, .int s16])), (s8, .inr (3, [.int k0, .ref k1, .ref k2, .ref k3, .ref k4, .ref k5, .ref k6, .ref k7, .ref k8, .ref k9, .ref k10, .ref k11])), (s9, .inr (10, [.int v0, .int v1, .int v2, .ref v3, .ref v4, .int v5])), (m1, .inr (9, [.ref t0, .int 0, .int t2, .int t3, .int t4])), (t0, .inl (g 0, an, .inl af))] ++ ([] : va_W)) := hD
  have hl := lv_entry ([.ref h0]) (n := 2) (Nat.le_of_ble_eq_true rfl)
  rw [lg_entry_eq]
  generalize (lg_sl ([.ref h0]) ++ List.replicate (2 - (lg_sl ([.ref h0])).length) Slot.unset).toArray = ls at hl ⊢
  have hl : lv_has ls 2 [(0, .ref h0)] := hl
  refine lv_aload_n hx hb d_Ms_run_0 rfl (lv_at hl 0 rfl) ?_
  refine va_get (D := D) (ci := 12) (v := .ref m0) (C := "MatrixScripts") (T := T_Ms) (N := 3) hx hb hT in_Ms hown hK hP 0 rfl rfl 0 (by decide) (hT _ tw_739) (fun _ h9 => h9) rfl d_Ms_run_1 ?_
  have hP := pm_subP (a' := [(m0, .inr (8, [.ref m1, .ref s1, .ref s2, .int s3, .int s4, .int s5, .int s6, .int s7, .ref s8, .ref s9, .ref s10, .ref s11, .ref s12, .int s13, .int s14, .ref s15, .int s16])), (s8, .inr (3, [.int k0, .ref k1, .ref k2, .ref k3, .ref k4, .ref k5, .ref k6, .ref k7, .ref k8, .ref k9, .ref k10, .ref k11])), (s9, .inr (10, [.int v0, .int v1, .int v2, .ref v3, .ref v4, .int v5])), (m1, .inr (9, [.ref t0, .int 0, .int t2, .int t3, .int t4])), (h0, .inr (12, [.ref m0, .ref m1, .ref m2])), (t0, .inl (g 0, an, .inl af))]) hP [1, 2, 3, 4, 0, 5] rfl
  have hD := pm_subD (a' := [(m0, .inr (8, [.ref m1, .ref s1, .ref s2, .int s3, .int s4, .int s5, .int s6, .int s7, .ref s8, .ref s9, .ref s10, .ref s11, .ref s12, .int s13, .int s14, .ref s15, .int s16])), (s8, .inr (3, [.int k0, .ref k1, .ref k2, .ref k3, .ref k4, .ref k5, .ref k6, .ref k7, .ref k8, .ref k9, .ref k10, .ref k11])), (s9, .inr (10, [.int v0, .int v1, .int v2, .ref v3, .ref v4, .int v5])), (m1, .inr (9, [.ref t0, .int 0, .int t2, .int t3, .int t4])), (h0, .inr (12, [.ref m0, .ref m1, .ref m2])), (t0, .inl (g 0, an, .inl af))]) hD [1, 2, 3, 4, 0, 5] (by decide) rfl
  have hP : va_P D vC ([(m0, .inr (8, [.ref m1, .ref s1, .ref s2, .int s3, .int s4, .int s5, .int s6, .int s7, .ref s8, .ref s9, .ref s10, .ref s11, .ref s12, .int s13, .int s14, .ref s15, .int s16])), (s8, .inr (3, [.int k0, .ref k1, .ref k2, .ref k3, .ref k4, .ref k5, .ref k6, .ref k7, .ref k8, .ref k9, .ref k10, .ref k11])), (s9, .inr (10, [.int v0, .int v1, .int v2, .ref v3, .ref v4, .int v5])), (m1, .inr (9, [.ref t0, .int 0, .int t2, .int t3, .int t4]))] ++ ([(h0, .inr (12, [.ref m0, .ref m1, .ref m2])), (t0, .inl (g 0, an, .inl af))] ++ ([] : va_W))) s.heap := hP
  have hD : va_D A ([(m0, .inr (8, [.ref m1, .ref s1, .ref s2, .int s3, .int s4, .int s5, .int s6, .int s7, .ref s8, .ref s9, .ref s10, .ref s11, .ref s12, .int s13, .int s14, .ref s15, .int s16])), (s8, .inr (3, [.int k0, .ref k1, .ref k2, .ref k3, .ref k4, .ref k5, .ref k6, .ref k7, .ref k8, .ref k9, .ref k10, .ref k11])), (s9, .inr (10, [.int v0, .int v1, .int v2, .ref v3, .ref v4, .int v5])), (m1, .inr (9, [.ref t0, .int 0, .int t2, .int t3, .int t4]))] ++ ([(h0, .inr (12, [.ref m0, .ref m1, .ref m2])), (t0, .inl (g 0, an, .inl af))] ++ ([] : va_W))) := hD
  have hFc := pm_free hD hS hA
  refine va_callv (va_runV (As := []) (rest := []) ⟨hx, hb, hml, hown, hT⟩ (c_Script_begin l D g m0 m1 s1 s2 s3 s4 s5 s6 s7 s8 s9 s10 s11 s12 s13 s14 s15 s16 k0 k1 k2 k3 k4 k5 k6 k7 k8 k9 k10 k11 v0 v1 v2 v3 v4 v5 t0 0 t2 t3 t4 s.heap.size) (cwV 0 hT (gdV tw_754 tw_755 tw_756 tw_155 tw_757) rfl rfl rfl (by decide +kernel) ⟨Nat.le_of_ble_eq_true rfl, Nat.le_of_ble_eq_true rfl⟩) (cp_V (C := "MatrixScripts$Script") (T := T_Script) (N := 17) (ci := 8) hP hK hD hN rfl) rfl rfl hl.1 rfl (lv_room (Nat.le_of_ble_eq_true rfl)) d_Ms_run_4 ⟨Nat.le_of_ble_eq_true rfl, Nat.le_of_ble_eq_true rfl⟩) hS (fun q _ h => hFc q h) hFc (fun u4 t H1 locs ht1 hvm hw hB hz1 hk1 hS => ?_)
  obtain ⟨hP1, hD1⟩ := hB
  rw [ht1] at hP1
  obtain ⟨hP, hD⟩ := pm_join hP hD hk1 hFc hP1 hD1
  generalize H1 = H at hP hS ⊢
  have hw4 := hw
  have hP : va_P D vC ([(m0, .inr (8, [.ref m1, .ref s1, .ref s2, .int 0, .int 0, .int s5, .int 0, .int (-1), .ref s8, .ref s9, .ref s10, .ref s11, .ref s12, .int 0, .int s14, .ref s15, .int 0])), (s8, .inr (3, [.int 0, .ref k1, .ref k2, .ref k3, .ref k4, .ref k5, .ref k6, .ref k7, .ref k8, .ref k9, .ref k10, .ref k11])), (s9, .inr (10, [.int 0, .int 0, .int 0, .ref v3, .ref v4, .int 0])), (m1, .inr (9, [.ref t0, .int 0, .int t2, .int t3, .int 0])), (h0, .inr (12, [.ref m0, .ref m1, .ref m2])), (t0, .inl (g 0, an, .inl af))] ++ ([] : va_W)) H := hP
  have hD : va_D A ([(m0, .inr (8, [.ref m1, .ref s1, .ref s2, .int 0, .int 0, .int s5, .int 0, .int (-1), .ref s8, .ref s9, .ref s10, .ref s11, .ref s12, .int 0, .int s14, .ref s15, .int 0])), (s8, .inr (3, [.int 0, .ref k1, .ref k2, .ref k3, .ref k4, .ref k5, .ref k6, .ref k7, .ref k8, .ref k9, .ref k10, .ref k11])), (s9, .inr (10, [.int 0, .int 0, .int 0, .ref v3, .ref v4, .int 0])), (m1, .inr (9, [.ref t0, .int 0, .int t2, .int t3, .int 0])), (h0, .inr (12, [.ref m0, .ref m1, .ref m2])), (t0, .inl (g 0, an, .inl af))] ++ ([] : va_W)) := hD
  refine lv_aload_n hx hb d_Ms_run_7 rfl (lv_at hl 0 rfl) ?_
  refine va_get (D := D) (ci := 12) (v := .ref m0) (C := "MatrixScripts") (T := T_Ms) (N := 3) hx hb hT in_Ms hown hK hP 4 rfl rfl 0 (by decide) (hT _ tw_739) (fun _ h9 => h9) rfl d_Ms_run_8 ?_
  have hP := pm_subP (a' := [(m0, .inr (8, [.ref m1, .ref s1, .ref s2, .int 0, .int 0, .int s5, .int 0, .int (-1), .ref s8, .ref s9, .ref s10, .ref s11, .ref s12, .int 0, .int s14, .ref s15, .int 0])), (m1, .inr (9, [.ref t0, .int 0, .int t2, .int t3, .int 0])), (t0, .inl (g 0, an, .inl af)), (s8, .inr (3, [.int 0, .ref k1, .ref k2, .ref k3, .ref k4, .ref k5, .ref k6, .ref k7, .ref k8, .ref k9, .ref k10, .ref k11])), (s9, .inr (10, [.int 0, .int 0, .int 0, .ref v3, .ref v4, .int 0])), (h0, .inr (12, [.ref m0, .ref m1, .ref m2]))]) hP [0, 3, 5, 1, 2, 4] rfl
  have hD := pm_subD (a' := [(m0, .inr (8, [.ref m1, .ref s1, .ref s2, .int 0, .int 0, .int s5, .int 0, .int (-1), .ref s8, .ref s9, .ref s10, .ref s11, .ref s12, .int 0, .int s14, .ref s15, .int 0])), (m1, .inr (9, [.ref t0, .int 0, .int t2, .int t3, .int 0])), (t0, .inl (g 0, an, .inl af)), (s8, .inr (3, [.int 0, .ref k1, .ref k2, .ref k3, .ref k4, .ref k5, .ref k6, .ref k7, .ref k8, .ref k9, .ref k10, .ref k11])), (s9, .inr (10, [.int 0, .int 0, .int 0, .ref v3, .ref v4, .int 0])), (h0, .inr (12, [.ref m0, .ref m1, .ref m2]))]) hD [0, 3, 5, 1, 2, 4] (by decide) rfl
  have hP : va_P D vC ([(m0, .inr (8, [.ref m1, .ref s1, .ref s2, .int 0, .int 0, .int s5, .int 0, .int (-1), .ref s8, .ref s9, .ref s10, .ref s11, .ref s12, .int 0, .int s14, .ref s15, .int 0])), (m1, .inr (9, [.ref t0, .int 0, .int t2, .int t3, .int 0])), (t0, .inl (g 0, an, .inl af))] ++ ([(s8, .inr (3, [.int 0, .ref k1, .ref k2, .ref k3, .ref k4, .ref k5, .ref k6, .ref k7, .ref k8, .ref k9, .ref k10, .ref k11])), (s9, .inr (10, [.int 0, .int 0, .int 0, .ref v3, .ref v4, .int 0])), (h0, .inr (12, [.ref m0, .ref m1, .ref m2]))] ++ ([] : va_W))) H := hP
  have hD : va_D A ([(m0, .inr (8, [.ref m1, .ref s1, .ref s2, .int 0, .int 0, .int s5, .int 0, .int (-1), .ref s8, .ref s9, .ref s10, .ref s11, .ref s12, .int 0, .int s14, .ref s15, .int 0])), (m1, .inr (9, [.ref t0, .int 0, .int t2, .int t3, .int 0])), (t0, .inl (g 0, an, .inl af))] ++ ([(s8, .inr (3, [.int 0, .ref k1, .ref k2, .ref k3, .ref k4, .ref k5, .ref k6, .ref k7, .ref k8, .ref k9, .ref k10, .ref k11])), (s9, .inr (10, [.int 0, .int 0, .int 0, .ref v3, .ref v4, .int 0])), (h0, .inr (12, [.ref m0, .ref m1, .ref m2]))] ++ ([] : va_W))) := hD
  have hFc := pm_free hD hS hA
  refine va_callv (va_runV (As := []) (rest := []) ⟨hx, hb, hml, hown, hT⟩ (c_Script_read_e l D g m0 m1 s1 s2 0 0 s5 0 (-1) s8 s9 s10 s11 s12 0 s14 s15 0 t0 t2 t3 an af H.size) (cwV 0 hT (gdV tw_762 tw_763 tw_764 tw_155 tw_765) rfl rfl rfl (by decide +kernel) ⟨Nat.le_of_ble_eq_true rfl, Nat.le_of_ble_eq_true rfl⟩) (cp_V (C := "MatrixScripts$Script") (T := T_Script) (N := 17) (ci := 8) hP hK hD hN rfl) rfl rfl hl.1 rfl (lv_room (Nat.le_of_ble_eq_true rfl)) d_Ms_run_11 ⟨Nat.le_of_ble_eq_true rfl, Nat.le_of_ble_eq_true rfl⟩) hS (fun q _ h => hFc q h) hFc (fun u11 t H1 locs ht1 hvm hw hB hz1 hk1 hS => ?_)
  obtain ⟨hP1, hD1⟩ := hB
  rw [ht1] at hP1
  obtain ⟨hP, hD⟩ := pm_join hP hD hk1 hFc hP1 hD1
  generalize H1 = H at hP hS ⊢
  have hw11 := hw
  have hP : va_P D vC ([(m0, .inr (8, [.ref m1, .ref s1, .ref s2, .int 0, .int 0, .int s5, .int 0, .int (-1), .ref s8, .ref s9, .ref s10, .ref s11, .ref s12, .int 0, .int s14, .ref s15, .int 0])), (m1, .inr (9, [.ref t0, .int 0, .int 0, .int 0, .int 0])), (t0, .inl (g 0, an, .inl af)), (s8, .inr (3, [.int 0, .ref k1, .ref k2, .ref k3, .ref k4, .ref k5, .ref k6, .ref k7, .ref k8, .ref k9, .ref k10, .ref k11])), (s9, .inr (10, [.int 0, .int 0, .int 0, .ref v3, .ref v4, .int 0])), (h0, .inr (12, [.ref m0, .ref m1, .ref m2]))] ++ ([] : va_W)) H := hP
  have hD : va_D A ([(m0, .inr (8, [.ref m1, .ref s1, .ref s2, .int 0, .int 0, .int s5, .int 0, .int (-1), .ref s8, .ref s9, .ref s10, .ref s11, .ref s12, .int 0, .int s14, .ref s15, .int 0])), (m1, .inr (9, [.ref t0, .int 0, .int 0, .int 0, .int 0])), (t0, .inl (g 0, an, .inl af)), (s8, .inr (3, [.int 0, .ref k1, .ref k2, .ref k3, .ref k4, .ref k5, .ref k6, .ref k7, .ref k8, .ref k9, .ref k10, .ref k11])), (s9, .inr (10, [.int 0, .int 0, .int 0, .ref v3, .ref v4, .int 0])), (h0, .inr (12, [.ref m0, .ref m1, .ref m2]))] ++ ([] : va_W)) := hD
  refine lv_goto (tgt := 25) hx hb d_Ms_run_14 (by decide) ?_
  refine lv_iconst (v := 0) hx hb d_Ms_run_25 (by decide) ?_
  refine lv_istore_n (lv' := [(1, .int 0), (0, .ref h0)]) hx hb d_Ms_run_26 rfl hl (by decide) rfl (fun ls hl => ?_)
  refine lv_iload_n hx hb d_Ms_run_27 rfl (lv_at hl 0 rfl) ?_
  refine lv_aload_n hx hb d_Ms_run_28 rfl (lv_at hl 1 rfl) ?_
  refine va_get (D := D) (ci := 12) (v := .ref m0) (C := "MatrixScripts") (T := T_Ms) (N := 3) hx hb hT in_Ms hown hK hP 5 rfl rfl 0 (by decide) (hT _ tw_739) (fun _ h9 => h9) rfl d_Ms_run_29 ?_
  refine va_get (D := D) (ci := 8) (v := .int 0) (C := "MatrixScripts$Script") (T := T_Script) (N := 17) hx hb hT in_Script hown hK hP 0 rfl rfl 3 (by decide) (hT _ tw_685) (fun _ h9 => h9) rfl d_Ms_run_32 ?_
  refine lv_icmp_ge (tgt := 62) hx hb d_Ms_run_35 (by decide) (fun c35 => ?_) (fun c35 => absurd (by decide) c35)
  refine lv_aload_n hx hb d_Ms_run_62 rfl (lv_at hl 1 rfl) ?_
  refine va_get (D := D) (ci := 12) (v := .ref m1) (C := "MatrixScripts") (T := T_Ms) (N := 3) hx hb hT in_Ms hown hK hP 5 rfl rfl 1 (by decide) (hT _ tw_740) (fun _ h9 => h9) rfl d_Ms_run_63 ?_
  refine lv_iconst (v := 0) hx hb d_Ms_run_66 (by decide) ?_
  refine va_put (D := D) (ci := 9) (v := .int 0) (ty := .int) (C := "MatrixScripts$Tape") (T := T_Tape) (N := 5) hx hb hT in_Tape ty_Tape ty_Tape_ok nm_Tape hown hK hP hD hS 1 rfl rfl 1 (by decide) (hT _ tw_214) (fun _ h9 => h9) rfl (by decide +kernel) rfl rfl (Nat.le_of_ble_eq_true rfl) d_Ms_run_67 (fun H locs hP hD hS => ?_)
  have hP : va_P D vC ([(m0, .inr (8, [.ref m1, .ref s1, .ref s2, .int 0, .int 0, .int s5, .int 0, .int (-1), .ref s8, .ref s9, .ref s10, .ref s11, .ref s12, .int 0, .int s14, .ref s15, .int 0])), (m1, .inr (9, [.ref t0, .int 0, .int 0, .int 0, .int 0])), (t0, .inl (g 0, an, .inl af)), (s8, .inr (3, [.int 0, .ref k1, .ref k2, .ref k3, .ref k4, .ref k5, .ref k6, .ref k7, .ref k8, .ref k9, .ref k10, .ref k11])), (s9, .inr (10, [.int 0, .int 0, .int 0, .ref v3, .ref v4, .int 0])), (h0, .inr (12, [.ref m0, .ref m1, .ref m2]))] ++ ([] : va_W)) H := hP
  have hD : va_D A ([(m0, .inr (8, [.ref m1, .ref s1, .ref s2, .int 0, .int 0, .int s5, .int 0, .int (-1), .ref s8, .ref s9, .ref s10, .ref s11, .ref s12, .int 0, .int s14, .ref s15, .int 0])), (m1, .inr (9, [.ref t0, .int 0, .int 0, .int 0, .int 0])), (t0, .inl (g 0, an, .inl af)), (s8, .inr (3, [.int 0, .ref k1, .ref k2, .ref k3, .ref k4, .ref k5, .ref k6, .ref k7, .ref k8, .ref k9, .ref k10, .ref k11])), (s9, .inr (10, [.int 0, .int 0, .int 0, .ref v3, .ref v4, .int 0])), (h0, .inr (12, [.ref m0, .ref m1, .ref m2]))] ++ ([] : va_W)) := hD
  refine lv_aload_n hx hb d_Ms_run_70 rfl (lv_at hl 1 rfl) ?_
  refine va_get (D := D) (ci := 12) (v := .ref m0) (C := "MatrixScripts") (T := T_Ms) (N := 3) hx hb hT in_Ms hown hK hP 5 rfl rfl 0 (by decide) (hT _ tw_739) (fun _ h9 => h9) rfl d_Ms_run_71 ?_
  refine va_get (D := D) (ci := 8) (v := .int 0) (C := "MatrixScripts$Script") (T := T_Script) (N := 17) hx hb hT in_Script hown hK hP 0 rfl rfl 6 (by decide) (hT _ tw_691) (fun _ h9 => h9) rfl d_Ms_run_74 ?_
  refine lv_if_ne (tgt := 90) hx hb d_Ms_run_77 (by decide) (fun c77 => absurd (by decide) c77) (fun c77 => ?_)
  refine lv_aload_n hx hb d_Ms_run_80 rfl (lv_at hl 1 rfl) ?_
  refine va_get (D := D) (ci := 12) (v := .ref m0) (C := "MatrixScripts") (T := T_Ms) (N := 3) hx hb hT in_Ms hown hK hP 5 rfl rfl 0 (by decide) (hT _ tw_739) (fun _ h9 => h9) rfl d_Ms_run_81 ?_
  refine va_get (D := D) (ci := 8) (v := .int 0) (C := "MatrixScripts$Script") (T := T_Script) (N := 17) hx hb hT in_Script hown hK hP 0 rfl rfl 4 (by decide) (hT _ tw_687) (fun _ h9 => h9) rfl d_Ms_run_84 ?_
  refine lv_goto (tgt := 100) hx hb d_Ms_run_87 (by decide) ?_
  have hP9 := pm_subP (a' := [(h0, .inr (12, [.ref m0, .ref m1, .ref m2])), (m0, .inr (8, [.ref m1, .ref s1, .ref s2, .int 0, .int 0, .int s5, .int 0, .int (-1), .ref s8, .ref s9, .ref s10, .ref s11, .ref s12, .int 0, .int s14, .ref s15, .int 0])), (s8, .inr (3, [.int 0, .ref k1, .ref k2, .ref k3, .ref k4, .ref k5, .ref k6, .ref k7, .ref k8, .ref k9, .ref k10, .ref k11])), (s9, .inr (10, [.int 0, .int 0, .int 0, .ref v3, .ref v4, .int 0])), (m1, .inr (9, [.ref t0, .int 0, .int 0, .int 0, .int 0])), (t0, .inl (g 0, an, .inl af))]) hP [5, 0, 3, 4, 1, 2] rfl
  have hD9 := pm_subD (a' := [(h0, .inr (12, [.ref m0, .ref m1, .ref m2])), (m0, .inr (8, [.ref m1, .ref s1, .ref s2, .int 0, .int 0, .int s5, .int 0, .int (-1), .ref s8, .ref s9, .ref s10, .ref s11, .ref s12, .int 0, .int s14, .ref s15, .int 0])), (s8, .inr (3, [.int 0, .ref k1, .ref k2, .ref k3, .ref k4, .ref k5, .ref k6, .ref k7, .ref k8, .ref k9, .ref k10, .ref k11])), (s9, .inr (10, [.int 0, .int 0, .int 0, .ref v3, .ref v4, .int 0])), (m1, .inr (9, [.ref t0, .int 0, .int 0, .int 0, .int 0])), (t0, .inl (g 0, an, .inl af))]) hD [5, 0, 3, 4, 1, 2] (by decide) rfl
  refine W.widen (k := 0) (n := 0) (Nat.le_of_ble_eq_true rfl) (Nat.le_of_ble_eq_true rfl) ?_
  exact W.iret (v := 0) hx hb hr (fun t ht1 hW => ⟨⟨_, (), rfl, rfl, by rw [ht1]; exact hP9, hD9⟩, hS.F ht1⟩) hS.2.2 d_Ms_run_100
def w_Mdl_peek : List Cond := .code ⟨"MatrixScriptsModel", "peek", "(I)I"⟩ prog_17_method_5_code 2 (some .int) :: wd_all
theorem gd_Mdl_peek : GoodIn wd_all w_Mdl_peek := gd_of tw_2355
set_option maxHeartbeats 4000000 in
set_option maxRecDepth 100000 in
theorem c_Mdl_peek (l : Launch) (D : va_G) (g : Nat → ClassId) (h0 : Nat) (m0 : Int32) (m1 : Nat) (m2 : Int32) (m3 : Nat) (m4 : Nat) (m5 : Nat) (m6 : Nat) (m7 : Nat) (m8 : Nat) (m9 : Nat) (m10 : Nat) (m11 : Nat) (m12 : Int32) (m13 : Int32) (m14 : Int32) (m15 : Nat) (m16 : Int32) (m17 : Int32) (m18 : Int32) (m19 : Int32) (m20 : Int32) (m21 : Int32) (m22 : Int32) (m23 : Int32) (m24 : Int32) (m25 : Int32) (m26 : Int32) (m27 : Int64) (m28 : Int32) (m29 : Int32) (m30 : Nat) (m31 : Nat) (m32 : Int32) (m33 : Int32) (m34 : Int32) (m35 : Int32) (m36 : Nat) (an : Nat) (af : Nat → Int32) (i : Int32) (hin : m19 + i < m2 → vp_in (m19 + i) an) (sz : Nat) : Met l ⟨"MatrixScriptsModel", "peek", "(I)I"⟩ w_Mdl_peek { frames := 0, cells := 0, slots := 0, locals := 0 } (cp D g [.ref h0, .int i] [(h0, .inr (16, [.int m0, .ref m1, .int m2, .ref m3, .ref m4, .ref m5, .ref m6, .ref m7, .ref m8, .ref m9, .ref m10, .ref m11, .int m12, .int m13, .int m14, .ref m15, .int m16, .int m17, .int m18, .int m19, .int m20, .int m21, .int m22, .int m23, .int m24, .int m25, .int m26, .long m27, .int m28, .int m29, .ref m30, .ref m31, .int m32, .int m33, .int m34, .int m35, .ref m36])), (m1, .inl (g 2, an, .inl af))] sz) (ci D (va_A [(h0, .inr (16, [.int m0, .ref m1, .int m2, .ref m3, .ref m4, .ref m5, .ref m6, .ref m7, .ref m8, .ref m9, .ref m10, .ref m11, .int m12, .int m13, .int m14, .ref m15, .int m16, .int m17, .int m18, .int m19, .int m20, .int m21, .int m22, .int m23, .int m24, .int m25, .int m26, .long m27, .int m28, .int m29, .ref m30, .ref m31, .int m32, .int m33, .int m34, .int m35, .ref m36])), (m1, .inl (g 2, an, .inl af))] sz) (fun r _ => r = if m19 + i < m2 then af (m19 + i).toNatClampNeg &&& 255 else -1) (fun u : Unit => [(h0, .inr (16, [.int m0, .ref m1, .int m2, .ref m3, .ref m4, .ref m5, .ref m6, .ref m7, .ref m8, .ref m9, .ref m10, .ref m11, .int m12, .int m13, .int m14, .ref m15, .int m16, .int m17, .int m18, .int m19, .int m20, .int m21, .int m22, .int m23, .int m24, .int m25, .int m26, .long m27, .int m28, .int m29, .ref m30, .ref m31, .int m32, .int m33, .int m34, .int m35, .ref m36])), (m1, .inl (g 2, an, .inl af))])) 0 0 (va_A [(h0, .inr (16, [.int m0, .ref m1, .int m2, .ref m3, .ref m4, .ref m5, .ref m6, .ref m7, .ref m8, .ref m9, .ref m10, .ref m11, .int m12, .int m13, .int m14, .ref m15, .int m16, .int m17, .int m18, .int m19, .int m20, .int m21, .int m22, .int m23, .int m24, .int m25, .int m26, .long m27, .int m28, .int m29, .ref m30, .ref m31, .int m32, .int m33, .int m34, .int m35, .ref m36])), (m1, .inl (g 2, an, .inl af))] sz) := by
  refine Met.ofW (cc := prog_17_method_5_code) (maxL := 2) (ret := (some .int)) (by decide) rfl ?_
  intro p e s m args below meth c s₁ B0 hml hv
  obtain ⟨rfl, hsz, hP, hK, hD0, hN⟩ := hv
  have hx := B0.exec
  have hb := B0.bytes
  have hr := B0.returns
  have hts := atoms_spec (ws := w_Mdl_peek) B0.pre
  have hT := fun (w : Cond) (h : w ∈ wd_all) => hts w (List.mem_cons_of_mem _ h)
  have hown : s.vm.findClass "MatrixScriptsModel" = some m.cls := findClass_of_methodNamed B0.named
  have hlocks := B0.notSynchronized
  subst hsz
  have hD := hD0.self (sz := s.heap.size)
  generalize hAe : va_A [(h0, .inr (16, [.int m0, .ref m1, .int m2, .ref m3, .ref m4, .ref m5, .ref m6, .ref m7, .ref m8, .ref m9, .ref m10, .ref m11, .int m12, .int m13, .int m14, .ref m15, .int m16, .int m17, .int m18, .int m19, .int m20, .int m21, .int m22, .int m23, .int m24, .int m25, .int m26, .long m27, .int m28, .int m29, .ref m30, .ref m31, .int m32, .int m33, .int m34, .int m35, .ref m36])), (m1, .inl (g 2, an, .inl af))] s.heap.size = A at hD ⊢
  have hA : ∀ q : Nat, s.heap.size ≤ q → A q := fun q h => by rw [← hAe]; exact Or.inr h
  have hS : va_S A s.heap s.heap [] := va_S.rf
  have hP : va_P D vC ([(h0, .inr (16, [.int m0, .ref m1, .int m2, .ref m3, .ref m4, .ref m5, .ref m6, .ref m7, .ref m8, .ref m9, .ref m10, .ref m11, .int m12, .int m13, .int m14, .ref m15, .int m16, .int m17, .int m18, .int m19, .int m20, .int m21, .int m22, .int m23, .int m24, .int m25, .int m26, .long m27, .int m28, .int m29, .ref m30, .ref m31, .int m32, .int m33, .int m34, .int m35, .ref m36])), (m1, .inl (g 2, an, .inl af))] ++ ([] : va_W)) s.heap := hP
  have hD : va_D A ([(h0, .inr (16, [.int m0, .ref m1, .int m2, .ref m3, .ref m4, .ref m5, .ref m6, .ref m7, .ref m8, .ref m9, .ref m10, .ref m11, .int m12, .int m13, .int m14, .ref m15, .int m16, .int m17, .int m18, .int m19, .int m20, .int m21, .int m22, .int m23, .int m24, .int m25, .int m26, .long m27, .int m28, .int m29, .ref m30, .ref m31, .int m32, .int m33, .int m34, .int m35, .ref m36])), (m1, .inl (g 2, an, .inl af))] ++ ([] : va_W)) := hD
  have hl := lv_entry ([.ref h0, .int i]) (n := 2) (Nat.le_of_ble_eq_true rfl)
  rw [lg_entry_eq]
  generalize (lg_sl ([.ref h0, .int i]) ++ List.replicate (2 - (lg_sl ([.ref h0, .int i])).length) Slot.unset).toArray = ls at hl ⊢
  have hl : lv_has ls 2 [(0, .ref h0), (1, .int i)] := hl
  refine lv_aload_n hx hb d_Mdl_peek_0 rfl (lv_at hl 0 rfl) ?_
  refine va_get (D := D) (ci := 16) (v := .int m19) (C := "MatrixScriptsModel") (T := T_Mdl) (N := 37) hx hb hT in_Mdl hown hK hP 0 rfl rfl 19 (by decide) (hT _ tw_2234) (fun _ h9 => h9) rfl d_Mdl_peek_1 ?_
  refine lv_iload_n hx hb d_Mdl_peek_4 rfl (lv_at hl 1 rfl) ?_
  refine lv_iadd hx hb d_Mdl_peek_5 ?_
  refine lv_topi (fun v5 ev5 => ?_)
  refine lv_aload_n hx hb d_Mdl_peek_6 rfl (lv_at hl 0 rfl) ?_
  refine va_get (D := D) (ci := 16) (v := .int m2) (C := "MatrixScriptsModel") (T := T_Mdl) (N := 37) hx hb hT in_Mdl hown hK hP 0 rfl rfl 2 (by decide) (hT _ tw_2217) (fun _ h9 => h9) rfl d_Mdl_peek_7 ?_
  refine lv_icmp_ge (tgt := 31) hx hb d_Mdl_peek_10 (by decide) (fun c10 => ?_) (fun c10 => ?_)
  · refine lv_iconst (v := -1) hx hb d_Mdl_peek_31 (by decide) ?_
    have hP9 := pm_subP (a' := [(h0, .inr (16, [.int m0, .ref m1, .int m2, .ref m3, .ref m4, .ref m5, .ref m6, .ref m7, .ref m8, .ref m9, .ref m10, .ref m11, .int m12, .int m13, .int m14, .ref m15, .int m16, .int m17, .int m18, .int m19, .int m20, .int m21, .int m22, .int m23, .int m24, .int m25, .int m26, .long m27, .int m28, .int m29, .ref m30, .ref m31, .int m32, .int m33, .int m34, .int m35, .ref m36])), (m1, .inl (g 2, an, .inl af))]) hP [0, 1] rfl
    have hD9 := pm_subD (a' := [(h0, .inr (16, [.int m0, .ref m1, .int m2, .ref m3, .ref m4, .ref m5, .ref m6, .ref m7, .ref m8, .ref m9, .ref m10, .ref m11, .int m12, .int m13, .int m14, .ref m15, .int m16, .int m17, .int m18, .int m19, .int m20, .int m21, .int m22, .int m23, .int m24, .int m25, .int m26, .long m27, .int m28, .int m29, .ref m30, .ref m31, .int m32, .int m33, .int m34, .int m35, .ref m36])), (m1, .inl (g 2, an, .inl af))]) hD [0, 1] (by decide) rfl
    refine W.widen (k := 0) (n := 0) (Nat.le_of_ble_eq_true rfl) (Nat.le_of_ble_eq_true rfl) ?_
    exact W.iret (v := (-1)) hx hb hr (fun t ht1 hW => ⟨⟨_, (), rfl, by rw [if_neg (fun h => absurd (by rw [ev5]; exact h) (Int32.not_lt.mpr c10))], by rw [ht1]; exact hP9, hD9⟩, hS.F ht1⟩) hS.2.2 d_Mdl_peek_32
  · refine lv_aload_n hx hb d_Mdl_peek_13 rfl (lv_at hl 0 rfl) ?_
    refine va_get (D := D) (ci := 16) (v := .ref m1) (C := "MatrixScriptsModel") (T := T_Mdl) (N := 37) hx hb hT in_Mdl hown hK hP 0 rfl rfl 1 (by decide) (hT _ tw_2216) (fun _ h9 => h9) rfl d_Mdl_peek_14 ?_
    refine lv_aload_n hx hb d_Mdl_peek_17 rfl (lv_at hl 0 rfl) ?_
    refine va_get (D := D) (ci := 16) (v := .int m19) (C := "MatrixScriptsModel") (T := T_Mdl) (N := 37) hx hb hT in_Mdl hown hK hP 0 rfl rfl 19 (by decide) (hT _ tw_2234) (fun _ h9 => h9) rfl d_Mdl_peek_18 ?_
    refine lv_iload_n hx hb d_Mdl_peek_21 rfl (lv_at hl 1 rfl) ?_
    refine lv_iadd hx hb d_Mdl_peek_22 ?_
    refine lv_topi (fun v22 ev22 => ?_)
    refine va_bald hx hb hK hP 1 2 rfl rfl (i := v22) (by rw [ev22]; exact hin (by rw [← ev5]; exact Int32.not_le.mp c10)) d_Mdl_peek_23 ?_
    refine lv_topi (fun v23 ev23 => ?_)
    refine lv_sipush (v := 255) hx hb d_Mdl_peek_24 (by decide) ?_
    refine lv_iand hx hb d_Mdl_peek_27 ?_
    refine lv_topi (fun v27 ev27 => ?_)
    refine lv_goto (tgt := 32) hx hb d_Mdl_peek_28 (by decide) ?_
    have hP9 := pm_subP (a' := [(h0, .inr (16, [.int m0, .ref m1, .int m2, .ref m3, .ref m4, .ref m5, .ref m6, .ref m7, .ref m8, .ref m9, .ref m10, .ref m11, .int m12, .int m13, .int m14, .ref m15, .int m16, .int m17, .int m18, .int m19, .int m20, .int m21, .int m22, .int m23, .int m24, .int m25, .int m26, .long m27, .int m28, .int m29, .ref m30, .ref m31, .int m32, .int m33, .int m34, .int m35, .ref m36])), (m1, .inl (g 2, an, .inl af))]) hP [0, 1] rfl
    have hD9 := pm_subD (a' := [(h0, .inr (16, [.int m0, .ref m1, .int m2, .ref m3, .ref m4, .ref m5, .ref m6, .ref m7, .ref m8, .ref m9, .ref m10, .ref m11, .int m12, .int m13, .int m14, .ref m15, .int m16, .int m17, .int m18, .int m19, .int m20, .int m21, .int m22, .int m23, .int m24, .int m25, .int m26, .long m27, .int m28, .int m29, .ref m30, .ref m31, .int m32, .int m33, .int m34, .int m35, .ref m36])), (m1, .inl (g 2, an, .inl af))]) hD [0, 1] (by decide) rfl
    refine W.widen (k := 0) (n := 0) (Nat.le_of_ble_eq_true rfl) (Nat.le_of_ble_eq_true rfl) ?_
    exact W.iret (v := v27) hx hb hr (fun t ht1 hW => ⟨⟨_, (), rfl, by rw [if_pos (by rw [← ev5]; exact Int32.not_le.mp c10), ev27, ev23, ev22], by rw [ht1]; exact hP9, hD9⟩, hS.F ht1⟩) hS.2.2 d_Mdl_peek_32
def w_Mdl_next : List Cond := .code ⟨"MatrixScriptsModel", "next", "()V"⟩ prog_17_method_8_code 4 none :: wd_all
theorem gd_Mdl_next : GoodIn wd_all w_Mdl_next := gd_of tw_2351
set_option maxHeartbeats 4000000 in
set_option maxRecDepth 100000 in
theorem c_Mdl_next_e (l : Launch) (D : va_G) (g : Nat → ClassId) (h0 : Nat) (m0 : Int32) (m1 : Nat) (m3 : Nat) (m4 : Nat) (m5 : Nat) (m6 : Nat) (m7 : Nat) (m8 : Nat) (m9 : Nat) (m10 : Nat) (m11 : Nat) (m12 : Int32) (m13 : Int32) (m14 : Int32) (m15 : Nat) (m16 : Int32) (m17 : Int32) (m18 : Int32) (m20 : Int32) (m21 : Int32) (m22 : Int32) (m23 : Int32) (m24 : Int32) (m25 : Int32) (m26 : Int32) (m27 : Int64) (m28 : Int32) (m29 : Int32) (m30 : Nat) (m31 : Nat) (m32 : Int32) (m33 : Int32) (m34 : Int32) (m35 : Int32) (m36 : Nat) (an : Nat) (af : Nat → Int32) (sz : Nat) : Met l ⟨"MatrixScriptsModel", "next", "()V"⟩ w_Mdl_next { frames := 1, cells := 0, slots := 0, locals := 21 } (cp D g [.ref h0] [(h0, .inr (16, [.int m0, .ref m1, .int 0, .ref m3, .ref m4, .ref m5, .ref m6, .ref m7, .ref m8, .ref m9, .ref m10, .ref m11, .int m12, .int m13, .int m14, .ref m15, .int m16, .int m17, .int m18, .int 0, .int m20, .int m21, .int m22, .int m23, .int m24, .int m25, .int m26, .long m27, .int m28, .int m29, .ref m30, .ref m31, .int m32, .int m33, .int m34, .int m35, .ref m36])), (m1, .inl (g 2, an, .inl af))] sz) (cw D (va_A [(h0, .inr (16, [.int m0, .ref m1, .int 0, .ref m3, .ref m4, .ref m5, .ref m6, .ref m7, .ref m8, .ref m9, .ref m10, .ref m11, .int m12, .int m13, .int m14, .ref m15, .int m16, .int m17, .int m18, .int 0, .int m20, .int m21, .int m22, .int m23, .int m24, .int m25, .int m26, .long m27, .int m28, .int m29, .ref m30, .ref m31, .int m32, .int m33, .int m34, .int m35, .ref m36])), (m1, .inl (g 2, an, .inl af))] sz) (fun _ => True) (fun u : Unit => [(h0, .inr (16, [.int m0, .ref m1, .int 0, .ref m3, .ref m4, .ref m5, .ref m6, .ref m7, .ref m8, .ref m9, .ref m10, .ref m11, .int m12, .int m13, .int m14, .ref m15, .int m16, .int m17, .int m18, .int 0, .int 0, .int 0, .int 0, .int m23, .int m24, .int m25, .int m26, .long m27, .int m28, .int m29, .ref m30, .ref m31, .int m32, .int m33, .int m34, .int m35, .ref m36])), (m1, .inl (g 2, an, .inl af))])) 0 0 (va_A [(h0, .inr (16, [.int m0, .ref m1, .int 0, .ref m3, .ref m4, .ref m5, .ref m6, .ref m7, .ref m8, .ref m9, .ref m10, .ref m11, .int m12, .int m13, .int m14, .ref m15, .int m16, .int m17, .int m18, .int 0, .int m20, .int m21, .int m22, .int m23, .int m24, .int m25, .int m26, .long m27, .int m28, .int m29, .ref m30, .ref m31, .int m32, .int m33, .int m34, .int m35, .ref m36])), (m1, .inl (g 2, an, .inl af))] sz) := by
  refine Met.ofW (cc := prog_17_method_8_code) (maxL := 4) (ret := none) (by decide) rfl ?_
  intro p e s m args below meth c s₁ B0 hml hv
  obtain ⟨rfl, hsz, hP, hK, hD0, hN⟩ := hv
  have hx := B0.exec
  have hb := B0.bytes
  have hr := B0.returns
  have hts := atoms_spec (ws := w_Mdl_next) B0.pre
  have hT := fun (w : Cond) (h : w ∈ wd_all) => hts w (List.mem_cons_of_mem _ h)
  have hown : s.vm.findClass "MatrixScriptsModel" = some m.cls := findClass_of_methodNamed B0.named
  have hlocks := B0.notSynchronized
  subst hsz
  have hD := hD0.self (sz := s.heap.size)
  generalize hAe : va_A [(h0, .inr (16, [.int m0, .ref m1, .int 0, .ref m3, .ref m4, .ref m5, .ref m6, .ref m7, .ref m8, .ref m9, .ref m10, .ref m11, .int m12, .int m13, .int m14, .ref m15, .int m16, .int m17, .int m18, .int 0, .int m20, .int m21, .int m22, .int m23, .int m24, .int m25, .int m26, .long m27, .int m28, .int m29, .ref m30, .ref m31, .int m32, .int m33, .int m34, .int m35, .ref m36])), (m1, .inl (g 2, an, .inl af))] s.heap.size = A at hD ⊢
  have hA : ∀ q : Nat, s.heap.size ≤ q → A q := fun q h => by rw [← hAe]; exact Or.inr h
  have hS : va_S A s.heap s.heap [] := va_S.rf
  have hP : va_P D vC ([(h0, .inr (16, [.int m0, .ref m1, .int 0, .ref m3, .ref m4, .ref m5, .ref m6, .ref m7, .ref m8, .ref m9, .ref m10, .ref m11, .int m12, .int m13, .int m14, .ref m15, .int m16, .int m17, .int m18, .int 0, .int m20, .int m21, .int m22, .int m23, .int m24, .int m25, .int m26, .long m27, .int m28, .int m29, .ref m30, .ref m31, .int m32, .int m33, .int m34, .int m35, .ref m36])), (m1, .inl (g 2, an, .inl af))] ++ ([] : va_W)) s.heap := hP
  have hD : va_D A ([(h0, .inr (16, [.int m0, .ref m1, .int 0, .ref m3, .ref m4, .ref m5, .ref m6, .ref m7, .ref m8, .ref m9, .ref m10, .ref m11, .int m12, .int m13, .int m14, .ref m15, .int m16, .int m17, .int m18, .int 0, .int m20, .int m21, .int m22, .int m23, .int m24, .int m25, .int m26, .long m27, .int m28, .int m29, .ref m30, .ref m31, .int m32, .int m33, .int m34, .int m35, .ref m36])), (m1, .inl (g 2, an, .inl af))] ++ ([] : va_W)) := hD
  have hl := lv_entry ([.ref h0]) (n := 4) (Nat.le_of_ble_eq_true rfl)
  rw [lg_entry_eq]
  generalize (lg_sl ([.ref h0]) ++ List.replicate (4 - (lg_sl ([.ref h0])).length) Slot.unset).toArray = ls at hl ⊢
  have hl : lv_has ls 4 [(0, .ref h0)] := hl
  refine lv_iconst (v := 1) hx hb d_Mdl_next_0 (by decide) ?_
  refine lv_istore_n (lv' := [(1, .int 1), (0, .ref h0)]) hx hb d_Mdl_next_1 rfl hl (by decide) rfl (fun ls hl => ?_)
  refine lv_iconst (v := 0) hx hb d_Mdl_next_2 (by decide) ?_
  refine lv_istore_n (lv' := [(2, .int 0), (1, .int 1), (0, .ref h0)]) hx hb d_Mdl_next_3 rfl hl (by decide) rfl (fun ls hl => ?_)
  refine lv_iload_n hx hb d_Mdl_next_4 rfl (lv_at hl 1 rfl) ?_
  refine lv_if_eq (tgt := 99) hx hb d_Mdl_next_5 (by decide) (fun c5 => absurd c5 (by decide)) (fun c5 => ?_)
  refine lv_aload_n hx hb d_Mdl_next_8 rfl (lv_at hl 2 rfl) ?_
  refine lv_iconst (v := 0) hx hb d_Mdl_next_9 (by decide) ?_
  have hP : va_P D vC ([(h0, .inr (16, [.int m0, .ref m1, .int 0, .ref m3, .ref m4, .ref m5, .ref m6, .ref m7, .ref m8, .ref m9, .ref m10, .ref m11, .int m12, .int m13, .int m14, .ref m15, .int m16, .int m17, .int m18, .int 0, .int m20, .int m21, .int m22, .int m23, .int m24, .int m25, .int m26, .long m27, .int m28, .int m29, .ref m30, .ref m31, .int m32, .int m33, .int m34, .int m35, .ref m36])), (m1, .inl (g 2, an, .inl af))] ++ ([] ++ ([] : va_W))) s.heap := hP
  have hD : va_D A ([(h0, .inr (16, [.int m0, .ref m1, .int 0, .ref m3, .ref m4, .ref m5, .ref m6, .ref m7, .ref m8, .ref m9, .ref m10, .ref m11, .int m12, .int m13, .int m14, .ref m15, .int m16, .int m17, .int m18, .int 0, .int m20, .int m21, .int m22, .int m23, .int m24, .int m25, .int m26, .long m27, .int m28, .int m29, .ref m30, .ref m31, .int m32, .int m33, .int m34, .int m35, .ref m36])), (m1, .inl (g 2, an, .inl af))] ++ ([] ++ ([] : va_W))) := hD
  have hFc := pm_free hD hS hA
  refine va_calli (va_runV (As := [.int 0]) (rest := []) ⟨hx, hb, hml, hown, hT⟩ (c_Mdl_peek l D g h0 m0 m1 0 m3 m4 m5 m6 m7 m8 m9 m10 m11 m12 m13 m14 m15 m16 m17 m18 0 m20 m21 m22 m23 m24 m25 m26 m27 m28 m29 m30 m31 m32 m33 m34 m35 m36 an af 0 (fun h => absurd h (by decide)) s.heap.size) (cwV 1 hT (gdV tw_2352 tw_2354 tw_78 tw_167 tw_2355) rfl rfl rfl (by decide +kernel) ⟨Nat.le_of_ble_eq_true rfl, Nat.le_of_ble_eq_true rfl⟩) (cp_V (C := "MatrixScriptsModel") (T := T_Mdl) (N := 37) (ci := 16) hP hK hD hN rfl) rfl rfl hl.1 rfl (lv_room (Nat.le_of_ble_eq_true rfl)) d_Mdl_next_10 ⟨Nat.le_of_ble_eq_true rfl, Nat.le_of_ble_eq_true rfl⟩) hS (fun q _ h => hFc q h) hFc (fun r10 u10 t H1 locs ht1 hvm hw hB hz1 hk1 hS => ?_)
  obtain ⟨hP1, hD1⟩ := hB
  rw [ht1] at hP1
  obtain ⟨hP, hD⟩ := pm_join hP hD hk1 hFc hP1 hD1
  generalize H1 = H at hP hS ⊢
  have hw10 := hw
  have hP : va_P D vC ([(h0, .inr (16, [.int m0, .ref m1, .int 0, .ref m3, .ref m4, .ref m5, .ref m6, .ref m7, .ref m8, .ref m9, .ref m10, .ref m11, .int m12, .int m13, .int m14, .ref m15, .int m16, .int m17, .int m18, .int 0, .int m20, .int m21, .int m22, .int m23, .int m24, .int m25, .int m26, .long m27, .int m28, .int m29, .ref m30, .ref m31, .int m32, .int m33, .int m34, .int m35, .ref m36])), (m1, .inl (g 2, an, .inl af))] ++ ([] : va_W)) H := hP
  have hD : va_D A ([(h0, .inr (16, [.int m0, .ref m1, .int 0, .ref m3, .ref m4, .ref m5, .ref m6, .ref m7, .ref m8, .ref m9, .ref m10, .ref m11, .int m12, .int m13, .int m14, .ref m15, .int m16, .int m17, .int m18, .int 0, .int m20, .int m21, .int m22, .int m23, .int m24, .int m25, .int m26, .long m27, .int m28, .int m29, .ref m30, .ref m31, .int m32, .int m33, .int m34, .int m35, .ref m36])), (m1, .inl (g 2, an, .inl af))] ++ ([] : va_W)) := hD
  obtain rfl : r10 = (-1) := hw.trans (if_neg (by decide))
  refine lv_istore_n (lv' := [(3, .int (-1)), (2, .int 0), (1, .int 1), (0, .ref h0)]) hx hb d_Mdl_next_13 rfl hl (by decide) rfl (fun ls hl => ?_)
  refine lv_iload_n hx hb d_Mdl_next_14 rfl (lv_at hl 1 rfl) ?_
  refine lv_if_eq (tgt := 36) hx hb d_Mdl_next_15 (by decide) (fun c15 => ?_) (fun c15 => absurd (by decide) c15)
  refine lv_iload_n hx hb d_Mdl_next_36 rfl (lv_at hl 0 rfl) ?_
  refine lv_bipush (v := 35) hx hb d_Mdl_next_37 (by decide) ?_
  refine lv_icmp_ne (tgt := 46) hx hb d_Mdl_next_39 (by decide) (fun c39 => ?_) (fun c39 => absurd c39 (by decide))
  refine lv_iconst (v := 0) hx hb d_Mdl_next_46 (by decide) ?_
  refine lv_istore_n (lv' := [(2, .int 0), (3, .int (-1)), (1, .int 1), (0, .ref h0)]) hx hb d_Mdl_next_47 rfl hl (by decide) rfl (fun ls hl => ?_)
  refine lv_iload_n hx hb d_Mdl_next_48 rfl (lv_at hl 0 rfl) ?_
  refine lv_if_ne (tgt := 76) hx hb d_Mdl_next_49 (by decide) (fun c49 => absurd (by decide) c49) (fun c49 => ?_)
  refine lv_iload_n hx hb d_Mdl_next_52 rfl (lv_at hl 1 rfl) ?_
  refine lv_bipush (v := 9) hx hb d_Mdl_next_53 (by decide) ?_
  refine lv_icmp_eq (tgt := 76) hx hb d_Mdl_next_55 (by decide) (fun c55 => absurd c55 (by decide)) (fun c55 => ?_)
  refine lv_iload_n hx hb d_Mdl_next_58 rfl (lv_at hl 1 rfl) ?_
  refine lv_bipush (v := 10) hx hb d_Mdl_next_59 (by decide) ?_
  refine lv_icmp_eq (tgt := 76) hx hb d_Mdl_next_61 (by decide) (fun c61 => absurd c61 (by decide)) (fun c61 => ?_)
  refine lv_iload_n hx hb d_Mdl_next_64 rfl (lv_at hl 1 rfl) ?_
  refine lv_bipush (v := 13) hx hb d_Mdl_next_65 (by decide) ?_
  refine lv_icmp_eq (tgt := 76) hx hb d_Mdl_next_67 (by decide) (fun c67 => absurd c67 (by decide)) (fun c67 => ?_)
  refine lv_iload_n hx hb d_Mdl_next_70 rfl (lv_at hl 1 rfl) ?_
  refine lv_bipush (v := 32) hx hb d_Mdl_next_71 (by decide) ?_
  refine lv_icmp_ne (tgt := 80) hx hb d_Mdl_next_73 (by decide) (fun c73 => ?_) (fun c73 => absurd c73 (by decide))
  refine lv_iconst (v := 0) hx hb d_Mdl_next_80 (by decide) ?_
  refine lv_istore_n (lv' := [(1, .int 0), (2, .int 0), (3, .int (-1)), (0, .ref h0)]) hx hb d_Mdl_next_81 rfl hl (by decide) rfl (fun ls hl => ?_)
  refine lv_iload_n hx hb d_Mdl_next_82 rfl (lv_at hl 0 rfl) ?_
  refine lv_if_eq (tgt := 96) hx hb d_Mdl_next_83 (by decide) (fun c83 => ?_) (fun c83 => absurd (by decide) c83)
  refine lv_goto (tgt := 4) hx hb d_Mdl_next_96 (by decide) ?_
  refine lv_iload_n hx hb d_Mdl_next_4 rfl (lv_at hl 0 rfl) ?_
  refine lv_if_eq (tgt := 99) hx hb d_Mdl_next_5 (by decide) (fun c5 => ?_) (fun c5 => absurd (by decide) c5)
  refine lv_aload_n hx hb d_Mdl_next_99 rfl (lv_at hl 3 rfl) ?_
  refine lv_aload_n hx hb d_Mdl_next_100 rfl (lv_at hl 3 rfl) ?_
  refine va_get (D := D) (ci := 16) (v := .int 0) (C := "MatrixScriptsModel") (T := T_Mdl) (N := 37) hx hb hT in_Mdl hown hK hP 0 rfl rfl 19 (by decide) (hT _ tw_2234) (fun _ h9 => h9) rfl d_Mdl_next_101 ?_
  refine va_put (D := D) (ci := 16) (v := .int 0) (ty := .int) (C := "MatrixScriptsModel") (T := T_Mdl) (N := 37) hx hb hT in_Mdl ty_Mdl ty_Mdl_ok nm_Mdl hown hK hP hD hS 0 rfl rfl 21 (by decide) (hT _ tw_2236) (fun _ h9 => h9) rfl (by decide +kernel) rfl rfl (Nat.le_of_ble_eq_true rfl) d_Mdl_next_104 (fun H locs hP hD hS => ?_)
  have hP : va_P D vC ([(h0, .inr (16, [.int m0, .ref m1, .int 0, .ref m3, .ref m4, .ref m5, .ref m6, .ref m7, .ref m8, .ref m9, .ref m10, .ref m11, .int m12, .int m13, .int m14, .ref m15, .int m16, .int m17, .int m18, .int 0, .int m20, .int 0, .int m22, .int m23, .int m24, .int m25, .int m26, .long m27, .int m28, .int m29, .ref m30, .ref m31, .int m32, .int m33, .int m34, .int m35, .ref m36])), (m1, .inl (g 2, an, .inl af))] ++ ([] : va_W)) H := hP
  have hD : va_D A ([(h0, .inr (16, [.int m0, .ref m1, .int 0, .ref m3, .ref m4, .ref m5, .ref m6, .ref m7, .ref m8, .ref m9, .ref m10, .ref m11, .int m12, .int m13, .int m14, .ref m15, .int m16, .int m17, .int m18, .int 0, .int m20, .int 0, .int m22, .int m23, .int m24, .int m25, .int m26, .long m27, .int m28, .int m29, .ref m30, .ref m31, .int m32, .int m33, .int m34, .int m35, .ref m36])), (m1, .inl (g 2, an, .inl af))] ++ ([] : va_W)) := hD
  refine lv_aload_n hx hb d_Mdl_next_107 rfl (lv_at hl 3 rfl) ?_
  refine lv_iconst (v := 0) hx hb d_Mdl_next_108 (by decide) ?_
  refine va_put (D := D) (ci := 16) (v := .int 0) (ty := .int) (C := "MatrixScriptsModel") (T := T_Mdl) (N := 37) hx hb hT in_Mdl ty_Mdl ty_Mdl_ok nm_Mdl hown hK hP hD hS 0 rfl rfl 22 (by decide) (hT _ tw_2237) (fun _ h9 => h9) rfl (by decide +kernel) rfl rfl (Nat.le_of_ble_eq_true rfl) d_Mdl_next_109 (fun H locs hP hD hS => ?_)
  have hP : va_P D vC ([(h0, .inr (16, [.int m0, .ref m1, .int 0, .ref m3, .ref m4, .ref m5, .ref m6, .ref m7, .ref m8, .ref m9, .ref m10, .ref m11, .int m12, .int m13, .int m14, .ref m15, .int m16, .int m17, .int m18, .int 0, .int m20, .int 0, .int 0, .int m23, .int m24, .int m25, .int m26, .long m27, .int m28, .int m29, .ref m30, .ref m31, .int m32, .int m33, .int m34, .int m35, .ref m36])), (m1, .inl (g 2, an, .inl af))] ++ ([] : va_W)) H := hP
  have hD : va_D A ([(h0, .inr (16, [.int m0, .ref m1, .int 0, .ref m3, .ref m4, .ref m5, .ref m6, .ref m7, .ref m8, .ref m9, .ref m10, .ref m11, .int m12, .int m13, .int m14, .ref m15, .int m16, .int m17, .int m18, .int 0, .int m20, .int 0, .int 0, .int m23, .int m24, .int m25, .int m26, .long m27, .int m28, .int m29, .ref m30, .ref m31, .int m32, .int m33, .int m34, .int m35, .ref m36])), (m1, .inl (g 2, an, .inl af))] ++ ([] : va_W)) := hD
  refine lv_aload_n hx hb d_Mdl_next_112 rfl (lv_at hl 3 rfl) ?_
  refine lv_iconst (v := 0) hx hb d_Mdl_next_113 (by decide) ?_
  have hP : va_P D vC ([(h0, .inr (16, [.int m0, .ref m1, .int 0, .ref m3, .ref m4, .ref m5, .ref m6, .ref m7, .ref m8, .ref m9, .ref m10, .ref m11, .int m12, .int m13, .int m14, .ref m15, .int m16, .int m17, .int m18, .int 0, .int m20, .int 0, .int 0, .int m23, .int m24, .int m25, .int m26, .long m27, .int m28, .int m29, .ref m30, .ref m31, .int m32, .int m33, .int m34, .int m35, .ref m36])), (m1, .inl (g 2, an, .inl af))] ++ ([] ++ ([] : va_W))) H := hP
  have hD : va_D A ([(h0, .inr (16, [.int m0, .ref m1, .int 0, .ref m3, .ref m4, .ref m5, .ref m6, .ref m7, .ref m8, .ref m9, .ref m10, .ref m11, .int m12, .int m13, .int m14, .ref m15, .int m16, .int m17, .int m18, .int 0, .int m20, .int 0, .int 0, .int m23, .int m24, .int m25, .int m26, .long m27, .int m28, .int m29, .ref m30, .ref m31, .int m32, .int m33, .int m34, .int m35, .ref m36])), (m1, .inl (g 2, an, .inl af))] ++ ([] ++ ([] : va_W))) := hD
  have hFc := pm_free hD hS hA
  refine va_calli (va_runV (As := [.int 0]) (rest := []) ⟨hx, hb, hml, hown, hT⟩ (c_Mdl_peek l D g h0 m0 m1 0 m3 m4 m5 m6 m7 m8 m9 m10 m11 m12 m13 m14 m15 m16 m17 m18 0 m20 0 0 m23 m24 m25 m26 m27 m28 m29 m30 m31 m32 m33 m34 m35 m36 an af 0 (fun h => absurd h (by decide)) H.size) (cwV 1 hT (gdV tw_2352 tw_2354 tw_78 tw_167 tw_2355) rfl rfl rfl (by decide +kernel) ⟨Nat.le_of_ble_eq_true rfl, Nat.le_of_ble_eq_true rfl⟩) (cp_V (C := "MatrixScriptsModel") (T := T_Mdl) (N := 37) (ci := 16) hP hK hD hN rfl) rfl rfl hl.1 rfl (lv_room (Nat.le_of_ble_eq_true rfl)) d_Mdl_next_114 ⟨Nat.le_of_ble_eq_true rfl, Nat.le_of_ble_eq_true rfl⟩) hS (fun q _ h => hFc q h) hFc (fun r114 u114 t H1 locs ht1 hvm hw hB hz1 hk1 hS => ?_)
  obtain ⟨hP1, hD1⟩ := hB
  rw [ht1] at hP1
  obtain ⟨hP, hD⟩ := pm_join hP hD hk1 hFc hP1 hD1
  generalize H1 = H at hP hS ⊢
  have hw114 := hw
  have hP : va_P D vC ([(h0, .inr (16, [.int m0, .ref m1, .int 0, .ref m3, .ref m4, .ref m5, .ref m6, .ref m7, .ref m8, .ref m9, .ref m10, .ref m11, .int m12, .int m13, .int m14, .ref m15, .int m16, .int m17, .int m18, .int 0, .int m20, .int 0, .int 0, .int m23, .int m24, .int m25, .int m26, .long m27, .int m28, .int m29, .ref m30, .ref m31, .int m32, .int m33, .int m34, .int m35, .ref m36])), (m1, .inl (g 2, an, .inl af))] ++ ([] : va_W)) H := hP
  have hD : va_D A ([(h0, .inr (16, [.int m0, .ref m1, .int 0, .ref m3, .ref m4, .ref m5, .ref m6, .ref m7, .ref m8, .ref m9, .ref m10, .ref m11, .int m12, .int m13, .int m14, .ref m15, .int m16, .int m17, .int m18, .int 0, .int m20, .int 0, .int 0, .int m23, .int m24, .int m25, .int m26, .long m27, .int m28, .int m29, .ref m30, .ref m31, .int m32, .int m33, .int m34, .int m35, .ref m36])), (m1, .inl (g 2, an, .inl af))] ++ ([] : va_W)) := hD
  obtain rfl : r114 = (-1) := hw.trans (if_neg (by decide))
  refine lv_istore_n (lv' := [(3, .int (-1)), (1, .int 0), (2, .int 0), (0, .ref h0)]) hx hb d_Mdl_next_117 rfl hl (by decide) rfl (fun ls hl => ?_)
  refine lv_iload_n hx hb d_Mdl_next_118 rfl (lv_at hl 0 rfl) ?_
  refine lv_if_ge (tgt := 128) hx hb d_Mdl_next_119 (by decide) (fun c119 => absurd c119 (by decide)) (fun c119 => ?_)
  refine lv_aload_n hx hb d_Mdl_next_122 rfl (lv_at hl 3 rfl) ?_
  refine lv_iconst (v := 0) hx hb d_Mdl_next_123 (by decide) ?_
  refine va_put (D := D) (ci := 16) (v := .int 0) (ty := .int) (C := "MatrixScriptsModel") (T := T_Mdl) (N := 37) hx hb hT in_Mdl ty_Mdl ty_Mdl_ok nm_Mdl hown hK hP hD hS 0 rfl rfl 20 (by decide) (hT _ tw_2235) (fun _ h9 => h9) rfl (by decide +kernel) rfl rfl (Nat.le_of_ble_eq_true rfl) d_Mdl_next_124 (fun H locs hP hD hS => ?_)
  have hP : va_P D vC ([(h0, .inr (16, [.int m0, .ref m1, .int 0, .ref m3, .ref m4, .ref m5, .ref m6, .ref m7, .ref m8, .ref m9, .ref m10, .ref m11, .int m12, .int m13, .int m14, .ref m15, .int m16, .int m17, .int m18, .int 0, .int 0, .int 0, .int 0, .int m23, .int m24, .int m25, .int m26, .long m27, .int m28, .int m29, .ref m30, .ref m31, .int m32, .int m33, .int m34, .int m35, .ref m36])), (m1, .inl (g 2, an, .inl af))] ++ ([] : va_W)) H := hP
  have hD : va_D A ([(h0, .inr (16, [.int m0, .ref m1, .int 0, .ref m3, .ref m4, .ref m5, .ref m6, .ref m7, .ref m8, .ref m9, .ref m10, .ref m11, .int m12, .int m13, .int m14, .ref m15, .int m16, .int m17, .int m18, .int 0, .int 0, .int 0, .int 0, .int m23, .int m24, .int m25, .int m26, .long m27, .int m28, .int m29, .ref m30, .ref m31, .int m32, .int m33, .int m34, .int m35, .ref m36])), (m1, .inl (g 2, an, .inl af))] ++ ([] : va_W)) := hD
  have hP9 := pm_subP (a' := [(h0, .inr (16, [.int m0, .ref m1, .int 0, .ref m3, .ref m4, .ref m5, .ref m6, .ref m7, .ref m8, .ref m9, .ref m10, .ref m11, .int m12, .int m13, .int m14, .ref m15, .int m16, .int m17, .int m18, .int 0, .int 0, .int 0, .int 0, .int m23, .int m24, .int m25, .int m26, .long m27, .int m28, .int m29, .ref m30, .ref m31, .int m32, .int m33, .int m34, .int m35, .ref m36])), (m1, .inl (g 2, an, .inl af))]) hP [0, 1] rfl
  have hD9 := pm_subD (a' := [(h0, .inr (16, [.int m0, .ref m1, .int 0, .ref m3, .ref m4, .ref m5, .ref m6, .ref m7, .ref m8, .ref m9, .ref m10, .ref m11, .int m12, .int m13, .int m14, .ref m15, .int m16, .int m17, .int m18, .int 0, .int 0, .int 0, .int 0, .int m23, .int m24, .int m25, .int m26, .long m27, .int m28, .int m29, .ref m30, .ref m31, .int m32, .int m33, .int m34, .int m35, .ref m36])), (m1, .inl (g 2, an, .inl af))]) hD [0, 1] (by decide) rfl
  refine W.widen (k := 0) (n := 0) (Nat.le_of_ble_eq_true rfl) (Nat.le_of_ble_eq_true rfl) ?_
  exact W.vret hx hb hr (fun t ht1 hW => ⟨⟨(), rfl, trivial, by rw [ht1]; exact hP9, hD9⟩, hS.F ht1⟩) hS.2.2 d_Mdl_next_127
def w_Mdl_statements : List Cond := .code ⟨"MatrixScriptsModel", "statements", "(Z)I"⟩ prog_17_method_60_code 3 (some .int) :: wd_all
theorem gd_Mdl_statements : GoodIn wd_all w_Mdl_statements := gd_of tw_2347
set_option maxHeartbeats 4000000 in
set_option maxRecDepth 100000 in
theorem c_Mdl_statements_e0 (l : Launch) (D : va_G) (g : Nat → ClassId) (h0 : Nat) (m0 : Int32) (m1 : Nat) (m3 : Nat) (m4 : Nat) (m5 : Nat) (m6 : Nat) (m7 : Nat) (m8 : Nat) (m9 : Nat) (m10 : Nat) (m11 : Nat) (m12 : Int32) (m13 : Int32) (m14 : Int32) (m15 : Nat) (m16 : Int32) (m17 : Int32) (m18 : Int32) (m19 : Int32) (m20 : Int32) (m21 : Int32) (m22 : Int32) (m23 : Int32) (m24 : Int32) (m25 : Int32) (m26 : Int32) (m27 : Int64) (m28 : Int32) (m29 : Int32) (m30 : Nat) (m31 : Nat) (m32 : Int32) (m33 : Int32) (m34 : Int32) (m35 : Int32) (m36 : Nat) (an : Nat) (af : Nat → Int32) (sz : Nat) : Met l ⟨"MatrixScriptsModel", "statements", "(Z)I"⟩ w_Mdl_statements { frames := 2, cells := 0, slots := 0, locals := 44 } (cp D g [.ref h0, .int 0] [(h0, .inr (16, [.int m0, .ref m1, .int 0, .ref m3, .ref m4, .ref m5, .ref m6, .ref m7, .ref m8, .ref m9, .ref m10, .ref m11, .int m12, .int m13, .int m14, .ref m15, .int m16, .int m17, .int m18, .int m19, .int m20, .int m21, .int m22, .int m23, .int m24, .int m25, .int m26, .long m27, .int m28, .int m29, .ref m30, .ref m31, .int m32, .int m33, .int m34, .int m35, .ref m36])), (m1, .inl (g 2, an, .inl af))] sz) (ci D (va_A [(h0, .inr (16, [.int m0, .ref m1, .int 0, .ref m3, .ref m4, .ref m5, .ref m6, .ref m7, .ref m8, .ref m9, .ref m10, .ref m11, .int m12, .int m13, .int m14, .ref m15, .int m16, .int m17, .int m18, .int m19, .int m20, .int m21, .int m22, .int m23, .int m24, .int m25, .int m26, .long m27, .int m28, .int m29, .ref m30, .ref m31, .int m32, .int m33, .int m34, .int m35, .ref m36])), (m1, .inl (g 2, an, .inl af))] sz) (fun r _ => r = 0) (fun u : Unit => [(h0, .inr (16, [.int m0, .ref m1, .int 0, .ref m3, .ref m4, .ref m5, .ref m6, .ref m7, .ref m8, .ref m9, .ref m10, .ref m11, .int m12, .int m13, .int m14, .ref m15, .int m16, .int m17, .int m18, .int 0, .int 0, .int 0, .int 0, .int 0, .int 0, .int m25, .int m26, .long m27, .int m28, .int m29, .ref m30, .ref m31, .int m32, .int m33, .int m34, .int m35, .ref m36])), (m1, .inl (g 2, an, .inl af))])) 0 0 (va_A [(h0, .inr (16, [.int m0, .ref m1, .int 0, .ref m3, .ref m4, .ref m5, .ref m6, .ref m7, .ref m8, .ref m9, .ref m10, .ref m11, .int m12, .int m13, .int m14, .ref m15, .int m16, .int m17, .int m18, .int m19, .int m20, .int m21, .int m22, .int m23, .int m24, .int m25, .int m26, .long m27, .int m28, .int m29, .ref m30, .ref m31, .int m32, .int m33, .int m34, .int m35, .ref m36])), (m1, .inl (g 2, an, .inl af))] sz) := by
  refine Met.ofW (cc := prog_17_method_60_code) (maxL := 3) (ret := (some .int)) (by decide) rfl ?_
  intro p e s m args below meth c s₁ B0 hml hv
  obtain ⟨rfl, hsz, hP, hK, hD0, hN⟩ := hv
  have hx := B0.exec
  have hb := B0.bytes
  have hr := B0.returns
  have hts := atoms_spec (ws := w_Mdl_statements) B0.pre
  have hT := fun (w : Cond) (h : w ∈ wd_all) => hts w (List.mem_cons_of_mem _ h)
  have hown : s.vm.findClass "MatrixScriptsModel" = some m.cls := findClass_of_methodNamed B0.named
  have hlocks := B0.notSynchronized
  subst hsz
  have hD := hD0.self (sz := s.heap.size)
  generalize hAe : va_A [(h0, .inr (16, [.int m0, .ref m1, .int 0, .ref m3, .ref m4, .ref m5, .ref m6, .ref m7, .ref m8, .ref m9, .ref m10, .ref m11, .int m12, .int m13, .int m14, .ref m15, .int m16, .int m17, .int m18, .int m19, .int m20, .int m21, .int m22, .int m23, .int m24, .int m25, .int m26, .long m27, .int m28, .int m29, .ref m30, .ref m31, .int m32, .int m33, .int m34, .int m35, .ref m36])), (m1, .inl (g 2, an, .inl af))] s.heap.size = A at hD ⊢
  have hA : ∀ q : Nat, s.heap.size ≤ q → A q := fun q h => by rw [← hAe]; exact Or.inr h
  have hS : va_S A s.heap s.heap [] := va_S.rf
  have hP : va_P D vC ([(h0, .inr (16, [.int m0, .ref m1, .int 0, .ref m3, .ref m4, .ref m5, .ref m6, .ref m7, .ref m8, .ref m9, .ref m10, .ref m11, .int m12, .int m13, .int m14, .ref m15, .int m16, .int m17, .int m18, .int m19, .int m20, .int m21, .int m22, .int m23, .int m24, .int m25, .int m26, .long m27, .int m28, .int m29, .ref m30, .ref m31, .int m32, .int m33, .int m34, .int m35, .ref m36])), (m1, .inl (g 2, an, .inl af))] ++ ([] : va_W)) s.heap := hP
  have hD : va_D A ([(h0, .inr (16, [.int m0, .ref m1, .int 0, .ref m3, .ref m4, .ref m5, .ref m6, .ref m7, .ref m8, .ref m9, .ref m10, .ref m11, .int m12, .int m13, .int m14, .ref m15, .int m16, .int m17, .int m18, .int m19, .int m20, .int m21, .int m22, .int m23, .int m24, .int m25, .int m26, .long m27, .int m28, .int m29, .ref m30, .ref m31, .int m32, .int m33, .int m34, .int m35, .ref m36])), (m1, .inl (g 2, an, .inl af))] ++ ([] : va_W)) := hD
  have hl := lv_entry ([.ref h0, .int 0]) (n := 3) (Nat.le_of_ble_eq_true rfl)
  rw [lg_entry_eq]
  generalize (lg_sl ([.ref h0, .int 0]) ++ List.replicate (3 - (lg_sl ([.ref h0, .int 0])).length) Slot.unset).toArray = ls at hl ⊢
  have hl : lv_has ls 3 [(0, .ref h0), (1, .int 0)] := hl
  refine lv_aload_n hx hb d_Mdl_statements_0 rfl (lv_at hl 0 rfl) ?_
  refine lv_iload_n hx hb d_Mdl_statements_1 rfl (lv_at hl 1 rfl) ?_
  refine va_put (D := D) (ci := 16) (v := .int 0) (ty := .boolean) (C := "MatrixScriptsModel") (T := T_Mdl) (N := 37) hx hb hT in_Mdl ty_Mdl ty_Mdl_ok nm_Mdl hown hK hP hD hS 0 rfl rfl 24 (by decide) (hT _ tw_2239) (fun _ h9 => h9) rfl (by decide +kernel) rfl rfl (Nat.le_of_ble_eq_true rfl) d_Mdl_statements_2 (fun H locs hP hD hS => ?_)
  have hP : va_P D vC ([(h0, .inr (16, [.int m0, .ref m1, .int 0, .ref m3, .ref m4, .ref m5, .ref m6, .ref m7, .ref m8, .ref m9, .ref m10, .ref m11, .int m12, .int m13, .int m14, .ref m15, .int m16, .int m17, .int m18, .int m19, .int m20, .int m21, .int m22, .int m23, .int 0, .int m25, .int m26, .long m27, .int m28, .int m29, .ref m30, .ref m31, .int m32, .int m33, .int m34, .int m35, .ref m36])), (m1, .inl (g 2, an, .inl af))] ++ ([] : va_W)) H := hP
  have hD : va_D A ([(h0, .inr (16, [.int m0, .ref m1, .int 0, .ref m3, .ref m4, .ref m5, .ref m6, .ref m7, .ref m8, .ref m9, .ref m10, .ref m11, .int m12, .int m13, .int m14, .ref m15, .int m16, .int m17, .int m18, .int m19, .int m20, .int m21, .int m22, .int m23, .int 0, .int m25, .int m26, .long m27, .int m28, .int m29, .ref m30, .ref m31, .int m32, .int m33, .int m34, .int m35, .ref m36])), (m1, .inl (g 2, an, .inl af))] ++ ([] : va_W)) := hD
  refine lv_aload_n hx hb d_Mdl_statements_5 rfl (lv_at hl 0 rfl) ?_
  refine lv_iconst (v := 0) hx hb d_Mdl_statements_6 (by decide) ?_
  refine va_put (D := D) (ci := 16) (v := .int 0) (ty := .int) (C := "MatrixScriptsModel") (T := T_Mdl) (N := 37) hx hb hT in_Mdl ty_Mdl ty_Mdl_ok nm_Mdl hown hK hP hD hS 0 rfl rfl 19 (by decide) (hT _ tw_2234) (fun _ h9 => h9) rfl (by decide +kernel) rfl rfl (Nat.le_of_ble_eq_true rfl) d_Mdl_statements_7 (fun H locs hP hD hS => ?_)
  have hP : va_P D vC ([(h0, .inr (16, [.int m0, .ref m1, .int 0, .ref m3, .ref m4, .ref m5, .ref m6, .ref m7, .ref m8, .ref m9, .ref m10, .ref m11, .int m12, .int m13, .int m14, .ref m15, .int m16, .int m17, .int m18, .int 0, .int m20, .int m21, .int m22, .int m23, .int 0, .int m25, .int m26, .long m27, .int m28, .int m29, .ref m30, .ref m31, .int m32, .int m33, .int m34, .int m35, .ref m36])), (m1, .inl (g 2, an, .inl af))] ++ ([] : va_W)) H := hP
  have hD : va_D A ([(h0, .inr (16, [.int m0, .ref m1, .int 0, .ref m3, .ref m4, .ref m5, .ref m6, .ref m7, .ref m8, .ref m9, .ref m10, .ref m11, .int m12, .int m13, .int m14, .ref m15, .int m16, .int m17, .int m18, .int 0, .int m20, .int m21, .int m22, .int m23, .int 0, .int m25, .int m26, .long m27, .int m28, .int m29, .ref m30, .ref m31, .int m32, .int m33, .int m34, .int m35, .ref m36])), (m1, .inl (g 2, an, .inl af))] ++ ([] : va_W)) := hD
  refine lv_aload_n hx hb d_Mdl_statements_10 rfl (lv_at hl 0 rfl) ?_
  refine lv_iconst (v := 0) hx hb d_Mdl_statements_11 (by decide) ?_
  refine va_put (D := D) (ci := 16) (v := .int 0) (ty := .int) (C := "MatrixScriptsModel") (T := T_Mdl) (N := 37) hx hb hT in_Mdl ty_Mdl ty_Mdl_ok nm_Mdl hown hK hP hD hS 0 rfl rfl 23 (by decide) (hT _ tw_2238) (fun _ h9 => h9) rfl (by decide +kernel) rfl rfl (Nat.le_of_ble_eq_true rfl) d_Mdl_statements_12 (fun H locs hP hD hS => ?_)
  have hP : va_P D vC ([(h0, .inr (16, [.int m0, .ref m1, .int 0, .ref m3, .ref m4, .ref m5, .ref m6, .ref m7, .ref m8, .ref m9, .ref m10, .ref m11, .int m12, .int m13, .int m14, .ref m15, .int m16, .int m17, .int m18, .int 0, .int m20, .int m21, .int m22, .int 0, .int 0, .int m25, .int m26, .long m27, .int m28, .int m29, .ref m30, .ref m31, .int m32, .int m33, .int m34, .int m35, .ref m36])), (m1, .inl (g 2, an, .inl af))] ++ ([] : va_W)) H := hP
  have hD : va_D A ([(h0, .inr (16, [.int m0, .ref m1, .int 0, .ref m3, .ref m4, .ref m5, .ref m6, .ref m7, .ref m8, .ref m9, .ref m10, .ref m11, .int m12, .int m13, .int m14, .ref m15, .int m16, .int m17, .int m18, .int 0, .int m20, .int m21, .int m22, .int 0, .int 0, .int m25, .int m26, .long m27, .int m28, .int m29, .ref m30, .ref m31, .int m32, .int m33, .int m34, .int m35, .ref m36])), (m1, .inl (g 2, an, .inl af))] ++ ([] : va_W)) := hD
  refine lv_aload_n hx hb d_Mdl_statements_15 rfl (lv_at hl 0 rfl) ?_
  have hP : va_P D vC ([(h0, .inr (16, [.int m0, .ref m1, .int 0, .ref m3, .ref m4, .ref m5, .ref m6, .ref m7, .ref m8, .ref m9, .ref m10, .ref m11, .int m12, .int m13, .int m14, .ref m15, .int m16, .int m17, .int m18, .int 0, .int m20, .int m21, .int m22, .int 0, .int 0, .int m25, .int m26, .long m27, .int m28, .int m29, .ref m30, .ref m31, .int m32, .int m33, .int m34, .int m35, .ref m36])), (m1, .inl (g 2, an, .inl af))] ++ ([] ++ ([] : va_W))) H := hP
  have hD : va_D A ([(h0, .inr (16, [.int m0, .ref m1, .int 0, .ref m3, .ref m4, .ref m5, .ref m6, .ref m7, .ref m8, .ref m9, .ref m10, .ref m11, .int m12, .int m13, .int m14, .ref m15, .int m16, .int m17, .int m18, .int 0, .int m20, .int m21, .int m22, .int 0, .int 0, .int m25, .int m26, .long m27, .int m28, .int m29, .ref m30, .ref m31, .int m32, .int m33, .int m34, .int m35, .ref m36])), (m1, .inl (g 2, an, .inl af))] ++ ([] ++ ([] : va_W))) := hD
  have hFc := pm_free hD hS hA
  refine va_callv (va_runV (As := []) (rest := []) ⟨hx, hb, hml, hown, hT⟩ (c_Mdl_next_e l D g h0 m0 m1 m3 m4 m5 m6 m7 m8 m9 m10 m11 m12 m13 m14 m15 m16 m17 m18 m20 m21 m22 0 0 m25 m26 m27 m28 m29 m30 m31 m32 m33 m34 m35 m36 an af H.size) (cwV 0 hT (gdV tw_2348 tw_2350 tw_77 tw_167 tw_2351) rfl rfl rfl (by decide +kernel) ⟨Nat.le_of_ble_eq_true rfl, Nat.le_of_ble_eq_true rfl⟩) (cp_V (C := "MatrixScriptsModel") (T := T_Mdl) (N := 37) (ci := 16) hP hK hD hN rfl) rfl rfl hl.1 rfl (lv_room (Nat.le_of_ble_eq_true rfl)) d_Mdl_statements_16 ⟨Nat.le_of_ble_eq_true rfl, Nat.le_of_ble_eq_true rfl⟩) hS (fun q _ h => hFc q h) hFc (fun u16 t H1 locs ht1 hvm hw hB hz1 hk1 hS => ?_)
  obtain ⟨hP1, hD1⟩ := hB
  rw [ht1] at hP1
  obtain ⟨hP, hD⟩ := pm_join hP hD hk1 hFc hP1 hD1
  generalize H1 = H at hP hS ⊢
  have hw16 := hw
  have hP : va_P D vC ([(h0, .inr (16, [.int m0, .ref m1, .int 0, .ref m3, .ref m4, .ref m5, .ref m6, .ref m7, .ref m8, .ref m9, .ref m10, .ref m11, .int m12, .int m13, .int m14, .ref m15, .int m16, .int m17, .int m18, .int 0, .int 0, .int 0, .int 0, .int 0, .int 0, .int m25, .int m26, .long m27, .int m28, .int m29, .ref m30, .ref m31, .int m32, .int m33, .int m34, .int m35, .ref m36])), (m1, .inl (g 2, an, .inl af))] ++ ([] : va_W)) H := hP
  have hD : va_D A ([(h0, .inr (16, [.int m0, .ref m1, .int 0, .ref m3, .ref m4, .ref m5, .ref m6, .ref m7, .ref m8, .ref m9, .ref m10, .ref m11, .int m12, .int m13, .int m14, .ref m15, .int m16, .int m17, .int m18, .int 0, .int 0, .int 0, .int 0, .int 0, .int 0, .int m25, .int m26, .long m27, .int m28, .int m29, .ref m30, .ref m31, .int m32, .int m33, .int m34, .int m35, .ref m36])), (m1, .inl (g 2, an, .inl af))] ++ ([] : va_W)) := hD
  refine lv_iconst (v := 0) hx hb d_Mdl_statements_19 (by decide) ?_
  refine lv_istore_n (lv' := [(2, .int 0), (0, .ref h0), (1, .int 0)]) hx hb d_Mdl_statements_20 rfl hl (by decide) rfl (fun ls hl => ?_)
  refine lv_aload_n hx hb d_Mdl_statements_21 rfl (lv_at hl 1 rfl) ?_
  refine va_get (D := D) (ci := 16) (v := .int 0) (C := "MatrixScriptsModel") (T := T_Mdl) (N := 37) hx hb hT in_Mdl hown hK hP 0 rfl rfl 20 (by decide) (hT _ tw_2235) (fun _ h9 => h9) rfl d_Mdl_statements_22 ?_
  refine lv_if_eq (tgt := 52) hx hb d_Mdl_statements_25 (by decide) (fun c25 => ?_) (fun c25 => absurd (by decide) c25)
  refine lv_iload_n hx hb d_Mdl_statements_52 rfl (lv_at hl 0 rfl) ?_
  have hP9 := pm_subP (a' := [(h0, .inr (16, [.int m0, .ref m1, .int 0, .ref m3, .ref m4, .ref m5, .ref m6, .ref m7, .ref m8, .ref m9, .ref m10, .ref m11, .int m12, .int m13, .int m14, .ref m15, .int m16, .int m17, .int m18, .int 0, .int 0, .int 0, .int 0, .int 0, .int 0, .int m25, .int m26, .long m27, .int m28, .int m29, .ref m30, .ref m31, .int m32, .int m33, .int m34, .int m35, .ref m36])), (m1, .inl (g 2, an, .inl af))]) hP [0, 1] rfl
  have hD9 := pm_subD (a' := [(h0, .inr (16, [.int m0, .ref m1, .int 0, .ref m3, .ref m4, .ref m5, .ref m6, .ref m7, .ref m8, .ref m9, .ref m10, .ref m11, .int m12, .int m13, .int m14, .ref m15, .int m16, .int m17, .int m18, .int 0, .int 0, .int 0, .int 0, .int 0, .int 0, .int m25, .int m26, .long m27, .int m28, .int m29, .ref m30, .ref m31, .int m32, .int m33, .int m34, .int m35, .ref m36])), (m1, .inl (g 2, an, .inl af))]) hD [0, 1] (by decide) rfl
  refine W.widen (k := 0) (n := 0) (Nat.le_of_ble_eq_true rfl) (Nat.le_of_ble_eq_true rfl) ?_
  exact W.iret (v := 0) hx hb hr (fun t ht1 hW => ⟨⟨_, (), rfl, rfl, by rw [ht1]; exact hP9, hD9⟩, hS.F ht1⟩) hS.2.2 d_Mdl_statements_53
set_option maxHeartbeats 4000000 in
set_option maxRecDepth 100000 in
theorem c_Mdl_statements_e1 (l : Launch) (D : va_G) (g : Nat → ClassId) (h0 : Nat) (m0 : Int32) (m1 : Nat) (m3 : Nat) (m4 : Nat) (m5 : Nat) (m6 : Nat) (m7 : Nat) (m8 : Nat) (m9 : Nat) (m10 : Nat) (m11 : Nat) (m12 : Int32) (m13 : Int32) (m14 : Int32) (m15 : Nat) (m16 : Int32) (m17 : Int32) (m18 : Int32) (m19 : Int32) (m20 : Int32) (m21 : Int32) (m22 : Int32) (m23 : Int32) (m24 : Int32) (m25 : Int32) (m26 : Int32) (m27 : Int64) (m28 : Int32) (m29 : Int32) (m30 : Nat) (m31 : Nat) (m32 : Int32) (m33 : Int32) (m34 : Int32) (m35 : Int32) (m36 : Nat) (an : Nat) (af : Nat → Int32) (sz : Nat) : Met l ⟨"MatrixScriptsModel", "statements", "(Z)I"⟩ w_Mdl_statements { frames := 2, cells := 0, slots := 0, locals := 44 } (cp D g [.ref h0, .int 1] [(h0, .inr (16, [.int m0, .ref m1, .int 0, .ref m3, .ref m4, .ref m5, .ref m6, .ref m7, .ref m8, .ref m9, .ref m10, .ref m11, .int m12, .int m13, .int m14, .ref m15, .int m16, .int m17, .int m18, .int m19, .int m20, .int m21, .int m22, .int m23, .int m24, .int m25, .int m26, .long m27, .int m28, .int m29, .ref m30, .ref m31, .int m32, .int m33, .int m34, .int m35, .ref m36])), (m1, .inl (g 2, an, .inl af))] sz) (ci D (va_A [(h0, .inr (16, [.int m0, .ref m1, .int 0, .ref m3, .ref m4, .ref m5, .ref m6, .ref m7, .ref m8, .ref m9, .ref m10, .ref m11, .int m12, .int m13, .int m14, .ref m15, .int m16, .int m17, .int m18, .int m19, .int m20, .int m21, .int m22, .int m23, .int m24, .int m25, .int m26, .long m27, .int m28, .int m29, .ref m30, .ref m31, .int m32, .int m33, .int m34, .int m35, .ref m36])), (m1, .inl (g 2, an, .inl af))] sz) (fun r _ => r = 0) (fun u : Unit => [(h0, .inr (16, [.int m0, .ref m1, .int 0, .ref m3, .ref m4, .ref m5, .ref m6, .ref m7, .ref m8, .ref m9, .ref m10, .ref m11, .int m12, .int m13, .int m14, .ref m15, .int m16, .int m17, .int m18, .int 0, .int 0, .int 0, .int 0, .int 0, .int 1, .int m25, .int m26, .long m27, .int m28, .int m29, .ref m30, .ref m31, .int m32, .int m33, .int m34, .int m35, .ref m36])), (m1, .inl (g 2, an, .inl af))])) 0 0 (va_A [(h0, .inr (16, [.int m0, .ref m1, .int 0, .ref m3, .ref m4, .ref m5, .ref m6, .ref m7, .ref m8, .ref m9, .ref m10, .ref m11, .int m12, .int m13, .int m14, .ref m15, .int m16, .int m17, .int m18, .int m19, .int m20, .int m21, .int m22, .int m23, .int m24, .int m25, .int m26, .long m27, .int m28, .int m29, .ref m30, .ref m31, .int m32, .int m33, .int m34, .int m35, .ref m36])), (m1, .inl (g 2, an, .inl af))] sz) := by
  refine Met.ofW (cc := prog_17_method_60_code) (maxL := 3) (ret := (some .int)) (by decide) rfl ?_
  intro p e s m args below meth c s₁ B0 hml hv
  obtain ⟨rfl, hsz, hP, hK, hD0, hN⟩ := hv
  have hx := B0.exec
  have hb := B0.bytes
  have hr := B0.returns
  have hts := atoms_spec (ws := w_Mdl_statements) B0.pre
  have hT := fun (w : Cond) (h : w ∈ wd_all) => hts w (List.mem_cons_of_mem _ h)
  have hown : s.vm.findClass "MatrixScriptsModel" = some m.cls := findClass_of_methodNamed B0.named
  have hlocks := B0.notSynchronized
  subst hsz
  have hD := hD0.self (sz := s.heap.size)
  generalize hAe : va_A [(h0, .inr (16, [.int m0, .ref m1, .int 0, .ref m3, .ref m4, .ref m5, .ref m6, .ref m7, .ref m8, .ref m9, .ref m10, .ref m11, .int m12, .int m13, .int m14, .ref m15, .int m16, .int m17, .int m18, .int m19, .int m20, .int m21, .int m22, .int m23, .int m24, .int m25, .int m26, .long m27, .int m28, .int m29, .ref m30, .ref m31, .int m32, .int m33, .int m34, .int m35, .ref m36])), (m1, .inl (g 2, an, .inl af))] s.heap.size = A at hD ⊢
  have hA : ∀ q : Nat, s.heap.size ≤ q → A q := fun q h => by rw [← hAe]; exact Or.inr h
  have hS : va_S A s.heap s.heap [] := va_S.rf
  have hP : va_P D vC ([(h0, .inr (16, [.int m0, .ref m1, .int 0, .ref m3, .ref m4, .ref m5, .ref m6, .ref m7, .ref m8, .ref m9, .ref m10, .ref m11, .int m12, .int m13, .int m14, .ref m15, .int m16, .int m17, .int m18, .int m19, .int m20, .int m21, .int m22, .int m23, .int m24, .int m25, .int m26, .long m27, .int m28, .int m29, .ref m30, .ref m31, .int m32, .int m33, .int m34, .int m35, .ref m36])), (m1, .inl (g 2, an, .inl af))] ++ ([] : va_W)) s.heap := hP
  have hD : va_D A ([(h0, .inr (16, [.int m0, .ref m1, .int 0, .ref m3, .ref m4, .ref m5, .ref m6, .ref m7, .ref m8, .ref m9, .ref m10, .ref m11, .int m12, .int m13, .int m14, .ref m15, .int m16, .int m17, .int m18, .int m19, .int m20, .int m21, .int m22, .int m23, .int m24, .int m25, .int m26, .long m27, .int m28, .int m29, .ref m30, .ref m31, .int m32, .int m33, .int m34, .int m35, .ref m36])), (m1, .inl (g 2, an, .inl af))] ++ ([] : va_W)) := hD
  have hl := lv_entry ([.ref h0, .int 1]) (n := 3) (Nat.le_of_ble_eq_true rfl)
  rw [lg_entry_eq]
  generalize (lg_sl ([.ref h0, .int 1]) ++ List.replicate (3 - (lg_sl ([.ref h0, .int 1])).length) Slot.unset).toArray = ls at hl ⊢
  have hl : lv_has ls 3 [(0, .ref h0), (1, .int 1)] := hl
  refine lv_aload_n hx hb d_Mdl_statements_0 rfl (lv_at hl 0 rfl) ?_
  refine lv_iload_n hx hb d_Mdl_statements_1 rfl (lv_at hl 1 rfl) ?_
  refine va_put (D := D) (ci := 16) (v := .int 1) (ty := .boolean) (C := "MatrixScriptsModel") (T := T_Mdl) (N := 37) hx hb hT in_Mdl ty_Mdl ty_Mdl_ok nm_Mdl hown hK hP hD hS 0 rfl rfl 24 (by decide) (hT _ tw_2239) (fun _ h9 => h9) rfl (by decide +kernel) rfl rfl (Nat.le_of_ble_eq_true rfl) d_Mdl_statements_2 (fun H locs hP hD hS => ?_)
  have hP : va_P D vC ([(h0, .inr (16, [.int m0, .ref m1, .int 0, .ref m3, .ref m4, .ref m5, .ref m6, .ref m7, .ref m8, .ref m9, .ref m10, .ref m11, .int m12, .int m13, .int m14, .ref m15, .int m16, .int m17, .int m18, .int m19, .int m20, .int m21, .int m22, .int m23, .int 1, .int m25, .int m26, .long m27, .int m28, .int m29, .ref m30, .ref m31, .int m32, .int m33, .int m34, .int m35, .ref m36])), (m1, .inl (g 2, an, .inl af))] ++ ([] : va_W)) H := hP
  have hD : va_D A ([(h0, .inr (16, [.int m0, .ref m1, .int 0, .ref m3, .ref m4, .ref m5, .ref m6, .ref m7, .ref m8, .ref m9, .ref m10, .ref m11, .int m12, .int m13, .int m14, .ref m15, .int m16, .int m17, .int m18, .int m19, .int m20, .int m21, .int m22, .int m23, .int 1, .int m25, .int m26, .long m27, .int m28, .int m29, .ref m30, .ref m31, .int m32, .int m33, .int m34, .int m35, .ref m36])), (m1, .inl (g 2, an, .inl af))] ++ ([] : va_W)) := hD
  refine lv_aload_n hx hb d_Mdl_statements_5 rfl (lv_at hl 0 rfl) ?_
  refine lv_iconst (v := 0) hx hb d_Mdl_statements_6 (by decide) ?_
  refine va_put (D := D) (ci := 16) (v := .int 0) (ty := .int) (C := "MatrixScriptsModel") (T := T_Mdl) (N := 37) hx hb hT in_Mdl ty_Mdl ty_Mdl_ok nm_Mdl hown hK hP hD hS 0 rfl rfl 19 (by decide) (hT _ tw_2234) (fun _ h9 => h9) rfl (by decide +kernel) rfl rfl (Nat.le_of_ble_eq_true rfl) d_Mdl_statements_7 (fun H locs hP hD hS => ?_)
  have hP : va_P D vC ([(h0, .inr (16, [.int m0, .ref m1, .int 0, .ref m3, .ref m4, .ref m5, .ref m6, .ref m7, .ref m8, .ref m9, .ref m10, .ref m11, .int m12, .int m13, .int m14, .ref m15, .int m16, .int m17, .int m18, .int 0, .int m20, .int m21, .int m22, .int m23, .int 1, .int m25, .int m26, .long m27, .int m28, .int m29, .ref m30, .ref m31, .int m32, .int m33, .int m34, .int m35, .ref m36])), (m1, .inl (g 2, an, .inl af))] ++ ([] : va_W)) H := hP
  have hD : va_D A ([(h0, .inr (16, [.int m0, .ref m1, .int 0, .ref m3, .ref m4, .ref m5, .ref m6, .ref m7, .ref m8, .ref m9, .ref m10, .ref m11, .int m12, .int m13, .int m14, .ref m15, .int m16, .int m17, .int m18, .int 0, .int m20, .int m21, .int m22, .int m23, .int 1, .int m25, .int m26, .long m27, .int m28, .int m29, .ref m30, .ref m31, .int m32, .int m33, .int m34, .int m35, .ref m36])), (m1, .inl (g 2, an, .inl af))] ++ ([] : va_W)) := hD
  refine lv_aload_n hx hb d_Mdl_statements_10 rfl (lv_at hl 0 rfl) ?_
  refine lv_iconst (v := 0) hx hb d_Mdl_statements_11 (by decide) ?_
  refine va_put (D := D) (ci := 16) (v := .int 0) (ty := .int) (C := "MatrixScriptsModel") (T := T_Mdl) (N := 37) hx hb hT in_Mdl ty_Mdl ty_Mdl_ok nm_Mdl hown hK hP hD hS 0 rfl rfl 23 (by decide) (hT _ tw_2238) (fun _ h9 => h9) rfl (by decide +kernel) rfl rfl (Nat.le_of_ble_eq_true rfl) d_Mdl_statements_12 (fun H locs hP hD hS => ?_)
  have hP : va_P D vC ([(h0, .inr (16, [.int m0, .ref m1, .int 0, .ref m3, .ref m4, .ref m5, .ref m6, .ref m7, .ref m8, .ref m9, .ref m10, .ref m11, .int m12, .int m13, .int m14, .ref m15, .int m16, .int m17, .int m18, .int 0, .int m20, .int m21, .int m22, .int 0, .int 1, .int m25, .int m26, .long m27, .int m28, .int m29, .ref m30, .ref m31, .int m32, .int m33, .int m34, .int m35, .ref m36])), (m1, .inl (g 2, an, .inl af))] ++ ([] : va_W)) H := hP
  have hD : va_D A ([(h0, .inr (16, [.int m0, .ref m1, .int 0, .ref m3, .ref m4, .ref m5, .ref m6, .ref m7, .ref m8, .ref m9, .ref m10, .ref m11, .int m12, .int m13, .int m14, .ref m15, .int m16, .int m17, .int m18, .int 0, .int m20, .int m21, .int m22, .int 0, .int 1, .int m25, .int m26, .long m27, .int m28, .int m29, .ref m30, .ref m31, .int m32, .int m33, .int m34, .int m35, .ref m36])), (m1, .inl (g 2, an, .inl af))] ++ ([] : va_W)) := hD
  refine lv_aload_n hx hb d_Mdl_statements_15 rfl (lv_at hl 0 rfl) ?_
  have hP : va_P D vC ([(h0, .inr (16, [.int m0, .ref m1, .int 0, .ref m3, .ref m4, .ref m5, .ref m6, .ref m7, .ref m8, .ref m9, .ref m10, .ref m11, .int m12, .int m13, .int m14, .ref m15, .int m16, .int m17, .int m18, .int 0, .int m20, .int m21, .int m22, .int 0, .int 1, .int m25, .int m26, .long m27, .int m28, .int m29, .ref m30, .ref m31, .int m32, .int m33, .int m34, .int m35, .ref m36])), (m1, .inl (g 2, an, .inl af))] ++ ([] ++ ([] : va_W))) H := hP
  have hD : va_D A ([(h0, .inr (16, [.int m0, .ref m1, .int 0, .ref m3, .ref m4, .ref m5, .ref m6, .ref m7, .ref m8, .ref m9, .ref m10, .ref m11, .int m12, .int m13, .int m14, .ref m15, .int m16, .int m17, .int m18, .int 0, .int m20, .int m21, .int m22, .int 0, .int 1, .int m25, .int m26, .long m27, .int m28, .int m29, .ref m30, .ref m31, .int m32, .int m33, .int m34, .int m35, .ref m36])), (m1, .inl (g 2, an, .inl af))] ++ ([] ++ ([] : va_W))) := hD
  have hFc := pm_free hD hS hA
  refine va_callv (va_runV (As := []) (rest := []) ⟨hx, hb, hml, hown, hT⟩ (c_Mdl_next_e l D g h0 m0 m1 m3 m4 m5 m6 m7 m8 m9 m10 m11 m12 m13 m14 m15 m16 m17 m18 m20 m21 m22 0 1 m25 m26 m27 m28 m29 m30 m31 m32 m33 m34 m35 m36 an af H.size) (cwV 0 hT (gdV tw_2348 tw_2350 tw_77 tw_167 tw_2351) rfl rfl rfl (by decide +kernel) ⟨Nat.le_of_ble_eq_true rfl, Nat.le_of_ble_eq_true rfl⟩) (cp_V (C := "MatrixScriptsModel") (T := T_Mdl) (N := 37) (ci := 16) hP hK hD hN rfl) rfl rfl hl.1 rfl (lv_room (Nat.le_of_ble_eq_true rfl)) d_Mdl_statements_16 ⟨Nat.le_of_ble_eq_true rfl, Nat.le_of_ble_eq_true rfl⟩) hS (fun q _ h => hFc q h) hFc (fun u16 t H1 locs ht1 hvm hw hB hz1 hk1 hS => ?_)
  obtain ⟨hP1, hD1⟩ := hB
  rw [ht1] at hP1
  obtain ⟨hP, hD⟩ := pm_join hP hD hk1 hFc hP1 hD1
  generalize H1 = H at hP hS ⊢
  have hw16 := hw
  have hP : va_P D vC ([(h0, .inr (16, [.int m0, .ref m1, .int 0, .ref m3, .ref m4, .ref m5, .ref m6, .ref m7, .ref m8, .ref m9, .ref m10, .ref m11, .int m12, .int m13, .int m14, .ref m15, .int m16, .int m17, .int m18, .int 0, .int 0, .int 0, .int 0, .int 0, .int 1, .int m25, .int m26, .long m27, .int m28, .int m29, .ref m30, .ref m31, .int m32, .int m33, .int m34, .int m35, .ref m36])), (m1, .inl (g 2, an, .inl af))] ++ ([] : va_W)) H := hP
  have hD : va_D A ([(h0, .inr (16, [.int m0, .ref m1, .int 0, .ref m3, .ref m4, .ref m5, .ref m6, .ref m7, .ref m8, .ref m9, .ref m10, .ref m11, .int m12, .int m13, .int m14, .ref m15, .int m16, .int m17, .int m18, .int 0, .int 0, .int 0, .int 0, .int 0, .int 1, .int m25, .int m26, .long m27, .int m28, .int m29, .ref m30, .ref m31, .int m32, .int m33, .int m34, .int m35, .ref m36])), (m1, .inl (g 2, an, .inl af))] ++ ([] : va_W)) := hD
  refine lv_iconst (v := 0) hx hb d_Mdl_statements_19 (by decide) ?_
  refine lv_istore_n (lv' := [(2, .int 0), (0, .ref h0), (1, .int 1)]) hx hb d_Mdl_statements_20 rfl hl (by decide) rfl (fun ls hl => ?_)
  refine lv_aload_n hx hb d_Mdl_statements_21 rfl (lv_at hl 1 rfl) ?_
  refine va_get (D := D) (ci := 16) (v := .int 0) (C := "MatrixScriptsModel") (T := T_Mdl) (N := 37) hx hb hT in_Mdl hown hK hP 0 rfl rfl 20 (by decide) (hT _ tw_2235) (fun _ h9 => h9) rfl d_Mdl_statements_22 ?_
  refine lv_if_eq (tgt := 52) hx hb d_Mdl_statements_25 (by decide) (fun c25 => ?_) (fun c25 => absurd (by decide) c25)
  refine lv_iload_n hx hb d_Mdl_statements_52 rfl (lv_at hl 0 rfl) ?_
  have hP9 := pm_subP (a' := [(h0, .inr (16, [.int m0, .ref m1, .int 0, .ref m3, .ref m4, .ref m5, .ref m6, .ref m7, .ref m8, .ref m9, .ref m10, .ref m11, .int m12, .int m13, .int m14, .ref m15, .int m16, .int m17, .int m18, .int 0, .int 0, .int 0, .int 0, .int 0, .int 1, .int m25, .int m26, .long m27, .int m28, .int m29, .ref m30, .ref m31, .int m32, .int m33, .int m34, .int m35, .ref m36])), (m1, .inl (g 2, an, .inl af))]) hP [0, 1] rfl
  have hD9 := pm_subD (a' := [(h0, .inr (16, [.int m0, .ref m1, .int 0, .ref m3, .ref m4, .ref m5, .ref m6, .ref m7, .ref m8, .ref m9, .ref m10, .ref m11, .int m12, .int m13, .int m14, .ref m15, .int m16, .int m17, .int m18, .int 0, .int 0, .int 0, .int 0, .int 0, .int 1, .int m25, .int m26, .long m27, .int m28, .int m29, .ref m30, .ref m31, .int m32, .int m33, .int m34, .int m35, .ref m36])), (m1, .inl (g 2, an, .inl af))]) hD [0, 1] (by decide) rfl
  refine W.widen (k := 0) (n := 0) (Nat.le_of_ble_eq_true rfl) (Nat.le_of_ble_eq_true rfl) ?_
  exact W.iret (v := 0) hx hb hr (fun t ht1 hW => ⟨⟨_, (), rfl, rfl, by rw [ht1]; exact hP9, hD9⟩, hS.F ht1⟩) hS.2.2 d_Mdl_statements_53
def w_Mdl_run : List Cond := .codeWith ⟨"MatrixScriptsModel", "run", "()I"⟩ prog_17_method_63_code 3 (some .int) [((22 : Nat), (34 : Nat), (37 : Nat), (78 : Nat))] :: wd_all
theorem gd_Mdl_run : GoodIn wd_all w_Mdl_run := gd_of tw_2342
set_option maxHeartbeats 4000000 in
set_option maxRecDepth 100000 in
theorem c_Mdl_run_e (l : Launch) (D : va_G) (g : Nat → ClassId) (h0 : Nat) (m0 : Int32) (m1 : Nat) (m3 : Nat) (m4 : Nat) (m5 : Nat) (m6 : Nat) (m7 : Nat) (m8 : Nat) (m9 : Nat) (m10 : Nat) (m11 : Nat) (m12 : Int32) (m13 : Int32) (m14 : Int32) (m15 : Nat) (m16 : Int32) (m17 : Int32) (m18 : Int32) (m19 : Int32) (m20 : Int32) (m21 : Int32) (m22 : Int32) (m23 : Int32) (m24 : Int32) (m25 : Int32) (m26 : Int32) (m27 : Int64) (m28 : Int32) (m29 : Int32) (m30 : Nat) (m31 : Nat) (m32 : Int32) (m33 : Int32) (m34 : Int32) (m35 : Int32) (m36 : Nat) (an : Nat) (af : Nat → Int32) (sz : Nat) : Met l ⟨"MatrixScriptsModel", "run", "()I"⟩ w_Mdl_run { frames := 3, cells := 0, slots := 0, locals := 66 } (cp D g [.ref h0] [(h0, .inr (16, [.int m0, .ref m1, .int 0, .ref m3, .ref m4, .ref m5, .ref m6, .ref m7, .ref m8, .ref m9, .ref m10, .ref m11, .int m12, .int m13, .int m14, .ref m15, .int m16, .int m17, .int m18, .int m19, .int m20, .int m21, .int m22, .int m23, .int m24, .int m25, .int m26, .long m27, .int m28, .int m29, .ref m30, .ref m31, .int m32, .int m33, .int m34, .int m35, .ref m36])), (m1, .inl (g 2, an, .inl af))] sz) (ci D (va_A [(h0, .inr (16, [.int m0, .ref m1, .int 0, .ref m3, .ref m4, .ref m5, .ref m6, .ref m7, .ref m8, .ref m9, .ref m10, .ref m11, .int m12, .int m13, .int m14, .ref m15, .int m16, .int m17, .int m18, .int m19, .int m20, .int m21, .int m22, .int m23, .int m24, .int m25, .int m26, .long m27, .int m28, .int m29, .ref m30, .ref m31, .int m32, .int m33, .int m34, .int m35, .ref m36])), (m1, .inl (g 2, an, .inl af))] sz) (fun r _ => r = 0) (fun u : Unit => [(h0, .inr (16, [.int 0, .ref m1, .int 0, .ref m3, .ref m4, .ref m5, .ref m6, .ref m7, .ref m8, .ref m9, .ref m10, .ref m11, .int m12, .int m13, .int m14, .ref m15, .int m16, .int m17, .int (-1), .int 0, .int 0, .int 0, .int 0, .int 0, .int 1, .int 0, .int (-1), .long 0, .int m28, .int m29, .ref m30, .ref m31, .int m32, .int m33, .int m34, .int m35, .ref m36])), (m1, .inl (g 2, an, .inl af))])) 0 0 (va_A [(h0, .inr (16, [.int m0, .ref m1, .int 0, .ref m3, .ref m4, .ref m5, .ref m6, .ref m7, .ref m8, .ref m9, .ref m10, .ref m11, .int m12, .int m13, .int m14, .ref m15, .int m16, .int m17, .int m18, .int m19, .int m20, .int m21, .int m22, .int m23, .int m24, .int m25, .int m26, .long m27, .int m28, .int m29, .ref m30, .ref m31, .int m32, .int m33, .int m34, .int m35, .ref m36])), (m1, .inl (g 2, an, .inl af))] sz) := by
  refine Met.ofWH (cc := prog_17_method_63_code) (maxL := 3) (ret := (some .int)) (by decide) rfl ?_
  intro p e s m args below meth c s₁ B0 hml htab hv
  obtain ⟨rfl, hsz, hP, hK, hD0, hN⟩ := hv
  have hx := B0.exec
  have hb := B0.bytes
  have hr := B0.returns
  have hts := atoms_spec (ws := w_Mdl_run) B0.pre
  have hT := fun (w : Cond) (h : w ∈ wd_all) => hts w (List.mem_cons_of_mem _ h)
  have hown : s.vm.findClass "MatrixScriptsModel" = some m.cls := findClass_of_methodNamed B0.named
  have hlocks := B0.notSynchronized
  subst hsz
  have hD := hD0.self (sz := s.heap.size)
  generalize hAe : va_A [(h0, .inr (16, [.int m0, .ref m1, .int 0, .ref m3, .ref m4, .ref m5, .ref m6, .ref m7, .ref m8, .ref m9, .ref m10, .ref m11, .int m12, .int m13, .int m14, .ref m15, .int m16, .int m17, .int m18, .int m19, .int m20, .int m21, .int m22, .int m23, .int m24, .int m25, .int m26, .long m27, .int m28, .int m29, .ref m30, .ref m31, .int m32, .int m33, .int m34, .int m35, .ref m36])), (m1, .inl (g 2, an, .inl af))] s.heap.size = A at hD ⊢
  have hA : ∀ q : Nat, s.heap.size ≤ q → A q := fun q h => by rw [← hAe]; exact Or.inr h
  have hS : va_S A s.heap s.heap [] := va_S.rf
  have hP : va_P D vC ([(h0, .inr (16, [.int m0, .ref m1, .int 0, .ref m3, .ref m4, .ref m5, .ref m6, .ref m7, .ref m8, .ref m9, .ref m10, .ref m11, .int m12, .int m13, .int m14, .ref m15, .int m16, .int m17, .int m18, .int m19, .int m20, .int m21, .int m22, .int m23, .int m24, .int m25, .int m26, .long m27, .int m28, .int m29, .ref m30, .ref m31, .int m32, .int m33, .int m34, .int m35, .ref m36])), (m1, .inl (g 2, an, .inl af))] ++ ([] : va_W)) s.heap := hP
  have hD : va_D A ([(h0, .inr (16, [.int m0, .ref m1, .int 0, .ref m3, .ref m4, .ref m5, .ref m6, .ref m7, .ref m8, .ref m9, .ref m10, .ref m11, .int m12, .int m13, .int m14, .ref m15, .int m16, .int m17, .int m18, .int m19, .int m20, .int m21, .int m22, .int m23, .int m24, .int m25, .int m26, .long m27, .int m28, .int m29, .ref m30, .ref m31, .int m32, .int m33, .int m34, .int m35, .ref m36])), (m1, .inl (g 2, an, .inl af))] ++ ([] : va_W)) := hD
  have hl := lv_entry ([.ref h0]) (n := 3) (Nat.le_of_ble_eq_true rfl)
  rw [lg_entry_eq]
  generalize (lg_sl ([.ref h0]) ++ List.replicate (3 - (lg_sl ([.ref h0])).length) Slot.unset).toArray = ls at hl ⊢
  have hl : lv_has ls 3 [(0, .ref h0)] := hl
  refine lv_aload_n hx hb d_Mdl_run_0 rfl (lv_at hl 0 rfl) ?_
  refine lv_iconst (v := 0) hx hb d_Mdl_run_1 (by decide) ?_
  refine va_put (D := D) (ci := 16) (v := .int 0) (ty := .int) (C := "MatrixScriptsModel") (T := T_Mdl) (N := 37) hx hb hT in_Mdl ty_Mdl ty_Mdl_ok nm_Mdl hown hK hP hD hS 0 rfl rfl 0 (by decide) (hT _ tw_2215) (fun _ h9 => h9) rfl (by decide +kernel) rfl rfl (Nat.le_of_ble_eq_true rfl) d_Mdl_run_2 (fun H locs hP hD hS => ?_)
  have hP : va_P D vC ([(h0, .inr (16, [.int 0, .ref m1, .int 0, .ref m3, .ref m4, .ref m5, .ref m6, .ref m7, .ref m8, .ref m9, .ref m10, .ref m11, .int m12, .int m13, .int m14, .ref m15, .int m16, .int m17, .int m18, .int m19, .int m20, .int m21, .int m22, .int m23, .int m24, .int m25, .int m26, .long m27, .int m28, .int m29, .ref m30, .ref m31, .int m32, .int m33, .int m34, .int m35, .ref m36])), (m1, .inl (g 2, an, .inl af))] ++ ([] : va_W)) H := hP
  have hD : va_D A ([(h0, .inr (16, [.int 0, .ref m1, .int 0, .ref m3, .ref m4, .ref m5, .ref m6, .ref m7, .ref m8, .ref m9, .ref m10, .ref m11, .int m12, .int m13, .int m14, .ref m15, .int m16, .int m17, .int m18, .int m19, .int m20, .int m21, .int m22, .int m23, .int m24, .int m25, .int m26, .long m27, .int m28, .int m29, .ref m30, .ref m31, .int m32, .int m33, .int m34, .int m35, .ref m36])), (m1, .inl (g 2, an, .inl af))] ++ ([] : va_W)) := hD
  refine lv_aload_n hx hb d_Mdl_run_5 rfl (lv_at hl 0 rfl) ?_
  refine lv_iconst (v := 0) hx hb d_Mdl_run_6 (by decide) ?_
  refine va_put (D := D) (ci := 16) (v := .int 0) (ty := .int) (C := "MatrixScriptsModel") (T := T_Mdl) (N := 37) hx hb hT in_Mdl ty_Mdl ty_Mdl_ok nm_Mdl hown hK hP hD hS 0 rfl rfl 25 (by decide) (hT _ tw_2240) (fun _ h9 => h9) rfl (by decide +kernel) rfl rfl (Nat.le_of_ble_eq_true rfl) d_Mdl_run_7 (fun H locs hP hD hS => ?_)
  have hP : va_P D vC ([(h0, .inr (16, [.int 0, .ref m1, .int 0, .ref m3, .ref m4, .ref m5, .ref m6, .ref m7, .ref m8, .ref m9, .ref m10, .ref m11, .int m12, .int m13, .int m14, .ref m15, .int m16, .int m17, .int m18, .int m19, .int m20, .int m21, .int m22, .int m23, .int m24, .int 0, .int m26, .long m27, .int m28, .int m29, .ref m30, .ref m31, .int m32, .int m33, .int m34, .int m35, .ref m36])), (m1, .inl (g 2, an, .inl af))] ++ ([] : va_W)) H := hP
  have hD : va_D A ([(h0, .inr (16, [.int 0, .ref m1, .int 0, .ref m3, .ref m4, .ref m5, .ref m6, .ref m7, .ref m8, .ref m9, .ref m10, .ref m11, .int m12, .int m13, .int m14, .ref m15, .int m16, .int m17, .int m18, .int m19, .int m20, .int m21, .int m22, .int m23, .int m24, .int 0, .int m26, .long m27, .int m28, .int m29, .ref m30, .ref m31, .int m32, .int m33, .int m34, .int m35, .ref m36])), (m1, .inl (g 2, an, .inl af))] ++ ([] : va_W)) := hD
  refine lv_aload_n hx hb d_Mdl_run_10 rfl (lv_at hl 0 rfl) ?_
  refine lv_iconst (v := -1) hx hb d_Mdl_run_11 (by decide) ?_
  refine va_put (D := D) (ci := 16) (v := .int (-1)) (ty := .int) (C := "MatrixScriptsModel") (T := T_Mdl) (N := 37) hx hb hT in_Mdl ty_Mdl ty_Mdl_ok nm_Mdl hown hK hP hD hS 0 rfl rfl 26 (by decide) (hT _ tw_2241) (fun _ h9 => h9) rfl (by decide +kernel) rfl rfl (Nat.le_of_ble_eq_true rfl) d_Mdl_run_12 (fun H locs hP hD hS => ?_)
  have hP : va_P D vC ([(h0, .inr (16, [.int 0, .ref m1, .int 0, .ref m3, .ref m4, .ref m5, .ref m6, .ref m7, .ref m8, .ref m9, .ref m10, .ref m11, .int m12, .int m13, .int m14, .ref m15, .int m16, .int m17, .int m18, .int m19, .int m20, .int m21, .int m22, .int m23, .int m24, .int 0, .int (-1), .long m27, .int m28, .int m29, .ref m30, .ref m31, .int m32, .int m33, .int m34, .int m35, .ref m36])), (m1, .inl (g 2, an, .inl af))] ++ ([] : va_W)) H := hP
  have hD : va_D A ([(h0, .inr (16, [.int 0, .ref m1, .int 0, .ref m3, .ref m4, .ref m5, .ref m6, .ref m7, .ref m8, .ref m9, .ref m10, .ref m11, .int m12, .int m13, .int m14, .ref m15, .int m16, .int m17, .int m18, .int m19, .int m20, .int m21, .int m22, .int m23, .int m24, .int 0, .int (-1), .long m27, .int m28, .int m29, .ref m30, .ref m31, .int m32, .int m33, .int m34, .int m35, .ref m36])), (m1, .inl (g 2, an, .inl af))] ++ ([] : va_W)) := hD
  refine lv_aload_n hx hb d_Mdl_run_15 rfl (lv_at hl 0 rfl) ?_
  refine lv_lconst (v := 0) hx hb d_Mdl_run_16 (by decide) ?_
  refine va_put (D := D) (ci := 16) (v := .long 0) (ty := .long) (C := "MatrixScriptsModel") (T := T_Mdl) (N := 37) hx hb hT in_Mdl ty_Mdl ty_Mdl_ok nm_Mdl hown hK hP hD hS 0 rfl rfl 27 (by decide) (hT _ tw_2242) (fun _ h9 => h9) rfl (by decide +kernel) rfl rfl (Nat.le_of_ble_eq_true rfl) d_Mdl_run_17 (fun H locs hP hD hS => ?_)
  have hP : va_P D vC ([(h0, .inr (16, [.int 0, .ref m1, .int 0, .ref m3, .ref m4, .ref m5, .ref m6, .ref m7, .ref m8, .ref m9, .ref m10, .ref m11, .int m12, .int m13, .int m14, .ref m15, .int m16, .int m17, .int m18, .int m19, .int m20, .int m21, .int m22, .int m23, .int m24, .int 0, .int (-1), .long 0, .int m28, .int m29, .ref m30, .ref m31, .int m32, .int m33, .int m34, .int m35, .ref m36])), (m1, .inl (g 2, an, .inl af))] ++ ([] : va_W)) H := hP
  have hD : va_D A ([(h0, .inr (16, [.int 0, .ref m1, .int 0, .ref m3, .ref m4, .ref m5, .ref m6, .ref m7, .ref m8, .ref m9, .ref m10, .ref m11, .int m12, .int m13, .int m14, .ref m15, .int m16, .int m17, .int m18, .int m19, .int m20, .int m21, .int m22, .int m23, .int m24, .int 0, .int (-1), .long 0, .int m28, .int m29, .ref m30, .ref m31, .int m32, .int m33, .int m34, .int m35, .ref m36])), (m1, .inl (g 2, an, .inl af))] ++ ([] : va_W)) := hD
  refine lv_iconst (v := 0) hx hb d_Mdl_run_20 (by decide) ?_
  refine lv_istore_n (lv' := [(1, .int 0), (0, .ref h0)]) hx hb d_Mdl_run_21 rfl hl (by decide) rfl (fun ls hl => ?_)
  refine lv_aload_n hx hb d_Mdl_run_22 rfl (lv_at hl 1 rfl) ?_
  refine lv_iconst (v := 0) hx hb d_Mdl_run_23 (by decide) ?_
  have hP : va_P D vC ([(h0, .inr (16, [.int 0, .ref m1, .int 0, .ref m3, .ref m4, .ref m5, .ref m6, .ref m7, .ref m8, .ref m9, .ref m10, .ref m11, .int m12, .int m13, .int m14, .ref m15, .int m16, .int m17, .int m18, .int m19, .int m20, .int m21, .int m22, .int m23, .int m24, .int 0, .int (-1), .long 0, .int m28, .int m29, .ref m30, .ref m31, .int m32, .int m33, .int m34, .int m35, .ref m36])), (m1, .inl (g 2, an, .inl af))] ++ ([] ++ ([] : va_W))) H := hP
  have hD : va_D A ([(h0, .inr (16, [.int 0, .ref m1, .int 0, .ref m3, .ref m4, .ref m5, .ref m6, .ref m7, .ref m8, .ref m9, .ref m10, .ref m11, .int m12, .int m13, .int m14, .ref m15, .int m16, .int m17, .int m18, .int m19, .int m20, .int m21, .int m22, .int m23, .int m24, .int 0, .int (-1), .long 0, .int m28, .int m29, .ref m30, .ref m31, .int m32, .int m33, .int m34, .int m35, .ref m36])), (m1, .inl (g 2, an, .inl af))] ++ ([] ++ ([] : va_W))) := hD
  have hFc := pm_free hD hS hA
  refine va_calli (va_runV (As := [.int 0]) (rest := []) ⟨hx, hb, hml, hown, hT⟩ (c_Mdl_statements_e0 l D g h0 0 m1 m3 m4 m5 m6 m7 m8 m9 m10 m11 m12 m13 m14 m15 m16 m17 m18 m19 m20 m21 m22 m23 m24 0 (-1) 0 m28 m29 m30 m31 m32 m33 m34 m35 m36 an af H.size) (cwV 1 hT (gdV tw_2344 tw_2346 tw_76 tw_167 tw_2347) rfl rfl rfl (by decide +kernel) ⟨Nat.le_of_ble_eq_true rfl, Nat.le_of_ble_eq_true rfl⟩) (cp_V (C := "MatrixScriptsModel") (T := T_Mdl) (N := 37) (ci := 16) hP hK hD hN rfl) rfl rfl hl.1 rfl (lv_room (Nat.le_of_ble_eq_true rfl)) d_Mdl_run_24 ⟨Nat.le_of_ble_eq_true rfl, Nat.le_of_ble_eq_true rfl⟩) hS (fun q _ h => hFc q h) hFc (fun r24 u24 t H1 locs ht1 hvm hw hB hz1 hk1 hS => ?_)
  obtain ⟨hP1, hD1⟩ := hB
  rw [ht1] at hP1
  obtain ⟨hP, hD⟩ := pm_join hP hD hk1 hFc hP1 hD1
  generalize H1 = H at hP hS ⊢
  have hw24 := hw
  have hP : va_P D vC ([(h0, .inr (16, [.int 0, .ref m1, .int 0, .ref m3, .ref m4, .ref m5, .ref m6, .ref m7, .ref m8, .ref m9, .ref m10, .ref m11, .int m12, .int m13, .int m14, .ref m15, .int m16, .int m17, .int m18, .int 0, .int 0, .int 0, .int 0, .int 0, .int 0, .int 0, .int (-1), .long 0, .int m28, .int m29, .ref m30, .ref m31, .int m32, .int m33, .int m34, .int m35, .ref m36])), (m1, .inl (g 2, an, .inl af))] ++ ([] : va_W)) H := hP
  have hD : va_D A ([(h0, .inr (16, [.int 0, .ref m1, .int 0, .ref m3, .ref m4, .ref m5, .ref m6, .ref m7, .ref m8, .ref m9, .ref m10, .ref m11, .int m12, .int m13, .int m14, .ref m15, .int m16, .int m17, .int m18, .int 0, .int 0, .int 0, .int 0, .int 0, .int 0, .int 0, .int (-1), .long 0, .int m28, .int m29, .ref m30, .ref m31, .int m32, .int m33, .int m34, .int m35, .ref m36])), (m1, .inl (g 2, an, .inl af))] ++ ([] : va_W)) := hD
  obtain rfl : r24 = 0 := hw
  refine lv_pop hx hb d_Mdl_run_27 rfl ?_
  refine lv_aload_n hx hb d_Mdl_run_28 rfl (lv_at hl 1 rfl) ?_
  refine lv_iconst (v := 1) hx hb d_Mdl_run_29 (by decide) ?_
  have hP : va_P D vC ([(h0, .inr (16, [.int 0, .ref m1, .int 0, .ref m3, .ref m4, .ref m5, .ref m6, .ref m7, .ref m8, .ref m9, .ref m10, .ref m11, .int m12, .int m13, .int m14, .ref m15, .int m16, .int m17, .int m18, .int 0, .int 0, .int 0, .int 0, .int 0, .int 0, .int 0, .int (-1), .long 0, .int m28, .int m29, .ref m30, .ref m31, .int m32, .int m33, .int m34, .int m35, .ref m36])), (m1, .inl (g 2, an, .inl af))] ++ ([] ++ ([] : va_W))) H := hP
  have hD : va_D A ([(h0, .inr (16, [.int 0, .ref m1, .int 0, .ref m3, .ref m4, .ref m5, .ref m6, .ref m7, .ref m8, .ref m9, .ref m10, .ref m11, .int m12, .int m13, .int m14, .ref m15, .int m16, .int m17, .int m18, .int 0, .int 0, .int 0, .int 0, .int 0, .int 0, .int 0, .int (-1), .long 0, .int m28, .int m29, .ref m30, .ref m31, .int m32, .int m33, .int m34, .int m35, .ref m36])), (m1, .inl (g 2, an, .inl af))] ++ ([] ++ ([] : va_W))) := hD
  have hFc := pm_free hD hS hA
  refine va_calli (va_runV (As := [.int 1]) (rest := []) ⟨hx, hb, hml, hown, hT⟩ (c_Mdl_statements_e1 l D g h0 0 m1 m3 m4 m5 m6 m7 m8 m9 m10 m11 m12 m13 m14 m15 m16 m17 m18 0 0 0 0 0 0 0 (-1) 0 m28 m29 m30 m31 m32 m33 m34 m35 m36 an af H.size) (cwV 1 hT (gdV tw_2344 tw_2346 tw_76 tw_167 tw_2347) rfl rfl rfl (by decide +kernel) ⟨Nat.le_of_ble_eq_true rfl, Nat.le_of_ble_eq_true rfl⟩) (cp_V (C := "MatrixScriptsModel") (T := T_Mdl) (N := 37) (ci := 16) hP hK hD hN rfl) rfl rfl hl.1 rfl (lv_room (Nat.le_of_ble_eq_true rfl)) d_Mdl_run_30 ⟨Nat.le_of_ble_eq_true rfl, Nat.le_of_ble_eq_true rfl⟩) hS (fun q _ h => hFc q h) hFc (fun r30 u30 t H1 locs ht1 hvm hw hB hz1 hk1 hS => ?_)
  obtain ⟨hP1, hD1⟩ := hB
  rw [ht1] at hP1
  obtain ⟨hP, hD⟩ := pm_join hP hD hk1 hFc hP1 hD1
  generalize H1 = H at hP hS ⊢
  have hw30 := hw
  have hP : va_P D vC ([(h0, .inr (16, [.int 0, .ref m1, .int 0, .ref m3, .ref m4, .ref m5, .ref m6, .ref m7, .ref m8, .ref m9, .ref m10, .ref m11, .int m12, .int m13, .int m14, .ref m15, .int m16, .int m17, .int m18, .int 0, .int 0, .int 0, .int 0, .int 0, .int 1, .int 0, .int (-1), .long 0, .int m28, .int m29, .ref m30, .ref m31, .int m32, .int m33, .int m34, .int m35, .ref m36])), (m1, .inl (g 2, an, .inl af))] ++ ([] : va_W)) H := hP
  have hD : va_D A ([(h0, .inr (16, [.int 0, .ref m1, .int 0, .ref m3, .ref m4, .ref m5, .ref m6, .ref m7, .ref m8, .ref m9, .ref m10, .ref m11, .int m12, .int m13, .int m14, .ref m15, .int m16, .int m17, .int m18, .int 0, .int 0, .int 0, .int 0, .int 0, .int 1, .int 0, .int (-1), .long 0, .int m28, .int m29, .ref m30, .ref m31, .int m32, .int m33, .int m34, .int m35, .ref m36])), (m1, .inl (g 2, an, .inl af))] ++ ([] : va_W)) := hD
  obtain rfl : r30 = 0 := hw
  refine lv_istore_n (lv' := [(1, .int 0), (0, .ref h0)]) hx hb d_Mdl_run_33 rfl hl (by decide) rfl (fun ls hl => ?_)
  refine lv_goto (tgt := 46) hx hb d_Mdl_run_34 (by decide) ?_
  refine lv_aload_n hx hb d_Mdl_run_46 rfl (lv_at hl 1 rfl) ?_
  refine lv_aload_n hx hb d_Mdl_run_47 rfl (lv_at hl 1 rfl) ?_
  refine va_get (D := D) (ci := 16) (v := .int (-1)) (C := "MatrixScriptsModel") (T := T_Mdl) (N := 37) hx hb hT in_Mdl hown hK hP 0 rfl rfl 26 (by decide) (hT _ tw_2241) (fun _ h9 => h9) rfl d_Mdl_run_48 ?_
  refine va_put (D := D) (ci := 16) (v := .int (-1)) (ty := .int) (C := "MatrixScriptsModel") (T := T_Mdl) (N := 37) hx hb hT in_Mdl ty_Mdl ty_Mdl_ok nm_Mdl hown hK hP hD hS 0 rfl rfl 18 (by decide) (hT _ tw_2233) (fun _ h9 => h9) rfl (by decide +kernel) rfl rfl (Nat.le_of_ble_eq_true rfl) d_Mdl_run_51 (fun H locs hP hD hS => ?_)
  have hP : va_P D vC ([(h0, .inr (16, [.int 0, .ref m1, .int 0, .ref m3, .ref m4, .ref m5, .ref m6, .ref m7, .ref m8, .ref m9, .ref m10, .ref m11, .int m12, .int m13, .int m14, .ref m15, .int m16, .int m17, .int (-1), .int 0, .int 0, .int 0, .int 0, .int 0, .int 1, .int 0, .int (-1), .long 0, .int m28, .int m29, .ref m30, .ref m31, .int m32, .int m33, .int m34, .int m35, .ref m36])), (m1, .inl (g 2, an, .inl af))] ++ ([] : va_W)) H := hP
  have hD : va_D A ([(h0, .inr (16, [.int 0, .ref m1, .int 0, .ref m3, .ref m4, .ref m5, .ref m6, .ref m7, .ref m8, .ref m9, .ref m10, .ref m11, .int m12, .int m13, .int m14, .ref m15, .int m16, .int m17, .int (-1), .int 0, .int 0, .int 0, .int 0, .int 0, .int 1, .int 0, .int (-1), .long 0, .int m28, .int m29, .ref m30, .ref m31, .int m32, .int m33, .int m34, .int m35, .ref m36])), (m1, .inl (g 2, an, .inl af))] ++ ([] : va_W)) := hD
  refine lv_aload_n hx hb d_Mdl_run_54 rfl (lv_at hl 1 rfl) ?_
  refine lv_iconst (v := 0) hx hb d_Mdl_run_55 (by decide) ?_
  refine va_put (D := D) (ci := 16) (v := .int 0) (ty := .int) (C := "MatrixScriptsModel") (T := T_Mdl) (N := 37) hx hb hT in_Mdl ty_Mdl ty_Mdl_ok nm_Mdl hown hK hP hD hS 0 rfl rfl 2 (by decide) (hT _ tw_2217) (fun _ h9 => h9) rfl (by decide +kernel) rfl rfl (Nat.le_of_ble_eq_true rfl) d_Mdl_run_56 (fun H locs hP hD hS => ?_)
  have hP : va_P D vC ([(h0, .inr (16, [.int 0, .ref m1, .int 0, .ref m3, .ref m4, .ref m5, .ref m6, .ref m7, .ref m8, .ref m9, .ref m10, .ref m11, .int m12, .int m13, .int m14, .ref m15, .int m16, .int m17, .int (-1), .int 0, .int 0, .int 0, .int 0, .int 0, .int 1, .int 0, .int (-1), .long 0, .int m28, .int m29, .ref m30, .ref m31, .int m32, .int m33, .int m34, .int m35, .ref m36])), (m1, .inl (g 2, an, .inl af))] ++ ([] : va_W)) H := hP
  have hD : va_D A ([(h0, .inr (16, [.int 0, .ref m1, .int 0, .ref m3, .ref m4, .ref m5, .ref m6, .ref m7, .ref m8, .ref m9, .ref m10, .ref m11, .int m12, .int m13, .int m14, .ref m15, .int m16, .int m17, .int (-1), .int 0, .int 0, .int 0, .int 0, .int 0, .int 1, .int 0, .int (-1), .long 0, .int m28, .int m29, .ref m30, .ref m31, .int m32, .int m33, .int m34, .int m35, .ref m36])), (m1, .inl (g 2, an, .inl af))] ++ ([] : va_W)) := hD
  refine lv_iload_n hx hb d_Mdl_run_59 rfl (lv_at hl 0 rfl) ?_
  have hP9 := pm_subP (a' := [(h0, .inr (16, [.int 0, .ref m1, .int 0, .ref m3, .ref m4, .ref m5, .ref m6, .ref m7, .ref m8, .ref m9, .ref m10, .ref m11, .int m12, .int m13, .int m14, .ref m15, .int m16, .int m17, .int (-1), .int 0, .int 0, .int 0, .int 0, .int 0, .int 1, .int 0, .int (-1), .long 0, .int m28, .int m29, .ref m30, .ref m31, .int m32, .int m33, .int m34, .int m35, .ref m36])), (m1, .inl (g 2, an, .inl af))]) hP [0, 1] rfl
  have hD9 := pm_subD (a' := [(h0, .inr (16, [.int 0, .ref m1, .int 0, .ref m3, .ref m4, .ref m5, .ref m6, .ref m7, .ref m8, .ref m9, .ref m10, .ref m11, .int m12, .int m13, .int m14, .ref m15, .int m16, .int m17, .int (-1), .int 0, .int 0, .int 0, .int 0, .int 0, .int 1, .int 0, .int (-1), .long 0, .int m28, .int m29, .ref m30, .ref m31, .int m32, .int m33, .int m34, .int m35, .ref m36])), (m1, .inl (g 2, an, .inl af))]) hD [0, 1] (by decide) rfl
  refine W.widen (k := 0) (n := 0) (Nat.le_of_ble_eq_true rfl) (Nat.le_of_ble_eq_true rfl) ?_
  exact W.iret (v := 0) hx hb hr (fun t ht1 hW => ⟨⟨_, (), rfl, rfl, by rw [ht1]; exact hP9, hD9⟩, hS.F ht1⟩) hS.2.2 d_Mdl_run_60
