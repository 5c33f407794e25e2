def w_Values_clear : List Cond := .code ⟨"MatrixScripts$Values", "clear", "()I"⟩ prog_14_method_2_code 2 (some .int) :: wd_all
theorem gd_Values_clear : GoodIn wd_all w_Values_clear := gd_of tw_761
set_option maxHeartbeats 4000000 in
set_option maxRecDepth 100000 in
theorem c_Values_clear (l : Launch) (D : va_G) (g : Nat → ClassId) (h0 : Nat) (a0 : Int32) (a1 : Int32) (a2 : Int32) (a3 : Nat) (a4 : Nat) (a5 : Int32) (sz : Nat) : Met l ⟨"MatrixScripts$Values", "clear", "()I"⟩ w_Values_clear { frames := 0, cells := 0, slots := 0, locals := 0 } (cp D g [.ref h0] [(h0, .inr (10, [.int a0, .int a1, .int a2, .ref a3, .ref a4, .int a5]))] sz) (ci D (va_A [(h0, .inr (10, [.int a0, .int a1, .int a2, .ref a3, .ref a4, .int a5]))] sz) (fun r _ => r = a0) (fun u : Unit => [(h0, .inr (10, [.int 0, .int 0, .int 0, .ref a3, .ref a4, .int 0]))])) 0 0 (va_A [(h0, .inr (10, [.int a0, .int a1, .int a2, .ref a3, .ref a4, .int a5]))] sz) := by
  refine Met.ofW (cc := prog_14_method_2_code) (maxL := 2) (ret := (some .int)) (by decide) rfl ?_
  intro p e s m args below meth c s₁ B0 hml hv
  obtain ⟨rfl, hsz, hP, hK, hD0, hN⟩ := hv
  have hx := B0.exec
  have hb := B0.bytes
  have hr := B0.returns
  have hts := atoms_spec (ws := w_Values_clear) B0.pre
  have hT := fun (w : Cond) (h : w ∈ wd_all) => hts w (List.mem_cons_of_mem _ h)
  have hown : s.vm.findClass "MatrixScripts$Values" = some m.cls := findClass_of_methodNamed B0.named
  have hlocks := B0.notSynchronized
  subst hsz
  have hD := hD0.self (sz := s.heap.size)
  generalize hAe : va_A [(h0, .inr (10, [.int a0, .int a1, .int a2, .ref a3, .ref a4, .int a5]))] s.heap.size = A at hD ⊢
  have hA : ∀ q : Nat, s.heap.size ≤ q → A q := fun q h => by rw [← hAe]; exact Or.inr h
  have hS : va_S A s.heap s.heap [] := va_S.rf
  have hP : va_P D vC ([(h0, .inr (10, [.int a0, .int a1, .int a2, .ref a3, .ref a4, .int a5]))] ++ ([] : va_W)) s.heap := hP
  have hD : va_D A ([(h0, .inr (10, [.int a0, .int a1, .int a2, .ref a3, .ref a4, .int a5]))] ++ ([] : va_W)) := hD
  have hl := lv_entry ([.ref h0]) (n := 2) (Nat.le_of_ble_eq_true rfl)
  rw [lg_entry_eq]
  generalize (lg_sl ([.ref h0]) ++ List.replicate (2 - (lg_sl ([.ref h0])).length) Slot.unset).toArray = ls at hl ⊢
  have hl : lv_has ls 2 [(0, .ref h0)] := hl
  refine lv_aload_n hx hb d_Values_clear_0 rfl (lv_at hl 0 rfl) ?_
  refine va_get (D := D) (ci := 10) (v := .int a0) (C := "MatrixScripts$Values") (T := T_Values) (N := 6) hx hb hT in_Values hown hK hP 0 rfl rfl 0 (by decide) (hT _ tw_296) (fun _ h9 => h9) rfl d_Values_clear_1 ?_
  refine lv_istore_n (lv' := [(1, .int a0), (0, .ref h0)]) hx hb d_Values_clear_4 rfl hl (by decide) rfl (fun ls hl => ?_)
  refine lv_aload_n hx hb d_Values_clear_5 rfl (lv_at hl 1 rfl) ?_
  refine lv_iconst (v := 0) hx hb d_Values_clear_6 (by decide) ?_
  refine va_put (D := D) (ci := 10) (v := .int 0) (ty := .int) (C := "MatrixScripts$Values") (T := T_Values) (N := 6) hx hb hT in_Values ty_Values ty_Values_ok nm_Values hown hK hP hD hS 0 rfl rfl 0 (by decide) (hT _ tw_296) (fun _ h9 => h9) rfl (by decide +kernel) rfl rfl (Nat.le_of_ble_eq_true rfl) d_Values_clear_7 (fun H locs hP hD hS => ?_)
  have hP : va_P D vC ([(h0, .inr (10, [.int 0, .int a1, .int a2, .ref a3, .ref a4, .int a5]))] ++ ([] : va_W)) H := hP
  have hD : va_D A ([(h0, .inr (10, [.int 0, .int a1, .int a2, .ref a3, .ref a4, .int a5]))] ++ ([] : va_W)) := hD
  refine lv_aload_n hx hb d_Values_clear_10 rfl (lv_at hl 1 rfl) ?_
  refine lv_iconst (v := 0) hx hb d_Values_clear_11 (by decide) ?_
  refine va_put (D := D) (ci := 10) (v := .int 0) (ty := .int) (C := "MatrixScripts$Values") (T := T_Values) (N := 6) hx hb hT in_Values ty_Values ty_Values_ok nm_Values hown hK hP hD hS 0 rfl rfl 1 (by decide) (hT _ tw_301) (fun _ h9 => h9) rfl (by decide +kernel) rfl rfl (Nat.le_of_ble_eq_true rfl) d_Values_clear_12 (fun H locs hP hD hS => ?_)
  have hP : va_P D vC ([(h0, .inr (10, [.int 0, .int 0, .int a2, .ref a3, .ref a4, .int a5]))] ++ ([] : va_W)) H := hP
  have hD : va_D A ([(h0, .inr (10, [.int 0, .int 0, .int a2, .ref a3, .ref a4, .int a5]))] ++ ([] : va_W)) := hD
  refine lv_aload_n hx hb d_Values_clear_15 rfl (lv_at hl 1 rfl) ?_
  refine lv_iconst (v := 0) hx hb d_Values_clear_16 (by decide) ?_
  refine va_put (D := D) (ci := 10) (v := .int 0) (ty := .int) (C := "MatrixScripts$Values") (T := T_Values) (N := 6) hx hb hT in_Values ty_Values ty_Values_ok nm_Values hown hK hP hD hS 0 rfl rfl 2 (by decide) (hT _ tw_303) (fun _ h9 => h9) rfl (by decide +kernel) rfl rfl (Nat.le_of_ble_eq_true rfl) d_Values_clear_17 (fun H locs hP hD hS => ?_)
  have hP : va_P D vC ([(h0, .inr (10, [.int 0, .int 0, .int 0, .ref a3, .ref a4, .int a5]))] ++ ([] : va_W)) H := hP
  have hD : va_D A ([(h0, .inr (10, [.int 0, .int 0, .int 0, .ref a3, .ref a4, .int a5]))] ++ ([] : va_W)) := hD
  refine lv_aload_n hx hb d_Values_clear_20 rfl (lv_at hl 1 rfl) ?_
  refine lv_iconst (v := 0) hx hb d_Values_clear_21 (by decide) ?_
  refine va_put (D := D) (ci := 10) (v := .int 0) (ty := .int) (C := "MatrixScripts$Values") (T := T_Values) (N := 6) hx hb hT in_Values ty_Values ty_Values_ok nm_Values hown hK hP hD hS 0 rfl rfl 5 (by decide) (hT _ tw_309) (fun _ h9 => h9) rfl (by decide +kernel) rfl rfl (Nat.le_of_ble_eq_true rfl) d_Values_clear_22 (fun H locs hP hD hS => ?_)
  have hP : va_P D vC ([(h0, .inr (10, [.int 0, .int 0, .int 0, .ref a3, .ref a4, .int 0]))] ++ ([] : va_W)) H := hP
  have hD : va_D A ([(h0, .inr (10, [.int 0, .int 0, .int 0, .ref a3, .ref a4, .int 0]))] ++ ([] : va_W)) := hD
  refine lv_iload_n hx hb d_Values_clear_25 rfl (lv_at hl 0 rfl) ?_
  have hP9 := pm_subP (a' := [(h0, .inr (10, [.int 0, .int 0, .int 0, .ref a3, .ref a4, .int 0]))]) hP [0] rfl
  have hD9 := pm_subD (a' := [(h0, .inr (10, [.int 0, .int 0, .int 0, .ref a3, .ref a4, .int 0]))]) hD [0] (by decide) rfl
  refine W.widen (k := 0) (n := 0) (Nat.le_of_ble_eq_true rfl) (Nat.le_of_ble_eq_true rfl) ?_
  exact W.iret (v := a0) hx hb hr (fun t ht1 hW => ⟨⟨_, (), rfl, rfl, by rw [ht1]; exact hP9, hD9⟩, hS.F ht1⟩) hS.2.2 d_Values_clear_26
def w_Ms_place : List Cond := .code ⟨"MatrixScripts", "place", "()I"⟩ prog_1_method_5_code 1 (some .int) :: wd_all
theorem gd_Ms_place : GoodIn wd_all w_Ms_place := gd_of tw_2029
set_option maxHeartbeats 4000000 in
set_option maxRecDepth 100000 in
theorem c_Ms_place (l : Launch) (D : va_G) (g : Nat → ClassId) (h0 : Nat) (m0 : Nat) (m1 : Nat) (m2 : Nat) (s0 : Nat) (s1 : Nat) (s2 : Nat) (s3 : Int32) (s4 : Int32) (s5 : Int32) (s6 : Int32) (s7 : Int32) (s8 : Nat) (s9 : Nat) (s10 : Nat) (s11 : Nat) (s12 : Nat) (s13 : Int32) (s14 : Int32) (s15 : Nat) (s16 : Int32) (sz : Nat) : Met l ⟨"MatrixScripts", "place", "()I"⟩ w_Ms_place { frames := 0, cells := 0, slots := 0, locals := 0 } (cp D g [.ref h0] [(h0, .inr (12, [.ref m0, .ref m1, .ref m2])), (m0, .inr (8, [.ref s0, .ref s1, .ref s2, .int s3, .int s4, .int s5, .int s6, .int s7, .ref s8, .ref s9, .ref s10, .ref s11, .ref s12, .int s13, .int s14, .ref s15, .int s16]))] sz) (ci D (va_A [(h0, .inr (12, [.ref m0, .ref m1, .ref m2])), (m0, .inr (8, [.ref s0, .ref s1, .ref s2, .int s3, .int s4, .int s5, .int s6, .int s7, .ref s8, .ref s9, .ref s10, .ref s11, .ref s12, .int s13, .int s14, .ref s15, .int s16]))] sz) (fun r _ => r = s7) (fun u : Unit => [(h0, .inr (12, [.ref m0, .ref m1, .ref m2])), (m0, .inr (8, [.ref s0, .ref s1, .ref s2, .int s3, .int s4, .int s5, .int s6, .int s7, .ref s8, .ref s9, .ref s10, .ref s11, .ref s12, .int s13, .int s14, .ref s15, .int s16]))])) 0 0 (va_A [(h0, .inr (12, [.ref m0, .ref m1, .ref m2])), (m0, .inr (8, [.ref s0, .ref s1, .ref s2, .int s3, .int s4, .int s5, .int s6, .int s7, .ref s8, .ref s9, .ref s10, .ref s11, .ref s12, .int s13, .int s14, .ref s15, .int s16]))] sz) := by
  refine Met.ofW (cc := prog_1_method_5_code) (maxL := 1) (ret := (some .int)) (by decide) rfl ?_
  intro p e s m args below meth c s₁ B0 hml hv
  obtain ⟨rfl, hsz, hP, hK, hD0, hN⟩ := hv
  have hx := B0.exec
  have hb := B0.bytes
  have hr := B0.returns
  have hts := atoms_spec (ws := w_Ms_place) B0.pre
  have hT := fun (w : Cond) (h : w ∈ wd_all) => hts w (List.mem_cons_of_mem _ h)
  have hown : s.vm.findClass "MatrixScripts" = some m.cls := findClass_of_methodNamed B0.named
  have hlocks := B0.notSynchronized
  subst hsz
  have hD := hD0.self (sz := s.heap.size)
  generalize hAe : va_A [(h0, .inr (12, [.ref m0, .ref m1, .ref m2])), (m0, .inr (8, [.ref s0, .ref s1, .ref s2, .int s3, .int s4, .int s5, .int s6, .int s7, .ref s8, .ref s9, .ref s10, .ref s11, .ref s12, .int s13, .int s14, .ref s15, .int s16]))] s.heap.size = A at hD ⊢
  have hA : ∀ q : Nat, s.heap.size ≤ q → A q := fun q h => by rw [← hAe]; exact Or.inr h
  have hS : va_S A s.heap s.heap [] := va_S.rf
  have hP : va_P D vC ([(h0, .inr (12, [.ref m0, .ref m1, .ref m2])), (m0, .inr (8, [.ref s0, .ref s1, .ref s2, .int s3, .int s4, .int s5, .int s6, .int s7, .ref s8, .ref s9, .ref s10, .ref s11, .ref s12, .int s13, .int s14, .ref s15, .int s16]))] ++ ([] : va_W)) s.heap := hP
  have hD : va_D A ([(h0, .inr (12, [.ref m0, .ref m1, .ref m2])), (m0, .inr (8, [.ref s0, .ref s1, .ref s2, .int s3, .int s4, .int s5, .int s6, .int s7, .ref s8, .ref s9, .ref s10, .ref s11, .ref s12, .int s13, .int s14, .ref s15, .int s16]))] ++ ([] : va_W)) := hD
  have hl := lv_entry ([.ref h0]) (n := 1) (Nat.le_of_ble_eq_true rfl)
  rw [lg_entry_eq]
  generalize (lg_sl ([.ref h0]) ++ List.replicate (1 - (lg_sl ([.ref h0])).length) Slot.unset).toArray = ls at hl ⊢
  have hl : lv_has ls 1 [(0, .ref h0)] := hl
  refine lv_aload_n hx hb d_Ms_place_0 rfl (lv_at hl 0 rfl) ?_
  refine va_get (D := D) (ci := 12) (v := .ref m0) (C := "MatrixScripts") (T := T_Ms) (N := 3) hx hb hT in_Ms hown hK hP 0 rfl rfl 0 (by decide) (hT _ tw_739) (fun _ h9 => h9) rfl d_Ms_place_1 ?_
  refine va_get (D := D) (ci := 8) (v := .int s7) (C := "MatrixScripts$Script") (T := T_Script) (N := 17) hx hb hT in_Script hown hK hP 1 rfl rfl 7 (by decide) (hT _ tw_693) (fun _ h9 => h9) rfl d_Ms_place_4 ?_
  have hP9 := pm_subP (a' := [(h0, .inr (12, [.ref m0, .ref m1, .ref m2])), (m0, .inr (8, [.ref s0, .ref s1, .ref s2, .int s3, .int s4, .int s5, .int s6, .int s7, .ref s8, .ref s9, .ref s10, .ref s11, .ref s12, .int s13, .int s14, .ref s15, .int s16]))]) hP [0, 1] rfl
  have hD9 := pm_subD (a' := [(h0, .inr (12, [.ref m0, .ref m1, .ref m2])), (m0, .inr (8, [.ref s0, .ref s1, .ref s2, .int s3, .int s4, .int s5, .int s6, .int s7, .ref s8, .ref s9, .ref s10, .ref s11, .ref s12, .int s13, .int s14, .ref s15, .int s16]))]) hD [0, 1] (by decide) rfl
  refine W.widen (k := 0) (n := 0) (Nat.le_of_ble_eq_true rfl) (Nat.le_of_ble_eq_true rfl) ?_
  exact W.iret (v := s7) hx hb hr (fun t ht1 hW => ⟨⟨_, (), rfl, rfl, by rw [ht1]; exact hP9, hD9⟩, hS.F ht1⟩) hS.2.2 d_Ms_place_7
def w_Ms_length : List Cond := .code ⟨"MatrixScripts", "length", "()I"⟩ prog_1_method_6_code 1 (some .int) :: wd_all
theorem gd_Ms_length : GoodIn wd_all w_Ms_length := gd_of tw_2033
set_option maxHeartbeats 4000000 in
set_option maxRecDepth 100000 in
theorem c_Ms_length (l : Launch) (D : va_G) (g : Nat → ClassId) (h0 : Nat) (m0 : Nat) (m1 : Nat) (m2 : Nat) (p0 : Nat) (p1 : Int32) (p2 : Nat) (p3 : Nat) (p4 : Nat) (sz : Nat) : Met l ⟨"MatrixScripts", "length", "()I"⟩ w_Ms_length { frames := 0, cells := 0, slots := 0, locals := 0 } (cp D g [.ref h0] [(h0, .inr (12, [.ref m0, .ref m1, .ref m2])), (m2, .inr (6, [.ref p0, .int p1, .ref p2, .ref p3, .ref p4]))] sz) (ci D (va_A [(h0, .inr (12, [.ref m0, .ref m1, .ref m2])), (m2, .inr (6, [.ref p0, .int p1, .ref p2, .ref p3, .ref p4]))] sz) (fun r _ => r = p1) (fun u : Unit => [(h0, .inr (12, [.ref m0, .ref m1, .ref m2])), (m2, .inr (6, [.ref p0, .int p1, .ref p2, .ref p3, .ref p4]))])) 0 0 (va_A [(h0, .inr (12, [.ref m0, .ref m1, .ref m2])), (m2, .inr (6, [.ref p0, .int p1, .ref p2, .ref p3, .ref p4]))] sz) := by
  refine Met.ofW (cc := prog_1_method_6_code) (maxL := 1) (ret := (some .int)) (by decide) rfl ?_
  intro p e s m args below meth c s₁ B0 hml hv
  obtain ⟨rfl, hsz, hP, hK, hD0, hN⟩ := hv
  have hx := B0.exec
  have hb := B0.bytes
  have hr := B0.returns
  have hts := atoms_spec (ws := w_Ms_length) B0.pre
  have hT := fun (w : Cond) (h : w ∈ wd_all) => hts w (List.mem_cons_of_mem _ h)
  have hown : s.vm.findClass "MatrixScripts" = some m.cls := findClass_of_methodNamed B0.named
  have hlocks := B0.notSynchronized
  subst hsz
  have hD := hD0.self (sz := s.heap.size)
  generalize hAe : va_A [(h0, .inr (12, [.ref m0, .ref m1, .ref m2])), (m2, .inr (6, [.ref p0, .int p1, .ref p2, .ref p3, .ref p4]))] s.heap.size = A at hD ⊢
  have hA : ∀ q : Nat, s.heap.size ≤ q → A q := fun q h => by rw [← hAe]; exact Or.inr h
  have hS : va_S A s.heap s.heap [] := va_S.rf
  have hP : va_P D vC ([(h0, .inr (12, [.ref m0, .ref m1, .ref m2])), (m2, .inr (6, [.ref p0, .int p1, .ref p2, .ref p3, .ref p4]))] ++ ([] : va_W)) s.heap := hP
  have hD : va_D A ([(h0, .inr (12, [.ref m0, .ref m1, .ref m2])), (m2, .inr (6, [.ref p0, .int p1, .ref p2, .ref p3, .ref p4]))] ++ ([] : va_W)) := hD
  have hl := lv_entry ([.ref h0]) (n := 1) (Nat.le_of_ble_eq_true rfl)
  rw [lg_entry_eq]
  generalize (lg_sl ([.ref h0]) ++ List.replicate (1 - (lg_sl ([.ref h0])).length) Slot.unset).toArray = ls at hl ⊢
  have hl : lv_has ls 1 [(0, .ref h0)] := hl
  refine lv_aload_n hx hb d_Ms_length_0 rfl (lv_at hl 0 rfl) ?_
  refine va_get (D := D) (ci := 12) (v := .ref m2) (C := "MatrixScripts") (T := T_Ms) (N := 3) hx hb hT in_Ms hown hK hP 0 rfl rfl 2 (by decide) (hT _ tw_741) (fun _ h9 => h9) rfl d_Ms_length_1 ?_
  refine va_get (D := D) (ci := 6) (v := .int p1) (C := "MatrixScripts$Page") (T := T_Page) (N := 5) hx hb hT in_Page hown hK hP 1 rfl rfl 1 (by decide) (hT _ tw_275) (fun _ h9 => h9) rfl d_Ms_length_4 ?_
  have hP9 := pm_subP (a' := [(h0, .inr (12, [.ref m0, .ref m1, .ref m2])), (m2, .inr (6, [.ref p0, .int p1, .ref p2, .ref p3, .ref p4]))]) hP [0, 1] rfl
  have hD9 := pm_subD (a' := [(h0, .inr (12, [.ref m0, .ref m1, .ref m2])), (m2, .inr (6, [.ref p0, .int p1, .ref p2, .ref p3, .ref p4]))]) hD [0, 1] (by decide) rfl
  refine W.widen (k := 0) (n := 0) (Nat.le_of_ble_eq_true rfl) (Nat.le_of_ble_eq_true rfl) ?_
  exact W.iret (v := p1) hx hb hr (fun t ht1 hW => ⟨⟨_, (), rfl, rfl, by rw [ht1]; exact hP9, hD9⟩, hS.F ht1⟩) hS.2.2 d_Ms_length_7
def w_Ms_wipe : List Cond := .code ⟨"MatrixScripts", "wipe", "()I"⟩ prog_1_method_8_code 2 (some .int) :: wd_all
theorem gd_Ms_wipe : GoodIn wd_all w_Ms_wipe := gd_of tw_2037
set_option maxHeartbeats 4000000 in
set_option maxRecDepth 100000 in
theorem c_Ms_wipe (l : Launch) (D : va_G) (g : Nat → ClassId) (h0 : Nat) (m0 : Nat) (m1 : Nat) (m2 : Nat) (p0 : Nat) (p1 : Int32) (p2 : Nat) (p3 : Nat) (p4 : Nat) (sz : Nat) : Met l ⟨"MatrixScripts", "wipe", "()I"⟩ w_Ms_wipe { frames := 0, cells := 0, slots := 0, locals := 0 } (cp D g [.ref h0] [(h0, .inr (12, [.ref m0, .ref m1, .ref m2])), (m2, .inr (6, [.ref p0, .int p1, .ref p2, .ref p3, .ref p4]))] sz) (ci D (va_A [(h0, .inr (12, [.ref m0, .ref m1, .ref m2])), (m2, .inr (6, [.ref p0, .int p1, .ref p2, .ref p3, .ref p4]))] sz) (fun r _ => r = p1) (fun u : Unit => [(h0, .inr (12, [.ref m0, .ref m1, .ref m2])), (m2, .inr (6, [.ref p0, .int 0, .ref p2, .ref p3, .ref p4]))])) 0 0 (va_A [(h0, .inr (12, [.ref m0, .ref m1, .ref m2])), (m2, .inr (6, [.ref p0, .int p1, .ref p2, .ref p3, .ref p4]))] sz) := by
  refine Met.ofW (cc := prog_1_method_8_code) (maxL := 2) (ret := (some .int)) (by decide) rfl ?_
  intro p e s m args below meth c s₁ B0 hml hv
  obtain ⟨rfl, hsz, hP, hK, hD0, hN⟩ := hv
  have hx := B0.exec
  have hb := B0.bytes
  have hr := B0.returns
  have hts := atoms_spec (ws := w_Ms_wipe) B0.pre
  have hT := fun (w : Cond) (h : w ∈ wd_all) => hts w (List.mem_cons_of_mem _ h)
  have hown : s.vm.findClass "MatrixScripts" = some m.cls := findClass_of_methodNamed B0.named
  have hlocks := B0.notSynchronized
  subst hsz
  have hD := hD0.self (sz := s.heap.size)
  generalize hAe : va_A [(h0, .inr (12, [.ref m0, .ref m1, .ref m2])), (m2, .inr (6, [.ref p0, .int p1, .ref p2, .ref p3, .ref p4]))] s.heap.size = A at hD ⊢
  have hA : ∀ q : Nat, s.heap.size ≤ q → A q := fun q h => by rw [← hAe]; exact Or.inr h
  have hS : va_S A s.heap s.heap [] := va_S.rf
  have hP : va_P D vC ([(h0, .inr (12, [.ref m0, .ref m1, .ref m2])), (m2, .inr (6, [.ref p0, .int p1, .ref p2, .ref p3, .ref p4]))] ++ ([] : va_W)) s.heap := hP
  have hD : va_D A ([(h0, .inr (12, [.ref m0, .ref m1, .ref m2])), (m2, .inr (6, [.ref p0, .int p1, .ref p2, .ref p3, .ref p4]))] ++ ([] : va_W)) := hD
  have hl := lv_entry ([.ref h0]) (n := 2) (Nat.le_of_ble_eq_true rfl)
  rw [lg_entry_eq]
  generalize (lg_sl ([.ref h0]) ++ List.replicate (2 - (lg_sl ([.ref h0])).length) Slot.unset).toArray = ls at hl ⊢
  have hl : lv_has ls 2 [(0, .ref h0)] := hl
  refine lv_aload_n hx hb d_Ms_wipe_0 rfl (lv_at hl 0 rfl) ?_
  refine va_get (D := D) (ci := 12) (v := .ref m2) (C := "MatrixScripts") (T := T_Ms) (N := 3) hx hb hT in_Ms hown hK hP 0 rfl rfl 2 (by decide) (hT _ tw_741) (fun _ h9 => h9) rfl d_Ms_wipe_1 ?_
  refine va_get (D := D) (ci := 6) (v := .int p1) (C := "MatrixScripts$Page") (T := T_Page) (N := 5) hx hb hT in_Page hown hK hP 1 rfl rfl 1 (by decide) (hT _ tw_275) (fun _ h9 => h9) rfl d_Ms_wipe_4 ?_
  refine lv_istore_n (lv' := [(1, .int p1), (0, .ref h0)]) hx hb d_Ms_wipe_7 rfl hl (by decide) rfl (fun ls hl => ?_)
  refine lv_aload_n hx hb d_Ms_wipe_8 rfl (lv_at hl 1 rfl) ?_
  refine va_get (D := D) (ci := 12) (v := .ref m2) (C := "MatrixScripts") (T := T_Ms) (N := 3) hx hb hT in_Ms hown hK hP 0 rfl rfl 2 (by decide) (hT _ tw_741) (fun _ h9 => h9) rfl d_Ms_wipe_9 ?_
  refine lv_iconst (v := 0) hx hb d_Ms_wipe_12 (by decide) ?_
  refine va_put (D := D) (ci := 6) (v := .int 0) (ty := .int) (C := "MatrixScripts$Page") (T := T_Page) (N := 5) hx hb hT in_Page ty_Page ty_Page_ok nm_Page hown hK hP hD hS 1 rfl rfl 1 (by decide) (hT _ tw_275) (fun _ h9 => h9) rfl (by decide +kernel) rfl rfl (Nat.le_of_ble_eq_true rfl) d_Ms_wipe_13 (fun H locs hP hD hS => ?_)
  have hP : va_P D vC ([(h0, .inr (12, [.ref m0, .ref m1, .ref m2])), (m2, .inr (6, [.ref p0, .int 0, .ref p2, .ref p3, .ref p4]))] ++ ([] : va_W)) H := hP
  have hD : va_D A ([(h0, .inr (12, [.ref m0, .ref m1, .ref m2])), (m2, .inr (6, [.ref p0, .int 0, .ref p2, .ref p3, .ref p4]))] ++ ([] : va_W)) := hD
  refine lv_iload_n hx hb d_Ms_wipe_16 rfl (lv_at hl 0 rfl) ?_
  have hP9 := pm_subP (a' := [(h0, .inr (12, [.ref m0, .ref m1, .ref m2])), (m2, .inr (6, [.ref p0, .int 0, .ref p2, .ref p3, .ref p4]))]) hP [0, 1] rfl
  have hD9 := pm_subD (a' := [(h0, .inr (12, [.ref m0, .ref m1, .ref m2])), (m2, .inr (6, [.ref p0, .int 0, .ref p2, .ref p3, .ref p4]))]) hD [0, 1] (by decide) rfl
  refine W.widen (k := 0) (n := 0) (Nat.le_of_ble_eq_true rfl) (Nat.le_of_ble_eq_true rfl) ?_
  exact W.iret (v := p1) hx hb hr (fun t ht1 hW => ⟨⟨_, (), rfl, rfl, by rw [ht1]; exact hP9, hD9⟩, hS.F ht1⟩) hS.2.2 d_Ms_wipe_17
def w_Ms_forget : List Cond := .code ⟨"MatrixScripts", "forget", "()I"⟩ prog_1_method_9_code 1 (some .int) :: wd_all
theorem gd_Ms_forget : GoodIn wd_all w_Ms_forget := gd_of tw_2041
set_option maxHeartbeats 4000000 in
set_option maxRecDepth 100000 in
theorem c_Ms_forget (l : Launch) (D : va_G) (g : Nat → ClassId) (h0 : Nat) (m0 : Nat) (m1 : Nat) (m2 : Nat) (s0 : Nat) (s1 : Nat) (s2 : Nat) (s3 : Int32) (s4 : Int32) (s5 : Int32) (s6 : Int32) (s7 : Int32) (s8 : Nat) (s9 : Nat) (s10 : Nat) (s11 : Nat) (s12 : Nat) (s13 : Int32) (s14 : Int32) (s15 : Nat) (s16 : Int32) (a0 : Int32) (a1 : Int32) (a2 : Int32) (a3 : Nat) (a4 : Nat) (a5 : Int32) (sz : Nat) : Met l ⟨"MatrixScripts", "forget", "()I"⟩ w_Ms_forget { frames := 1, cells := 0, slots := 0, locals := 21 } (cp D g [.ref h0] [(h0, .inr (12, [.ref m0, .ref m1, .ref m2])), (m0, .inr (8, [.ref s0, .ref s1, .ref s2, .int s3, .int s4, .int s5, .int s6, .int s7, .ref s8, .ref s9, .ref s10, .ref s11, .ref s12, .int s13, .int s14, .ref s15, .int s16])), (s2, .inr (10, [.int a0, .int a1, .int a2, .ref a3, .ref a4, .int a5]))] sz) (ci D (va_A [(h0, .inr (12, [.ref m0, .ref m1, .ref m2])), (m0, .inr (8, [.ref s0, .ref s1, .ref s2, .int s3, .int s4, .int s5, .int s6, .int s7, .ref s8, .ref s9, .ref s10, .ref s11, .ref s12, .int s13, .int s14, .ref s15, .int s16])), (s2, .inr (10, [.int a0, .int a1, .int a2, .ref a3, .ref a4, .int a5]))] sz) (fun r _ => r = a0) (fun u : Unit => [(h0, .inr (12, [.ref m0, .ref m1, .ref m2])), (m0, .inr (8, [.ref s0, .ref s1, .ref s2, .int s3, .int s4, .int s5, .int s6, .int s7, .ref s8, .ref s9, .ref s10, .ref s11, .ref s12, .int s13, .int s14, .ref s15, .int s16])), (s2, .inr (10, [.int 0, .int 0, .int 0, .ref a3, .ref a4, .int 0]))])) 0 0 (va_A [(h0, .inr (12, [.ref m0, .ref m1, .ref m2])), (m0, .inr (8, [.ref s0, .ref s1, .ref s2, .int s3, .int s4, .int s5, .int s6, .int s7, .ref s8, .ref s9, .ref s10, .ref s11, .ref s12, .int s13, .int s14, .ref s15, .int s16])), (s2, .inr (10, [.int a0, .int a1, .int a2, .ref a3, .ref a4, .int a5]))] sz) := by
  refine Met.ofW (cc := prog_1_method_9_code) (maxL := 1) (ret := (some .int)) (by decide) rfl ?_
  intro p e s m args below meth c s₁ B0 hml hv
  obtain ⟨rfl, hsz, hP, hK, hD0, hN⟩ := hv
  have hx := B0.exec
  have hb := B0.bytes
  have hr := B0.returns
  have hts := atoms_spec (ws := w_Ms_forget) B0.pre
  have hT := fun (w : Cond) (h : w ∈ wd_all) => hts w (List.mem_cons_of_mem _ h)
  have hown : s.vm.findClass "MatrixScripts" = some m.cls := findClass_of_methodNamed B0.named
  have hlocks := B0.notSynchronized
  subst hsz
  have hD := hD0.self (sz := s.heap.size)
  generalize hAe : va_A [(h0, .inr (12, [.ref m0, .ref m1, .ref m2])), (m0, .inr (8, [.ref s0, .ref s1, .ref s2, .int s3, .int s4, .int s5, .int s6, .int s7, .ref s8, .ref s9, .ref s10, .ref s11, .ref s12, .int s13, .int s14, .ref s15, .int s16])), (s2, .inr (10, [.int a0, .int a1, .int a2, .ref a3, .ref a4, .int a5]))] s.heap.size = A at hD ⊢
  have hA : ∀ q : Nat, s.heap.size ≤ q → A q := fun q h => by rw [← hAe]; exact Or.inr h
  have hS : va_S A s.heap s.heap [] := va_S.rf
  have hP : va_P D vC ([(h0, .inr (12, [.ref m0, .ref m1, .ref m2])), (m0, .inr (8, [.ref s0, .ref s1, .ref s2, .int s3, .int s4, .int s5, .int s6, .int s7, .ref s8, .ref s9, .ref s10, .ref s11, .ref s12, .int s13, .int s14, .ref s15, .int s16])), (s2, .inr (10, [.int a0, .int a1, .int a2, .ref a3, .ref a4, .int a5]))] ++ ([] : va_W)) s.heap := hP
  have hD : va_D A ([(h0, .inr (12, [.ref m0, .ref m1, .ref m2])), (m0, .inr (8, [.ref s0, .ref s1, .ref s2, .int s3, .int s4, .int s5, .int s6, .int s7, .ref s8, .ref s9, .ref s10, .ref s11, .ref s12, .int s13, .int s14, .ref s15, .int s16])), (s2, .inr (10, [.int a0, .int a1, .int a2, .ref a3, .ref a4, .int a5]))] ++ ([] : va_W)) := hD
  have hl := lv_entry ([.ref h0]) (n := 1) (Nat.le_of_ble_eq_true rfl)
  rw [lg_entry_eq]
  generalize (lg_sl ([.ref h0]) ++ List.replicate (1 - (lg_sl ([.ref h0])).length) Slot.unset).toArray = ls at hl ⊢
  have hl : lv_has ls 1 [(0, .ref h0)] := hl
  refine lv_aload_n hx hb d_Ms_forget_0 rfl (lv_at hl 0 rfl) ?_
  refine va_get (D := D) (ci := 12) (v := .ref m0) (C := "MatrixScripts") (T := T_Ms) (N := 3) hx hb hT in_Ms hown hK hP 0 rfl rfl 0 (by decide) (hT _ tw_739) (fun _ h9 => h9) rfl d_Ms_forget_1 ?_
  refine va_get (D := D) (ci := 8) (v := .ref s2) (C := "MatrixScripts$Script") (T := T_Script) (N := 17) hx hb hT in_Script hown hK hP 1 rfl rfl 2 (by decide) (hT _ tw_683) (fun _ h9 => h9) rfl d_Ms_forget_4 ?_
  have hP := pm_subP (a' := [(s2, .inr (10, [.int a0, .int a1, .int a2, .ref a3, .ref a4, .int a5])), (h0, .inr (12, [.ref m0, .ref m1, .ref m2])), (m0, .inr (8, [.ref s0, .ref s1, .ref s2, .int s3, .int s4, .int s5, .int s6, .int s7, .ref s8, .ref s9, .ref s10, .ref s11, .ref s12, .int s13, .int s14, .ref s15, .int s16]))]) hP [2, 0, 1] rfl
  have hD := pm_subD (a' := [(s2, .inr (10, [.int a0, .int a1, .int a2, .ref a3, .ref a4, .int a5])), (h0, .inr (12, [.ref m0, .ref m1, .ref m2])), (m0, .inr (8, [.ref s0, .ref s1, .ref s2, .int s3, .int s4, .int s5, .int s6, .int s7, .ref s8, .ref s9, .ref s10, .ref s11, .ref s12, .int s13, .int s14, .ref s15, .int s16]))]) hD [2, 0, 1] (by decide) rfl
  have hP : va_P D vC ([(s2, .inr (10, [.int a0, .int a1, .int a2, .ref a3, .ref a4, .int a5]))] ++ ([(h0, .inr (12, [.ref m0, .ref m1, .ref m2])), (m0, .inr (8, [.ref s0, .ref s1, .ref s2, .int s3, .int s4, .int s5, .int s6, .int s7, .ref s8, .ref s9, .ref s10, .ref s11, .ref s12, .int s13, .int s14, .ref s15, .int s16]))] ++ ([] : va_W))) s.heap := hP
  have hD : va_D A ([(s2, .inr (10, [.int a0, .int a1, .int a2, .ref a3, .ref a4, .int a5]))] ++ ([(h0, .inr (12, [.ref m0, .ref m1, .ref m2])), (m0, .inr (8, [.ref s0, .ref s1, .ref s2, .int s3, .int s4, .int s5, .int s6, .int s7, .ref s8, .ref s9, .ref s10, .ref s11, .ref s12, .int s13, .int s14, .ref s15, .int s16]))] ++ ([] : va_W))) := hD
  have hFc := pm_free hD hS hA
  refine va_calli (va_runV (As := []) (rest := []) ⟨hx, hb, hml, hown, hT⟩ (c_Values_clear l D g s2 a0 a1 a2 a3 a4 a5 s.heap.size) (cwV 0 hT (gdV tw_2042 tw_759 tw_760 tw_159 tw_761) rfl rfl rfl (by decide +kernel) ⟨Nat.le_of_ble_eq_true rfl, Nat.le_of_ble_eq_true rfl⟩) (cp_V (C := "MatrixScripts$Values") (T := T_Values) (N := 6) (ci := 10) hP hK hD hN rfl) rfl rfl hl.1 rfl (lv_room (Nat.le_of_ble_eq_true rfl)) d_Ms_forget_7 ⟨Nat.le_of_ble_eq_true rfl, Nat.le_of_ble_eq_true rfl⟩) hS (fun q _ h => hFc q h) hFc (fun r7 u7 t H1 locs ht1 hvm hw hB hz1 hk1 hS => ?_)
  obtain ⟨hP1, hD1⟩ := hB
  rw [ht1] at hP1
  obtain ⟨hP, hD⟩ := pm_join hP hD hk1 hFc hP1 hD1
  generalize H1 = H at hP hS ⊢
  have hw7 := hw
  have hP : va_P D vC ([(s2, .inr (10, [.int 0, .int 0, .int 0, .ref a3, .ref a4, .int 0])), (h0, .inr (12, [.ref m0, .ref m1, .ref m2])), (m0, .inr (8, [.ref s0, .ref s1, .ref s2, .int s3, .int s4, .int s5, .int s6, .int s7, .ref s8, .ref s9, .ref s10, .ref s11, .ref s12, .int s13, .int s14, .ref s15, .int s16]))] ++ ([] : va_W)) H := hP
  have hD : va_D A ([(s2, .inr (10, [.int 0, .int 0, .int 0, .ref a3, .ref a4, .int 0])), (h0, .inr (12, [.ref m0, .ref m1, .ref m2])), (m0, .inr (8, [.ref s0, .ref s1, .ref s2, .int s3, .int s4, .int s5, .int s6, .int s7, .ref s8, .ref s9, .ref s10, .ref s11, .ref s12, .int s13, .int s14, .ref s15, .int s16]))] ++ ([] : va_W)) := hD
  have hP9 := pm_subP (a' := [(h0, .inr (12, [.ref m0, .ref m1, .ref m2])), (m0, .inr (8, [.ref s0, .ref s1, .ref s2, .int s3, .int s4, .int s5, .int s6, .int s7, .ref s8, .ref s9, .ref s10, .ref s11, .ref s12, .int s13, .int s14, .ref s15, .int s16])), (s2, .inr (10, [.int 0, .int 0, .int 0, .ref a3, .ref a4, .int 0]))]) hP [1, 2, 0] rfl
  have hD9 := pm_subD (a' := [(h0, .inr (12, [.ref m0, .ref m1, .ref m2])), (m0, .inr (8, [.ref s0, .ref s1, .ref s2, .int s3, .int s4, .int s5, .int s6, .int s7, .ref s8, .ref s9, .ref s10, .ref s11, .ref s12, .int s13, .int s14, .ref s15, .int s16])), (s2, .inr (10, [.int 0, .int 0, .int 0, .ref a3, .ref a4, .int 0]))]) hD [1, 2, 0] (by decide) rfl
  refine W.widen (k := 0) (n := 0) (Nat.le_of_ble_eq_true rfl) (Nat.le_of_ble_eq_true rfl) ?_
  exact W.iret (v := r7) hx hb hr (fun t ht1 hW => ⟨⟨_, (), rfl, hw7, by rw [ht1]; exact hP9, hD9⟩, hS.F ht1⟩) hS.2.2 d_Ms_forget_10
def w_Ms_told : List Cond := .code ⟨"MatrixScripts", "told", "(I)I"⟩ prog_1_method_10_code 2 (some .int) :: wd_all
theorem gd_Ms_told : GoodIn wd_all w_Ms_told := gd_of tw_2046
set_option maxHeartbeats 4000000 in
set_option maxRecDepth 100000 in
theorem c_Ms_told (l : Launch) (D : va_G) (g : Nat → ClassId) (h0 : Nat) (m0 : Nat) (m1 : Nat) (m2 : Nat) (s0 : Nat) (s1 : Nat) (s2 : Nat) (s3 : Int32) (s4 : Int32) (s5 : Int32) (s6 : Int32) (s7 : Int32) (s8 : Nat) (s9 : Nat) (s10 : Nat) (s11 : Nat) (s12 : Nat) (s13 : Int32) (s14 : Int32) (s15 : Nat) (s16 : Int32) (a0 : Int32) (a1 : Int32) (a2 : Int32) (a3 : Nat) (a4 : Nat) (a5 : Int32) (t0 : Nat) (t1 : Int32) (t2 : Int32) (t3 : Int32) (t4 : Int32) (w : Int32) (sz : Nat) : Met l ⟨"MatrixScripts", "told", "(I)I"⟩ w_Ms_told { frames := 0, cells := 0, slots := 0, locals := 0 } (cp D g [.ref h0, .int w] [(h0, .inr (12, [.ref m0, .ref m1, .ref m2])), (m0, .inr (8, [.ref s0, .ref s1, .ref s2, .int s3, .int s4, .int s5, .int s6, .int s7, .ref s8, .ref s9, .ref s10, .ref s11, .ref s12, .int s13, .int s14, .ref s15, .int s16])), (s2, .inr (10, [.int a0, .int a1, .int a2, .ref a3, .ref a4, .int a5])), (m1, .inr (9, [.ref t0, .int t1, .int t2, .int t3, .int t4]))] sz) (ci D (va_A [(h0, .inr (12, [.ref m0, .ref m1, .ref m2])), (m0, .inr (8, [.ref s0, .ref s1, .ref s2, .int s3, .int s4, .int s5, .int s6, .int s7, .ref s8, .ref s9, .ref s10, .ref s11, .ref s12, .int s13, .int s14, .ref s15, .int s16])), (s2, .inr (10, [.int a0, .int a1, .int a2, .ref a3, .ref a4, .int a5])), (m1, .inr (9, [.ref t0, .int t1, .int t2, .int t3, .int t4]))] sz) (fun r _ => r = if w = 0 then a0 else if w = 1 then a2 else if w = 2 then s5 else if w = 3 then t1 else -1) (fun u : Unit => [(h0, .inr (12, [.ref m0, .ref m1, .ref m2])), (m0, .inr (8, [.ref s0, .ref s1, .ref s2, .int s3, .int s4, .int s5, .int s6, .int s7, .ref s8, .ref s9, .ref s10, .ref s11, .ref s12, .int s13, .int s14, .ref s15, .int s16])), (s2, .inr (10, [.int a0, .int a1, .int a2, .ref a3, .ref a4, .int a5])), (m1, .inr (9, [.ref t0, .int t1, .int t2, .int t3, .int t4]))])) 0 0 (va_A [(h0, .inr (12, [.ref m0, .ref m1, .ref m2])), (m0, .inr (8, [.ref s0, .ref s1, .ref s2, .int s3, .int s4, .int s5, .int s6, .int s7, .ref s8, .ref s9, .ref s10, .ref s11, .ref s12, .int s13, .int s14, .ref s15, .int s16])), (s2, .inr (10, [.int a0, .int a1, .int a2, .ref a3, .ref a4, .int a5])), (m1, .inr (9, [.ref t0, .int t1, .int t2, .int t3, .int t4]))] sz) := by
  refine Met.ofW (cc := prog_1_method_10_code) (maxL := 2) (ret := (some .int)) (by decide) rfl ?_
  intro p e s m args below meth c s₁ B0 hml hv
  obtain ⟨rfl, hsz, hP, hK, hD0, hN⟩ := hv
  have hx := B0.exec
  have hb := B0.bytes
  have hr := B0.returns
  have hts := atoms_spec (ws := w_Ms_told) B0.pre
  have hT := fun (w : Cond) (h : w ∈ wd_all) => hts w (List.mem_cons_of_mem _ h)
  have hown : s.vm.findClass "MatrixScripts" = some m.cls := findClass_of_methodNamed B0.named
  have hlocks := B0.notSynchronized
  subst hsz
  have hD := hD0.self (sz := s.heap.size)
  generalize hAe : va_A [(h0, .inr (12, [.ref m0, .ref m1, .ref m2])), (m0, .inr (8, [.ref s0, .ref s1, .ref s2, .int s3, .int s4, .int s5, .int s6, .int s7, .ref s8, .ref s9, .ref s10, .ref s11, .ref s12, .int s13, .int s14, .ref s15, .int s16])), (s2, .inr (10, [.int a0, .int a1, .int a2, .ref a3, .ref a4, .int a5])), (m1, .inr (9, [.ref t0, .int t1, .int t2, .int t3, .int t4]))] s.heap.size = A at hD ⊢
  have hA : ∀ q : Nat, s.heap.size ≤ q → A q := fun q h => by rw [← hAe]; exact Or.inr h
  have hS : va_S A s.heap s.heap [] := va_S.rf
  have hP : va_P D vC ([(h0, .inr (12, [.ref m0, .ref m1, .ref m2])), (m0, .inr (8, [.ref s0, .ref s1, .ref s2, .int s3, .int s4, .int s5, .int s6, .int s7, .ref s8, .ref s9, .ref s10, .ref s11, .ref s12, .int s13, .int s14, .ref s15, .int s16])), (s2, .inr (10, [.int a0, .int a1, .int a2, .ref a3, .ref a4, .int a5])), (m1, .inr (9, [.ref t0, .int t1, .int t2, .int t3, .int t4]))] ++ ([] : va_W)) s.heap := hP
  have hD : va_D A ([(h0, .inr (12, [.ref m0, .ref m1, .ref m2])), (m0, .inr (8, [.ref s0, .ref s1, .ref s2, .int s3, .int s4, .int s5, .int s6, .int s7, .ref s8, .ref s9, .ref s10, .ref s11, .ref s12, .int s13, .int s14, .ref s15, .int s16])), (s2, .inr (10, [.int a0, .int a1, .int a2, .ref a3, .ref a4, .int a5])), (m1, .inr (9, [.ref t0, .int t1, .int t2, .int t3, .int t4]))] ++ ([] : va_W)) := hD
  have hl := lv_entry ([.ref h0, .int w]) (n := 2) (Nat.le_of_ble_eq_true rfl)
  rw [lg_entry_eq]
  generalize (lg_sl ([.ref h0, .int w]) ++ List.replicate (2 - (lg_sl ([.ref h0, .int w])).length) Slot.unset).toArray = ls at hl ⊢
  have hl : lv_has ls 2 [(0, .ref h0), (1, .int w)] := hl
  refine lv_iload_n hx hb d_Ms_told_0 rfl (lv_at hl 1 rfl) ?_
  rcases sw_cases w 4 (by decide) with c1 | ⟨k1, hk1, ec1⟩
  · refine lv_tableOut (tgt := 70) hx hb d_Ms_told_1 c1 (by decide) ?_
    refine lv_iconst (v := -1) hx hb d_Ms_told_70 (by decide) ?_
    have hP9 := pm_subP (a' := [(h0, .inr (12, [.ref m0, .ref m1, .ref m2])), (m0, .inr (8, [.ref s0, .ref s1, .ref s2, .int s3, .int s4, .int s5, .int s6, .int s7, .ref s8, .ref s9, .ref s10, .ref s11, .ref s12, .int s13, .int s14, .ref s15, .int s16])), (s2, .inr (10, [.int a0, .int a1, .int a2, .ref a3, .ref a4, .int a5])), (m1, .inr (9, [.ref t0, .int t1, .int t2, .int t3, .int t4]))]) hP [0, 1, 2, 3] rfl
    have hD9 := pm_subD (a' := [(h0, .inr (12, [.ref m0, .ref m1, .ref m2])), (m0, .inr (8, [.ref s0, .ref s1, .ref s2, .int s3, .int s4, .int s5, .int s6, .int s7, .ref s8, .ref s9, .ref s10, .ref s11, .ref s12, .int s13, .int s14, .ref s15, .int s16])), (s2, .inr (10, [.int a0, .int a1, .int a2, .ref a3, .ref a4, .int a5])), (m1, .inr (9, [.ref t0, .int t1, .int t2, .int t3, .int t4]))]) hD [0, 1, 2, 3] (by decide) rfl
    refine W.widen (k := 0) (n := 0) (Nat.le_of_ble_eq_true rfl) (Nat.le_of_ble_eq_true rfl) ?_
    exact W.iret (v := (-1)) hx hb hr (fun t ht1 hW => ⟨⟨_, (), rfl, by rw [if_neg (fun h => by subst h; revert c1; decide), if_neg (fun h => by subst h; revert c1; decide), if_neg (fun h => by subst h; revert c1; decide), if_neg (fun h => by subst h; revert c1; decide)], by rw [ht1]; exact hP9, hD9⟩, hS.F ht1⟩) hS.2.2 d_Ms_told_71
  · have hk9 : k1 = 0 ∨ k1 = 1 ∨ k1 = 2 ∨ k1 = 3 := by omega
    rcases hk9 with rfl | rfl | rfl | rfl
    · refine lv_tableIn (tgt := 32) hx hb d_Ms_told_1 (by rw [ec1]; decide) (by rw [ec1]; decide) (off := 31) (by rw [ec1]; rfl) (by decide) ?_
      refine lv_aload_n hx hb d_Ms_told_32 rfl (lv_at hl 0 rfl) ?_
      refine va_get (D := D) (ci := 12) (v := .ref m0) (C := "MatrixScripts") (T := T_Ms) (N := 3) hx hb hT in_Ms hown hK hP 0 rfl rfl 0 (by decide) (hT _ tw_739) (fun _ h9 => h9) rfl d_Ms_told_33 ?_
      refine va_get (D := D) (ci := 8) (v := .ref s2) (C := "MatrixScripts$Script") (T := T_Script) (N := 17) hx hb hT in_Script hown hK hP 1 rfl rfl 2 (by decide) (hT _ tw_683) (fun _ h9 => h9) rfl d_Ms_told_36 ?_
      refine va_get (D := D) (ci := 10) (v := .int a0) (C := "MatrixScripts$Values") (T := T_Values) (N := 6) hx hb hT in_Values hown hK hP 2 rfl rfl 0 (by decide) (hT _ tw_298) (fun _ h9 => h9) rfl d_Ms_told_39 ?_
      have hP9 := pm_subP (a' := [(h0, .inr (12, [.ref m0, .ref m1, .ref m2])), (m0, .inr (8, [.ref s0, .ref s1, .ref s2, .int s3, .int s4, .int s5, .int s6, .int s7, .ref s8, .ref s9, .ref s10, .ref s11, .ref s12, .int s13, .int s14, .ref s15, .int s16])), (s2, .inr (10, [.int a0, .int a1, .int a2, .ref a3, .ref a4, .int a5])), (m1, .inr (9, [.ref t0, .int t1, .int t2, .int t3, .int t4]))]) hP [0, 1, 2, 3] rfl
      have hD9 := pm_subD (a' := [(h0, .inr (12, [.ref m0, .ref m1, .ref m2])), (m0, .inr (8, [.ref s0, .ref s1, .ref s2, .int s3, .int s4, .int s5, .int s6, .int s7, .ref s8, .ref s9, .ref s10, .ref s11, .ref s12, .int s13, .int s14, .ref s15, .int s16])), (s2, .inr (10, [.int a0, .int a1, .int a2, .ref a3, .ref a4, .int a5])), (m1, .inr (9, [.ref t0, .int t1, .int t2, .int t3, .int t4]))]) hD [0, 1, 2, 3] (by decide) rfl
      refine W.widen (k := 0) (n := 0) (Nat.le_of_ble_eq_true rfl) (Nat.le_of_ble_eq_true rfl) ?_
      exact W.iret (v := a0) hx hb hr (fun t ht1 hW => ⟨⟨_, (), rfl, by subst ec1; rfl, by rw [ht1]; exact hP9, hD9⟩, hS.F ht1⟩) hS.2.2 d_Ms_told_42
    · refine lv_tableIn (tgt := 43) hx hb d_Ms_told_1 (by rw [ec1]; decide) (by rw [ec1]; decide) (off := 42) (by rw [ec1]; rfl) (by decide) ?_
      refine lv_aload_n hx hb d_Ms_told_43 rfl (lv_at hl 0 rfl) ?_
      refine va_get (D := D) (ci := 12) (v := .ref m0) (C := "MatrixScripts") (T := T_Ms) (N := 3) hx hb hT in_Ms hown hK hP 0 rfl rfl 0 (by decide) (hT _ tw_739) (fun _ h9 => h9) rfl d_Ms_told_44 ?_
      refine va_get (D := D) (ci := 8) (v := .ref s2) (C := "MatrixScripts$Script") (T := T_Script) (N := 17) hx hb hT in_Script hown hK hP 1 rfl rfl 2 (by decide) (hT _ tw_683) (fun _ h9 => h9) rfl d_Ms_told_47 ?_
      refine va_get (D := D) (ci := 10) (v := .int a2) (C := "MatrixScripts$Values") (T := T_Values) (N := 6) hx hb hT in_Values hown hK hP 2 rfl rfl 2 (by decide) (hT _ tw_305) (fun _ h9 => h9) rfl d_Ms_told_50 ?_
      have hP9 := pm_subP (a' := [(h0, .inr (12, [.ref m0, .ref m1, .ref m2])), (m0, .inr (8, [.ref s0, .ref s1, .ref s2, .int s3, .int s4, .int s5, .int s6, .int s7, .ref s8, .ref s9, .ref s10, .ref s11, .ref s12, .int s13, .int s14, .ref s15, .int s16])), (s2, .inr (10, [.int a0, .int a1, .int a2, .ref a3, .ref a4, .int a5])), (m1, .inr (9, [.ref t0, .int t1, .int t2, .int t3, .int t4]))]) hP [0, 1, 2, 3] rfl
      have hD9 := pm_subD (a' := [(h0, .inr (12, [.ref m0, .ref m1, .ref m2])), (m0, .inr (8, [.ref s0, .ref s1, .ref s2, .int s3, .int s4, .int s5, .int s6, .int s7, .ref s8, .ref s9, .ref s10, .ref s11, .ref s12, .int s13, .int s14, .ref s15, .int s16])), (s2, .inr (10, [.int a0, .int a1, .int a2, .ref a3, .ref a4, .int a5])), (m1, .inr (9, [.ref t0, .int t1, .int t2, .int t3, .int t4]))]) hD [0, 1, 2, 3] (by decide) rfl
      refine W.widen (k := 0) (n := 0) (Nat.le_of_ble_eq_true rfl) (Nat.le_of_ble_eq_true rfl) ?_
      exact W.iret (v := a2) hx hb hr (fun t ht1 hW => ⟨⟨_, (), rfl, by subst ec1; rfl, by rw [ht1]; exact hP9, hD9⟩, hS.F ht1⟩) hS.2.2 d_Ms_told_53
    · refine lv_tableIn (tgt := 54) hx hb d_Ms_told_1 (by rw [ec1]; decide) (by rw [ec1]; decide) (off := 53) (by rw [ec1]; rfl) (by decide) ?_
      refine lv_aload_n hx hb d_Ms_told_54 rfl (lv_at hl 0 rfl) ?_
      refine va_get (D := D) (ci := 12) (v := .ref m0) (C := "MatrixScripts") (T := T_Ms) (N := 3) hx hb hT in_Ms hown hK hP 0 rfl rfl 0 (by decide) (hT _ tw_739) (fun _ h9 => h9) rfl d_Ms_told_55 ?_
      refine va_get (D := D) (ci := 8) (v := .int s5) (C := "MatrixScripts$Script") (T := T_Script) (N := 17) hx hb hT in_Script hown hK hP 1 rfl rfl 5 (by decide) (hT _ tw_688) (fun _ h9 => h9) rfl d_Ms_told_58 ?_
      have hP9 := pm_subP (a' := [(h0, .inr (12, [.ref m0, .ref m1, .ref m2])), (m0, .inr (8, [.ref s0, .ref s1, .ref s2, .int s3, .int s4, .int s5, .int s6, .int s7, .ref s8, .ref s9, .ref s10, .ref s11, .ref s12, .int s13, .int s14, .ref s15, .int s16])), (s2, .inr (10, [.int a0, .int a1, .int a2, .ref a3, .ref a4, .int a5])), (m1, .inr (9, [.ref t0, .int t1, .int t2, .int t3, .int t4]))]) hP [0, 1, 2, 3] rfl
      have hD9 := pm_subD (a' := [(h0, .inr (12, [.ref m0, .ref m1, .ref m2])), (m0, .inr (8, [.ref s0, .ref s1, .ref s2, .int s3, .int s4, .int s5, .int s6, .int s7, .ref s8, .ref s9, .ref s10, .ref s11, .ref s12, .int s13, .int s14, .ref s15, .int s16])), (s2, .inr (10, [.int a0, .int a1, .int a2, .ref a3, .ref a4, .int a5])), (m1, .inr (9, [.ref t0, .int t1, .int t2, .int t3, .int t4]))]) hD [0, 1, 2, 3] (by decide) rfl
      refine W.widen (k := 0) (n := 0) (Nat.le_of_ble_eq_true rfl) (Nat.le_of_ble_eq_true rfl) ?_
      exact W.iret (v := s5) hx hb hr (fun t ht1 hW => ⟨⟨_, (), rfl, by subst ec1; rfl, by rw [ht1]; exact hP9, hD9⟩, hS.F ht1⟩) hS.2.2 d_Ms_told_61
    · refine lv_tableIn (tgt := 62) hx hb d_Ms_told_1 (by rw [ec1]; decide) (by rw [ec1]; decide) (off := 61) (by rw [ec1]; rfl) (by decide) ?_
      refine lv_aload_n hx hb d_Ms_told_62 rfl (lv_at hl 0 rfl) ?_
      refine va_get (D := D) (ci := 12) (v := .ref m1) (C := "MatrixScripts") (T := T_Ms) (N := 3) hx hb hT in_Ms hown hK hP 0 rfl rfl 1 (by decide) (hT _ tw_740) (fun _ h9 => h9) rfl d_Ms_told_63 ?_
      refine va_get (D := D) (ci := 9) (v := .int t1) (C := "MatrixScripts$Tape") (T := T_Tape) (N := 5) hx hb hT in_Tape hown hK hP 3 rfl rfl 1 (by decide) (hT _ tw_214) (fun _ h9 => h9) rfl d_Ms_told_66 ?_
      have hP9 := pm_subP (a' := [(h0, .inr (12, [.ref m0, .ref m1, .ref m2])), (m0, .inr (8, [.ref s0, .ref s1, .ref s2, .int s3, .int s4, .int s5, .int s6, .int s7, .ref s8, .ref s9, .ref s10, .ref s11, .ref s12, .int s13, .int s14, .ref s15, .int s16])), (s2, .inr (10, [.int a0, .int a1, .int a2, .ref a3, .ref a4, .int a5])), (m1, .inr (9, [.ref t0, .int t1, .int t2, .int t3, .int t4]))]) hP [0, 1, 2, 3] rfl
      have hD9 := pm_subD (a' := [(h0, .inr (12, [.ref m0, .ref m1, .ref m2])), (m0, .inr (8, [.ref s0, .ref s1, .ref s2, .int s3, .int s4, .int s5, .int s6, .int s7, .ref s8, .ref s9, .ref s10, .ref s11, .ref s12, .int s13, .int s14, .ref s15, .int s16])), (s2, .inr (10, [.int a0, .int a1, .int a2, .ref a3, .ref a4, .int a5])), (m1, .inr (9, [.ref t0, .int t1, .int t2, .int t3, .int t4]))]) hD [0, 1, 2, 3] (by decide) rfl
      refine W.widen (k := 0) (n := 0) (Nat.le_of_ble_eq_true rfl) (Nat.le_of_ble_eq_true rfl) ?_
      exact W.iret (v := t1) hx hb hr (fun t ht1 hW => ⟨⟨_, (), rfl, by subst ec1; rfl, by rw [ht1]; exact hP9, hD9⟩, hS.F ht1⟩) hS.2.2 d_Ms_told_69
def w_Ms_end : List Cond := .code ⟨"MatrixScripts", "end", "(I)V"⟩ prog_1_method_3_code 2 none :: wd_all
theorem gd_Ms_end : GoodIn wd_all w_Ms_end := gd_of tw_2069
set_option maxHeartbeats 4000000 in
set_option maxRecDepth 100000 in
theorem c_Ms_end (l : Launch) (hfl : ∀ e, l.admits e → e.platform.stackTraces = false) (D : va_G) (g : Nat → ClassId) (h0 : Nat) (m0 : Nat) (m1 : Nat) (m2 : Nat) (t0 : Nat) (t1 : Int32) (t2 : Int32) (t3 : Int32) (t4 : Int32) (n : Int32) (sz : Nat) : MetE l ⟨"MatrixScripts", "end", "(I)V"⟩ w_Ms_end { frames := 6, cells := 1, slots := 6, locals := 81 } (cpz D g [.ref h0, .int n] [(h0, .inr (12, [.ref m0, .ref m1, .ref m2])), (m1, .inr (9, [.ref t0, .int t1, .int t2, .int t3, .int t4]))] sz) (cE D (va_A [(h0, .inr (12, [.ref m0, .ref m1, .ref m2])), (m1, .inr (9, [.ref t0, .int t1, .int t2, .int t3, .int t4]))] sz) "java/lang/IllegalArgumentException" (fun v _ => v = none ∧ ¬ (n < 0 ∨ t1 < n)) (fun u : Unit => [(h0, .inr (12, [.ref m0, .ref m1, .ref m2])), (m1, .inr (9, [.ref t0, .int n, .int t2, .int t3, .int t4]))]) (n < 0 ∨ t1 < n) [(h0, .inr (12, [.ref m0, .ref m1, .ref m2])), (m1, .inr (9, [.ref t0, .int t1, .int t2, .int t3, .int t4]))]) 1 6 (va_A [(h0, .inr (12, [.ref m0, .ref m1, .ref m2])), (m1, .inr (9, [.ref t0, .int t1, .int t2, .int t3, .int t4]))] sz) := by
  refine MetE.ofW (cc := prog_1_method_3_code) (maxL := 2) (ret := none) (by decide) rfl ?_
  intro p e s m args below meth c s₁ B0 hml htab hv
  obtain ⟨rfl, hsz, hP, hK, hD0, hN, hZ⟩ := hv
  have hx := B0.exec
  have hb := B0.bytes
  have hr := B0.returns
  have hts := atoms_spec (ws := w_Ms_end) B0.pre
  have hT := fun (w : Cond) (h : w ∈ wd_all) => hts w (List.mem_cons_of_mem _ h)
  have hown : s.vm.findClass "MatrixScripts" = some m.cls := findClass_of_methodNamed B0.named
  have hlocks := B0.notSynchronized
  subst hsz
  have hD := hD0.self (sz := s.heap.size)
  have hPs := hP
  generalize hAe : va_A [(h0, .inr (12, [.ref m0, .ref m1, .ref m2])), (m1, .inr (9, [.ref t0, .int t1, .int t2, .int t3, .int t4]))] s.heap.size = A at hD ⊢
  have hA : ∀ q : Nat, s.heap.size ≤ q → A q := fun q h => by rw [← hAe]; exact Or.inr h
  have hS : va_S A s.heap s.heap [] := va_S.rf
  have hP : va_P D vC ([(h0, .inr (12, [.ref m0, .ref m1, .ref m2])), (m1, .inr (9, [.ref t0, .int t1, .int t2, .int t3, .int t4]))] ++ ([] : va_W)) s.heap := hP
  have hD : va_D A ([(h0, .inr (12, [.ref m0, .ref m1, .ref m2])), (m1, .inr (9, [.ref t0, .int t1, .int t2, .int t3, .int t4]))] ++ ([] : va_W)) := hD
  have hl := lv_entry ([.ref h0, .int n]) (n := 2) (Nat.le_of_ble_eq_true rfl)
  rw [lg_entry_eq]
  generalize (lg_sl ([.ref h0, .int n]) ++ List.replicate (2 - (lg_sl ([.ref h0, .int n])).length) Slot.unset).toArray = ls at hl ⊢
  have hl : lv_has ls 2 [(0, .ref h0), (1, .int n)] := hl
  refine lv_iload_n hx hb d_Ms_end_0 rfl (lv_at hl 1 rfl) ?_
  refine lv_if_lt (tgt := 15) hx hb d_Ms_end_1 (by decide) (fun c1 => ?_) (fun c1 => ?_)
  · refine ex_widen (mc := 1) (ms := 6) (Nat.le_of_ble_eq_true rfl) (Nat.le_of_ble_eq_true rfl) ?_
    refine ex_throw (cls := "java/lang/IllegalArgumentException") (names := ["java/lang/RuntimeException", "java/lang/Exception"]) hx hb (hfl _ B0.admits) hown (by decide +kernel) (by decide +kernel) (zo_Ms_end hT hN hZ) (hT _ tw_2070) (hT _ tw_178) (fun x h => by cases h) (Nat.le_refl _) (fun x h => by rw [htab] at h; cases h) (hl.1.trans hml.symm) d_Ms_end_15 d_Ms_end_18 d_Ms_end_19 d_Ms_end_22 (Nat.le_of_ble_eq_true rfl) (Nat.le_of_ble_eq_true rfl) (Nat.le_of_ble_eq_true rfl) (Nat.le_of_ble_eq_true rfl) hlocks (fun x h => by cases h) (fun t ce h1 h2 h3 h4 h5 h6 => ?_)
    exact cE_threw hPs hD (hA _ (Nat.le_refl _)) (Or.inl c1) h1 h2 h3 h5 (fun q hq => h6 q hq (fun y hy => by cases hy))
  · refine lv_iload_n hx hb d_Ms_end_4 rfl (lv_at hl 1 rfl) ?_
    refine lv_aload_n hx hb d_Ms_end_5 rfl (lv_at hl 0 rfl) ?_
    refine va_get (D := D) (ci := 12) (v := .ref m1) (C := "MatrixScripts") (T := T_Ms) (N := 3) hx hb hT in_Ms hown hK hP 0 rfl rfl 1 (by decide) (hT _ tw_740) (fun _ h9 => h9) rfl d_Ms_end_6 ?_
    refine va_get (D := D) (ci := 9) (v := .int t1) (C := "MatrixScripts$Tape") (T := T_Tape) (N := 5) hx hb hT in_Tape hown hK hP 1 rfl rfl 1 (by decide) (hT _ tw_214) (fun _ h9 => h9) rfl d_Ms_end_9 ?_
    refine lv_icmp_le (tgt := 23) hx hb d_Ms_end_12 (by decide) (fun c12 => ?_) (fun c12 => ?_)
    · refine lv_aload_n hx hb d_Ms_end_23 rfl (lv_at hl 0 rfl) ?_
      refine va_get (D := D) (ci := 12) (v := .ref m1) (C := "MatrixScripts") (T := T_Ms) (N := 3) hx hb hT in_Ms hown hK hP 0 rfl rfl 1 (by decide) (hT _ tw_740) (fun _ h9 => h9) rfl d_Ms_end_24 ?_
      refine lv_iload_n hx hb d_Ms_end_27 rfl (lv_at hl 1 rfl) ?_
      refine va_put (D := D) (ci := 9) (v := .int n) (ty := .int) (C := "MatrixScripts$Tape") (T := T_Tape) (N := 5) hx hb hT in_Tape ty_Tape ty_Tape_ok nm_Tape hown hK hP hD hS 1 rfl rfl 1 (by decide) (hT _ tw_214) (fun _ h9 => h9) rfl (by decide +kernel) rfl rfl (Nat.le_of_ble_eq_true rfl) d_Ms_end_28 (fun H locs hP hD hS => ?_)
      have hP : va_P D vC ([(h0, .inr (12, [.ref m0, .ref m1, .ref m2])), (m1, .inr (9, [.ref t0, .int n, .int t2, .int t3, .int t4]))] ++ ([] : va_W)) H := hP
      have hD : va_D A ([(h0, .inr (12, [.ref m0, .ref m1, .ref m2])), (m1, .inr (9, [.ref t0, .int n, .int t2, .int t3, .int t4]))] ++ ([] : va_W)) := hD
      have hP9 := pm_subP (a' := [(h0, .inr (12, [.ref m0, .ref m1, .ref m2])), (m1, .inr (9, [.ref t0, .int n, .int t2, .int t3, .int t4]))]) hP [0, 1] rfl
      have hD9 := pm_subD (a' := [(h0, .inr (12, [.ref m0, .ref m1, .ref m2])), (m1, .inr (9, [.ref t0, .int n, .int t2, .int t3, .int t4]))]) hD [0, 1] (by decide) rfl
      refine W.widen (k := 1) (n := 6) (Nat.le_of_ble_eq_true rfl) (Nat.le_of_ble_eq_true rfl) ?_
      exact ex_of (W.vret hx hb hr (fun t ht1 hW => cE_ret (v := none) () (⟨rfl, fun h => h.elim c1 (fun h => Int32.not_le.mpr h c12)⟩) (by rw [ht1]; exact hP9) hD9 (hS.F ht1)) hS.2.2 d_Ms_end_31)
    · refine ex_widen (mc := 1) (ms := 6) (Nat.le_of_ble_eq_true rfl) (Nat.le_of_ble_eq_true rfl) ?_
      refine ex_throw (cls := "java/lang/IllegalArgumentException") (names := ["java/lang/RuntimeException", "java/lang/Exception"]) hx hb (hfl _ B0.admits) hown (by decide +kernel) (by decide +kernel) (zo_Ms_end hT hN hZ) (hT _ tw_2070) (hT _ tw_178) (fun x h => by cases h) (Nat.le_refl _) (fun x h => by rw [htab] at h; cases h) (hl.1.trans hml.symm) d_Ms_end_15 d_Ms_end_18 d_Ms_end_19 d_Ms_end_22 (Nat.le_of_ble_eq_true rfl) (Nat.le_of_ble_eq_true rfl) (Nat.le_of_ble_eq_true rfl) (Nat.le_of_ble_eq_true rfl) hlocks (fun x h => by cases h) (fun t ce h1 h2 h3 h4 h5 h6 => ?_)
      exact cE_threw hPs hD (hA _ (Nat.le_refl _)) (Or.inr (Int32.not_le.mp c12)) h1 h2 h3 h5 (fun q hq => h6 q hq (fun y hy => by cases hy))
def w_Mdl_thrown : List Cond := .code ⟨"MatrixScriptsModel", "thrown", "()I"⟩ prog_17_method_2_code 1 (some .int) :: wd_all
theorem gd_Mdl_thrown : GoodIn wd_all w_Mdl_thrown := gd_of tw_2330
set_option maxHeartbeats 4000000 in
set_option maxRecDepth 100000 in
theorem c_Mdl_thrown (l : Launch) (D : va_G) (g : Nat → ClassId) (h0 : Nat) (m0 : Int32) (m1 : Nat) (m2 : Int32) (m3 : Nat) (m4 : Nat) (m5 : Nat) (m6 : Nat) (m7 : Nat) (m8 : Nat) (m9 : Nat) (m10 : Nat) (m11 : Nat) (m12 : Int32) (m13 : Int32) (m14 : Int32) (m15 : Nat) (m16 : Int32) (m17 : Int32) (m18 : Int32) (m19 : Int32) (m20 : Int32) (m21 : Int32) (m22 : Int32) (m23 : Int32) (m24 : Int32) (m25 : Int32) (m26 : Int32) (m27 : Int64) (m28 : Int32) (m29 : Int32) (m30 : Nat) (m31 : Nat) (m32 : Int32) (m33 : Int32) (m34 : Int32) (m35 : Int32) (m36 : Nat) (sz : Nat) : Met l ⟨"MatrixScriptsModel", "thrown", "()I"⟩ w_Mdl_thrown { frames := 0, cells := 0, slots := 0, locals := 0 } (cp D g [.ref h0] [(h0, .inr (16, [.int m0, .ref m1, .int m2, .ref m3, .ref m4, .ref m5, .ref m6, .ref m7, .ref m8, .ref m9, .ref m10, .ref m11, .int m12, .int m13, .int m14, .ref m15, .int m16, .int m17, .int m18, .int m19, .int m20, .int m21, .int m22, .int m23, .int m24, .int m25, .int m26, .long m27, .int m28, .int m29, .ref m30, .ref m31, .int m32, .int m33, .int m34, .int m35, .ref m36]))] sz) (ci D (va_A [(h0, .inr (16, [.int m0, .ref m1, .int m2, .ref m3, .ref m4, .ref m5, .ref m6, .ref m7, .ref m8, .ref m9, .ref m10, .ref m11, .int m12, .int m13, .int m14, .ref m15, .int m16, .int m17, .int m18, .int m19, .int m20, .int m21, .int m22, .int m23, .int m24, .int m25, .int m26, .long m27, .int m28, .int m29, .ref m30, .ref m31, .int m32, .int m33, .int m34, .int m35, .ref m36]))] sz) (fun r _ => r = m0) (fun u : Unit => [(h0, .inr (16, [.int m0, .ref m1, .int m2, .ref m3, .ref m4, .ref m5, .ref m6, .ref m7, .ref m8, .ref m9, .ref m10, .ref m11, .int m12, .int m13, .int m14, .ref m15, .int m16, .int m17, .int m18, .int m19, .int m20, .int m21, .int m22, .int m23, .int m24, .int m25, .int m26, .long m27, .int m28, .int m29, .ref m30, .ref m31, .int m32, .int m33, .int m34, .int m35, .ref m36]))])) 0 0 (va_A [(h0, .inr (16, [.int m0, .ref m1, .int m2, .ref m3, .ref m4, .ref m5, .ref m6, .ref m7, .ref m8, .ref m9, .ref m10, .ref m11, .int m12, .int m13, .int m14, .ref m15, .int m16, .int m17, .int m18, .int m19, .int m20, .int m21, .int m22, .int m23, .int m24, .int m25, .int m26, .long m27, .int m28, .int m29, .ref m30, .ref m31, .int m32, .int m33, .int m34, .int m35, .ref m36]))] sz) := by
  refine Met.ofW (cc := prog_17_method_2_code) (maxL := 1) (ret := (some .int)) (by decide) rfl ?_
  intro p e s m args below meth c s₁ B0 hml hv
  obtain ⟨rfl, hsz, hP, hK, hD0, hN⟩ := hv
  have hx := B0.exec
  have hb := B0.bytes
  have hr := B0.returns
  have hts := atoms_spec (ws := w_Mdl_thrown) B0.pre
  have hT := fun (w : Cond) (h : w ∈ wd_all) => hts w (List.mem_cons_of_mem _ h)
  have hown : s.vm.findClass "MatrixScriptsModel" = some m.cls := findClass_of_methodNamed B0.named
  have hlocks := B0.notSynchronized
  subst hsz
  have hD := hD0.self (sz := s.heap.size)
  generalize hAe : va_A [(h0, .inr (16, [.int m0, .ref m1, .int m2, .ref m3, .ref m4, .ref m5, .ref m6, .ref m7, .ref m8, .ref m9, .ref m10, .ref m11, .int m12, .int m13, .int m14, .ref m15, .int m16, .int m17, .int m18, .int m19, .int m20, .int m21, .int m22, .int m23, .int m24, .int m25, .int m26, .long m27, .int m28, .int m29, .ref m30, .ref m31, .int m32, .int m33, .int m34, .int m35, .ref m36]))] s.heap.size = A at hD ⊢
  have hA : ∀ q : Nat, s.heap.size ≤ q → A q := fun q h => by rw [← hAe]; exact Or.inr h
  have hS : va_S A s.heap s.heap [] := va_S.rf
  have hP : va_P D vC ([(h0, .inr (16, [.int m0, .ref m1, .int m2, .ref m3, .ref m4, .ref m5, .ref m6, .ref m7, .ref m8, .ref m9, .ref m10, .ref m11, .int m12, .int m13, .int m14, .ref m15, .int m16, .int m17, .int m18, .int m19, .int m20, .int m21, .int m22, .int m23, .int m24, .int m25, .int m26, .long m27, .int m28, .int m29, .ref m30, .ref m31, .int m32, .int m33, .int m34, .int m35, .ref m36]))] ++ ([] : va_W)) s.heap := hP
  have hD : va_D A ([(h0, .inr (16, [.int m0, .ref m1, .int m2, .ref m3, .ref m4, .ref m5, .ref m6, .ref m7, .ref m8, .ref m9, .ref m10, .ref m11, .int m12, .int m13, .int m14, .ref m15, .int m16, .int m17, .int m18, .int m19, .int m20, .int m21, .int m22, .int m23, .int m24, .int m25, .int m26, .long m27, .int m28, .int m29, .ref m30, .ref m31, .int m32, .int m33, .int m34, .int m35, .ref m36]))] ++ ([] : va_W)) := hD
  have hl := lv_entry ([.ref h0]) (n := 1) (Nat.le_of_ble_eq_true rfl)
  rw [lg_entry_eq]
  generalize (lg_sl ([.ref h0]) ++ List.replicate (1 - (lg_sl ([.ref h0])).length) Slot.unset).toArray = ls at hl ⊢
  have hl : lv_has ls 1 [(0, .ref h0)] := hl
  refine lv_aload_n hx hb d_Mdl_thrown_0 rfl (lv_at hl 0 rfl) ?_
  refine va_get (D := D) (ci := 16) (v := .int m0) (C := "MatrixScriptsModel") (T := T_Mdl) (N := 37) hx hb hT in_Mdl hown hK hP 0 rfl rfl 0 (by decide) (hT _ tw_2215) (fun _ h9 => h9) rfl d_Mdl_thrown_1 ?_
  have hP9 := pm_subP (a' := [(h0, .inr (16, [.int m0, .ref m1, .int m2, .ref m3, .ref m4, .ref m5, .ref m6, .ref m7, .ref m8, .ref m9, .ref m10, .ref m11, .int m12, .int m13, .int m14, .ref m15, .int m16, .int m17, .int m18, .int m19, .int m20, .int m21, .int m22, .int m23, .int m24, .int m25, .int m26, .long m27, .int m28, .int m29, .ref m30, .ref m31, .int m32, .int m33, .int m34, .int m35, .ref m36]))]) hP [0] rfl
  have hD9 := pm_subD (a' := [(h0, .inr (16, [.int m0, .ref m1, .int m2, .ref m3, .ref m4, .ref m5, .ref m6, .ref m7, .ref m8, .ref m9, .ref m10, .ref m11, .int m12, .int m13, .int m14, .ref m15, .int m16, .int m17, .int m18, .int m19, .int m20, .int m21, .int m22, .int m23, .int m24, .int m25, .int m26, .long m27, .int m28, .int m29, .ref m30, .ref m31, .int m32, .int m33, .int m34, .int m35, .ref m36]))]) hD [0] (by decide) rfl
  refine W.widen (k := 0) (n := 0) (Nat.le_of_ble_eq_true rfl) (Nat.le_of_ble_eq_true rfl) ?_
  exact W.iret (v := m0) hx hb hr (fun t ht1 hW => ⟨⟨_, (), rfl, rfl, by rw [ht1]; exact hP9, hD9⟩, hS.F ht1⟩) hS.2.2 d_Mdl_thrown_4
def w_Mdl_place : List Cond := .code ⟨"MatrixScriptsModel", "place", "()I"⟩ prog_17_method_64_code 1 (some .int) :: wd_all
theorem gd_Mdl_place : GoodIn wd_all w_Mdl_place := gd_of tw_3067
set_option maxHeartbeats 4000000 in
set_option maxRecDepth 100000 in
theorem c_Mdl_place (l : Launch) (D : va_G) (g : Nat → ClassId) (h0 : Nat) (m0 : Int32) (m1 : Nat) (m2 : Int32) (m3 : Nat) (m4 : Nat) (m5 : Nat) (m6 : Nat) (m7 : Nat) (m8 : Nat) (m9 : Nat) (m10 : Nat) (m11 : Nat) (m12 : Int32) (m13 : Int32) (m14 : Int32) (m15 : Nat) (m16 : Int32) (m17 : Int32) (m18 : Int32) (m19 : Int32) (m20 : Int32) (m21 : Int32) (m22 : Int32) (m23 : Int32) (m24 : Int32) (m25 : Int32) (m26 : Int32) (m27 : Int64) (m28 : Int32) (m29 : Int32) (m30 : Nat) (m31 : Nat) (m32 : Int32) (m33 : Int32) (m34 : Int32) (m35 : Int32) (m36 : Nat) (sz : Nat) : Met l ⟨"MatrixScriptsModel", "place", "()I"⟩ w_Mdl_place { frames := 0, cells := 0, slots := 0, locals := 0 } (cp D g [.ref h0] [(h0, .inr (16, [.int m0, .ref m1, .int m2, .ref m3, .ref m4, .ref m5, .ref m6, .ref m7, .ref m8, .ref m9, .ref m10, .ref m11, .int m12, .int m13, .int m14, .ref m15, .int m16, .int m17, .int m18, .int m19, .int m20, .int m21, .int m22, .int m23, .int m24, .int m25, .int m26, .long m27, .int m28, .int m29, .ref m30, .ref m31, .int m32, .int m33, .int m34, .int m35, .ref m36]))] sz) (ci D (va_A [(h0, .inr (16, [.int m0, .ref m1, .int m2, .ref m3, .ref m4, .ref m5, .ref m6, .ref m7, .ref m8, .ref m9, .ref m10, .ref m11, .int m12, .int m13, .int m14, .ref m15, .int m16, .int m17, .int m18, .int m19, .int m20, .int m21, .int m22, .int m23, .int m24, .int m25, .int m26, .long m27, .int m28, .int m29, .ref m30, .ref m31, .int m32, .int m33, .int m34, .int m35, .ref m36]))] sz) (fun r _ => r = m18) (fun u : Unit => [(h0, .inr (16, [.int 0, .ref m1, .int m2, .ref m3, .ref m4, .ref m5, .ref m6, .ref m7, .ref m8, .ref m9, .ref m10, .ref m11, .int m12, .int m13, .int m14, .ref m15, .int m16, .int m17, .int m18, .int m19, .int m20, .int m21, .int m22, .int m23, .int m24, .int m25, .int m26, .long m27, .int m28, .int m29, .ref m30, .ref m31, .int m32, .int m33, .int m34, .int m35, .ref m36]))])) 0 0 (va_A [(h0, .inr (16, [.int m0, .ref m1, .int m2, .ref m3, .ref m4, .ref m5, .ref m6, .ref m7, .ref m8, .ref m9, .ref m10, .ref m11, .int m12, .int m13, .int m14, .ref m15, .int m16, .int m17, .int m18, .int m19, .int m20, .int m21, .int m22, .int m23, .int m24, .int m25, .int m26, .long m27, .int m28, .int m29, .ref m30, .ref m31, .int m32, .int m33, .int m34, .int m35, .ref m36]))] sz) := by
  refine Met.ofW (cc := prog_17_method_64_code) (maxL := 1) (ret := (some .int)) (by decide) rfl ?_
  intro p e s m args below meth c s₁ B0 hml hv
  obtain ⟨rfl, hsz, hP, hK, hD0, hN⟩ := hv
  have hx := B0.exec
  have hb := B0.bytes
  have hr := B0.returns
  have hts := atoms_spec (ws := w_Mdl_place) B0.pre
  have hT := fun (w : Cond) (h : w ∈ wd_all) => hts w (List.mem_cons_of_mem _ h)
  have hown : s.vm.findClass "MatrixScriptsModel" = some m.cls := findClass_of_methodNamed B0.named
  have hlocks := B0.notSynchronized
  subst hsz
  have hD := hD0.self (sz := s.heap.size)
  generalize hAe : va_A [(h0, .inr (16, [.int m0, .ref m1, .int m2, .ref m3, .ref m4, .ref m5, .ref m6, .ref m7, .ref m8, .ref m9, .ref m10, .ref m11, .int m12, .int m13, .int m14, .ref m15, .int m16, .int m17, .int m18, .int m19, .int m20, .int m21, .int m22, .int m23, .int m24, .int m25, .int m26, .long m27, .int m28, .int m29, .ref m30, .ref m31, .int m32, .int m33, .int m34, .int m35, .ref m36]))] s.heap.size = A at hD ⊢
  have hA : ∀ q : Nat, s.heap.size ≤ q → A q := fun q h => by rw [← hAe]; exact Or.inr h
  have hS : va_S A s.heap s.heap [] := va_S.rf
  have hP : va_P D vC ([(h0, .inr (16, [.int m0, .ref m1, .int m2, .ref m3, .ref m4, .ref m5, .ref m6, .ref m7, .ref m8, .ref m9, .ref m10, .ref m11, .int m12, .int m13, .int m14, .ref m15, .int m16, .int m17, .int m18, .int m19, .int m20, .int m21, .int m22, .int m23, .int m24, .int m25, .int m26, .long m27, .int m28, .int m29, .ref m30, .ref m31, .int m32, .int m33, .int m34, .int m35, .ref m36]))] ++ ([] : va_W)) s.heap := hP
  have hD : va_D A ([(h0, .inr (16, [.int m0, .ref m1, .int m2, .ref m3, .ref m4, .ref m5, .ref m6, .ref m7, .ref m8, .ref m9, .ref m10, .ref m11, .int m12, .int m13, .int m14, .ref m15, .int m16, .int m17, .int m18, .int m19, .int m20, .int m21, .int m22, .int m23, .int m24, .int m25, .int m26, .long m27, .int m28, .int m29, .ref m30, .ref m31, .int m32, .int m33, .int m34, .int m35, .ref m36]))] ++ ([] : va_W)) := hD
  have hl := lv_entry ([.ref h0]) (n := 1) (Nat.le_of_ble_eq_true rfl)
  rw [lg_entry_eq]
  generalize (lg_sl ([.ref h0]) ++ List.replicate (1 - (lg_sl ([.ref h0])).length) Slot.unset).toArray = ls at hl ⊢
  have hl : lv_has ls 1 [(0, .ref h0)] := hl
  refine lv_aload_n hx hb d_Mdl_place_0 rfl (lv_at hl 0 rfl) ?_
  refine lv_iconst (v := 0) hx hb d_Mdl_place_1 (by decide) ?_
  refine va_put (D := D) (ci := 16) (v := .int 0) (ty := .int) (C := "MatrixScriptsModel") (T := T_Mdl) (N := 37) hx hb hT in_Mdl ty_Mdl ty_Mdl_ok nm_Mdl hown hK hP hD hS 0 rfl rfl 0 (by decide) (hT _ tw_2215) (fun _ h9 => h9) rfl (by decide +kernel) rfl rfl (Nat.le_of_ble_eq_true rfl) d_Mdl_place_2 (fun H locs hP hD hS => ?_)
  have hP : va_P D vC ([(h0, .inr (16, [.int 0, .ref m1, .int m2, .ref m3, .ref m4, .ref m5, .ref m6, .ref m7, .ref m8, .ref m9, .ref m10, .ref m11, .int m12, .int m13, .int m14, .ref m15, .int m16, .int m17, .int m18, .int m19, .int m20, .int m21, .int m22, .int m23, .int m24, .int m25, .int m26, .long m27, .int m28, .int m29, .ref m30, .ref m31, .int m32, .int m33, .int m34, .int m35, .ref m36]))] ++ ([] : va_W)) H := hP
  have hD : va_D A ([(h0, .inr (16, [.int 0, .ref m1, .int m2, .ref m3, .ref m4, .ref m5, .ref m6, .ref m7, .ref m8, .ref m9, .ref m10, .ref m11, .int m12, .int m13, .int m14, .ref m15, .int m16, .int m17, .int m18, .int m19, .int m20, .int m21, .int m22, .int m23, .int m24, .int m25, .int m26, .long m27, .int m28, .int m29, .ref m30, .ref m31, .int m32, .int m33, .int m34, .int m35, .ref m36]))] ++ ([] : va_W)) := hD
  refine lv_aload_n hx hb d_Mdl_place_5 rfl (lv_at hl 0 rfl) ?_
  refine va_get (D := D) (ci := 16) (v := .int m18) (C := "MatrixScriptsModel") (T := T_Mdl) (N := 37) hx hb hT in_Mdl hown hK hP 0 rfl rfl 18 (by decide) (hT _ tw_2233) (fun _ h9 => h9) rfl d_Mdl_place_6 ?_
  have hP9 := pm_subP (a' := [(h0, .inr (16, [.int 0, .ref m1, .int m2, .ref m3, .ref m4, .ref m5, .ref m6, .ref m7, .ref m8, .ref m9, .ref m10, .ref m11, .int m12, .int m13, .int m14, .ref m15, .int m16, .int m17, .int m18, .int m19, .int m20, .int m21, .int m22, .int m23, .int m24, .int m25, .int m26, .long m27, .int m28, .int m29, .ref m30, .ref m31, .int m32, .int m33, .int m34, .int m35, .ref m36]))]) hP [0] rfl
  have hD9 := pm_subD (a' := [(h0, .inr (16, [.int 0, .ref m1, .int m2, .ref m3, .ref m4, .ref m5, .ref m6, .ref m7, .ref m8, .ref m9, .ref m10, .ref m11, .int m12, .int m13, .int m14, .ref m15, .int m16, .int m17, .int m18, .int m19, .int m20, .int m21, .int m22, .int m23, .int m24, .int m25, .int m26, .long m27, .int m28, .int m29, .ref m30, .ref m31, .int m32, .int m33, .int m34, .int m35, .ref m36]))]) hD [0] (by decide) rfl
  refine W.widen (k := 0) (n := 0) (Nat.le_of_ble_eq_true rfl) (Nat.le_of_ble_eq_true rfl) ?_
  exact W.iret (v := m18) hx hb hr (fun t ht1 hW => ⟨⟨_, (), rfl, rfl, by rw [ht1]; exact hP9, hD9⟩, hS.F ht1⟩) hS.2.2 d_Mdl_place_9
def w_Mdl_length : List Cond := .code ⟨"MatrixScriptsModel", "length", "()I"⟩ prog_17_method_65_code 1 (some .int) :: wd_all
theorem gd_Mdl_length : GoodIn wd_all w_Mdl_length := gd_of tw_3071
set_option maxHeartbeats 4000000 in
set_option maxRecDepth 100000 in
theorem c_Mdl_length (l : Launch) (D : va_G) (g : Nat → ClassId) (h0 : Nat) (m0 : Int32) (m1 : Nat) (m2 : Int32) (m3 : Nat) (m4 : Nat) (m5 : Nat) (m6 : Nat) (m7 : Nat) (m8 : Nat) (m9 : Nat) (m10 : Nat) (m11 : Nat) (m12 : Int32) (m13 : Int32) (m14 : Int32) (m15 : Nat) (m16 : Int32) (m17 : Int32) (m18 : Int32) (m19 : Int32) (m20 : Int32) (m21 : Int32) (m22 : Int32) (m23 : Int32) (m24 : Int32) (m25 : Int32) (m26 : Int32) (m27 : Int64) (m28 : Int32) (m29 : Int32) (m30 : Nat) (m31 : Nat) (m32 : Int32) (m33 : Int32) (m34 : Int32) (m35 : Int32) (m36 : Nat) (sz : Nat) : Met l ⟨"MatrixScriptsModel", "length", "()I"⟩ w_Mdl_length { frames := 0, cells := 0, slots := 0, locals := 0 } (cp D g [.ref h0] [(h0, .inr (16, [.int m0, .ref m1, .int m2, .ref m3, .ref m4, .ref m5, .ref m6, .ref m7, .ref m8, .ref m9, .ref m10, .ref m11, .int m12, .int m13, .int m14, .ref m15, .int m16, .int m17, .int m18, .int m19, .int m20, .int m21, .int m22, .int m23, .int m24, .int m25, .int m26, .long m27, .int m28, .int m29, .ref m30, .ref m31, .int m32, .int m33, .int m34, .int m35, .ref m36]))] sz) (ci D (va_A [(h0, .inr (16, [.int m0, .ref m1, .int m2, .ref m3, .ref m4, .ref m5, .ref m6, .ref m7, .ref m8, .ref m9, .ref m10, .ref m11, .int m12, .int m13, .int m14, .ref m15, .int m16, .int m17, .int m18, .int m19, .int m20, .int m21, .int m22, .int m23, .int m24, .int m25, .int m26, .long m27, .int m28, .int m29, .ref m30, .ref m31, .int m32, .int m33, .int m34, .int m35, .ref m36]))] sz) (fun r _ => r = m16) (fun u : Unit => [(h0, .inr (16, [.int 0, .ref m1, .int m2, .ref m3, .ref m4, .ref m5, .ref m6, .ref m7, .ref m8, .ref m9, .ref m10, .ref m11, .int m12, .int m13, .int m14, .ref m15, .int m16, .int m17, .int m18, .int m19, .int m20, .int m21, .int m22, .int m23, .int m24, .int m25, .int m26, .long m27, .int m28, .int m29, .ref m30, .ref m31, .int m32, .int m33, .int m34, .int m35, .ref m36]))])) 0 0 (va_A [(h0, .inr (16, [.int m0, .ref m1, .int m2, .ref m3, .ref m4, .ref m5, .ref m6, .ref m7, .ref m8, .ref m9, .ref m10, .ref m11, .int m12, .int m13, .int m14, .ref m15, .int m16, .int m17, .int m18, .int m19, .int m20, .int m21, .int m22, .int m23, .int m24, .int m25, .int m26, .long m27, .int m28, .int m29, .ref m30, .ref m31, .int m32, .int m33, .int m34, .int m35, .ref m36]))] sz) := by
  refine Met.ofW (cc := prog_17_method_65_code) (maxL := 1) (ret := (some .int)) (by decide) rfl ?_
  intro p e s m args below meth c s₁ B0 hml hv
  obtain ⟨rfl, hsz, hP, hK, hD0, hN⟩ := hv
  have hx := B0.exec
  have hb := B0.bytes
  have hr := B0.returns
  have hts := atoms_spec (ws := w_Mdl_length) B0.pre
  have hT := fun (w : Cond) (h : w ∈ wd_all) => hts w (List.mem_cons_of_mem _ h)
  have hown : s.vm.findClass "MatrixScriptsModel" = some m.cls := findClass_of_methodNamed B0.named
  have hlocks := B0.notSynchronized
  subst hsz
  have hD := hD0.self (sz := s.heap.size)
  generalize hAe : va_A [(h0, .inr (16, [.int m0, .ref m1, .int m2, .ref m3, .ref m4, .ref m5, .ref m6, .ref m7, .ref m8, .ref m9, .ref m10, .ref m11, .int m12, .int m13, .int m14, .ref m15, .int m16, .int m17, .int m18, .int m19, .int m20, .int m21, .int m22, .int m23, .int m24, .int m25, .int m26, .long m27, .int m28, .int m29, .ref m30, .ref m31, .int m32, .int m33, .int m34, .int m35, .ref m36]))] s.heap.size = A at hD ⊢
  have hA : ∀ q : Nat, s.heap.size ≤ q → A q := fun q h => by rw [← hAe]; exact Or.inr h
  have hS : va_S A s.heap s.heap [] := va_S.rf
  have hP : va_P D vC ([(h0, .inr (16, [.int m0, .ref m1, .int m2, .ref m3, .ref m4, .ref m5, .ref m6, .ref m7, .ref m8, .ref m9, .ref m10, .ref m11, .int m12, .int m13, .int m14, .ref m15, .int m16, .int m17, .int m18, .int m19, .int m20, .int m21, .int m22, .int m23, .int m24, .int m25, .int m26, .long m27, .int m28, .int m29, .ref m30, .ref m31, .int m32, .int m33, .int m34, .int m35, .ref m36]))] ++ ([] : va_W)) s.heap := hP
  have hD : va_D A ([(h0, .inr (16, [.int m0, .ref m1, .int m2, .ref m3, .ref m4, .ref m5, .ref m6, .ref m7, .ref m8, .ref m9, .ref m10, .ref m11, .int m12, .int m13, .int m14, .ref m15, .int m16, .int m17, .int m18, .int m19, .int m20, .int m21, .int m22, .int m23, .int m24, .int m25, .int m26, .long m27, .int m28, .int m29, .ref m30, .ref m31, .int m32, .int m33, .int m34, .int m35, .ref m36]))] ++ ([] : va_W)) := hD
  have hl := lv_entry ([.ref h0]) (n := 1) (Nat.le_of_ble_eq_true rfl)
  rw [lg_entry_eq]
  generalize (lg_sl ([.ref h0]) ++ List.replicate (1 - (lg_sl ([.ref h0])).length) Slot.unset).toArray = ls at hl ⊢
  have hl : lv_has ls 1 [(0, .ref h0)] := hl
  refine lv_aload_n hx hb d_Mdl_length_0 rfl (lv_at hl 0 rfl) ?_
  refine lv_iconst (v := 0) hx hb d_Mdl_length_1 (by decide) ?_
  refine va_put (D := D) (ci := 16) (v := .int 0) (ty := .int) (C := "MatrixScriptsModel") (T := T_Mdl) (N := 37) hx hb hT in_Mdl ty_Mdl ty_Mdl_ok nm_Mdl hown hK hP hD hS 0 rfl rfl 0 (by decide) (hT _ tw_2215) (fun _ h9 => h9) rfl (by decide +kernel) rfl rfl (Nat.le_of_ble_eq_true rfl) d_Mdl_length_2 (fun H locs hP hD hS => ?_)
  have hP : va_P D vC ([(h0, .inr (16, [.int 0, .ref m1, .int m2, .ref m3, .ref m4, .ref m5, .ref m6, .ref m7, .ref m8, .ref m9, .ref m10, .ref m11, .int m12, .int m13, .int m14, .ref m15, .int m16, .int m17, .int m18, .int m19, .int m20, .int m21, .int m22, .int m23, .int m24, .int m25, .int m26, .long m27, .int m28, .int m29, .ref m30, .ref m31, .int m32, .int m33, .int m34, .int m35, .ref m36]))] ++ ([] : va_W)) H := hP
  have hD : va_D A ([(h0, .inr (16, [.int 0, .ref m1, .int m2, .ref m3, .ref m4, .ref m5, .ref m6, .ref m7, .ref m8, .ref m9, .ref m10, .ref m11, .int m12, .int m13, .int m14, .ref m15, .int m16, .int m17, .int m18, .int m19, .int m20, .int m21, .int m22, .int m23, .int m24, .int m25, .int m26, .long m27, .int m28, .int m29, .ref m30, .ref m31, .int m32, .int m33, .int m34, .int m35, .ref m36]))] ++ ([] : va_W)) := hD
  refine lv_aload_n hx hb d_Mdl_length_5 rfl (lv_at hl 0 rfl) ?_
  refine va_get (D := D) (ci := 16) (v := .int m16) (C := "MatrixScriptsModel") (T := T_Mdl) (N := 37) hx hb hT in_Mdl hown hK hP 0 rfl rfl 16 (by decide) (hT _ tw_2231) (fun _ h9 => h9) rfl d_Mdl_length_6 ?_
  have hP9 := pm_subP (a' := [(h0, .inr (16, [.int 0, .ref m1, .int m2, .ref m3, .ref m4, .ref m5, .ref m6, .ref m7, .ref m8, .ref m9, .ref m10, .ref m11, .int m12, .int m13, .int m14, .ref m15, .int m16, .int m17, .int m18, .int m19, .int m20, .int m21, .int m22, .int m23, .int m24, .int m25, .int m26, .long m27, .int m28, .int m29, .ref m30, .ref m31, .int m32, .int m33, .int m34, .int m35, .ref m36]))]) hP [0] rfl
  have hD9 := pm_subD (a' := [(h0, .inr (16, [.int 0, .ref m1, .int m2, .ref m3, .ref m4, .ref m5, .ref m6, .ref m7, .ref m8, .ref m9, .ref m10, .ref m11, .int m12, .int m13, .int m14, .ref m15, .int m16, .int m17, .int m18, .int m19, .int m20, .int m21, .int m22, .int m23, .int m24, .int m25, .int m26, .long m27, .int m28, .int m29, .ref m30, .ref m31, .int m32, .int m33, .int m34, .int m35, .ref m36]))]) hD [0] (by decide) rfl
  refine W.widen (k := 0) (n := 0) (Nat.le_of_ble_eq_true rfl) (Nat.le_of_ble_eq_true rfl) ?_
  exact W.iret (v := m16) hx hb hr (fun t ht1 hW => ⟨⟨_, (), rfl, rfl, by rw [ht1]; exact hP9, hD9⟩, hS.F ht1⟩) hS.2.2 d_Mdl_length_9
def w_Mdl_wipe : List Cond := .code ⟨"MatrixScriptsModel", "wipe", "()I"⟩ prog_17_method_67_code 2 (some .int) :: wd_all
theorem gd_Mdl_wipe : GoodIn wd_all w_Mdl_wipe := gd_of tw_3079
set_option maxHeartbeats 4000000 in
set_option maxRecDepth 100000 in
theorem c_Mdl_wipe (l : Launch) (D : va_G) (g : Nat → ClassId) (h0 : Nat) (m0 : Int32) (m1 : Nat) (m2 : Int32) (m3 : Nat) (m4 : Nat) (m5 : Nat) (m6 : Nat) (m7 : Nat) (m8 : Nat) (m9 : Nat) (m10 : Nat) (m11 : Nat) (m12 : Int32) (m13 : Int32) (m14 : Int32) (m15 : Nat) (m16 : Int32) (m17 : Int32) (m18 : Int32) (m19 : Int32) (m20 : Int32) (m21 : Int32) (m22 : Int32) (m23 : Int32) (m24 : Int32) (m25 : Int32) (m26 : Int32) (m27 : Int64) (m28 : Int32) (m29 : Int32) (m30 : Nat) (m31 : Nat) (m32 : Int32) (m33 : Int32) (m34 : Int32) (m35 : Int32) (m36 : Nat) (sz : Nat) : Met l ⟨"MatrixScriptsModel", "wipe", "()I"⟩ w_Mdl_wipe { frames := 0, cells := 0, slots := 0, locals := 0 } (cp D g [.ref h0] [(h0, .inr (16, [.int m0, .ref m1, .int m2, .ref m3, .ref m4, .ref m5, .ref m6, .ref m7, .ref m8, .ref m9, .ref m10, .ref m11, .int m12, .int m13, .int m14, .ref m15, .int m16, .int m17, .int m18, .int m19, .int m20, .int m21, .int m22, .int m23, .int m24, .int m25, .int m26, .long m27, .int m28, .int m29, .ref m30, .ref m31, .int m32, .int m33, .int m34, .int m35, .ref m36]))] sz) (ci D (va_A [(h0, .inr (16, [.int m0, .ref m1, .int m2, .ref m3, .ref m4, .ref m5, .ref m6, .ref m7, .ref m8, .ref m9, .ref m10, .ref m11, .int m12, .int m13, .int m14, .ref m15, .int m16, .int m17, .int m18, .int m19, .int m20, .int m21, .int m22, .int m23, .int m24, .int m25, .int m26, .long m27, .int m28, .int m29, .ref m30, .ref m31, .int m32, .int m33, .int m34, .int m35, .ref m36]))] sz) (fun r _ => r = m16) (fun u : Unit => [(h0, .inr (16, [.int 0, .ref m1, .int m2, .ref m3, .ref m4, .ref m5, .ref m6, .ref m7, .ref m8, .ref m9, .ref m10, .ref m11, .int m12, .int m13, .int m14, .ref m15, .int 0, .int m17, .int m18, .int m19, .int m20, .int m21, .int m22, .int m23, .int m24, .int m25, .int m26, .long m27, .int m28, .int m29, .ref m30, .ref m31, .int m32, .int m33, .int m34, .int m35, .ref m36]))])) 0 0 (va_A [(h0, .inr (16, [.int m0, .ref m1, .int m2, .ref m3, .ref m4, .ref m5, .ref m6, .ref m7, .ref m8, .ref m9, .ref m10, .ref m11, .int m12, .int m13, .int m14, .ref m15, .int m16, .int m17, .int m18, .int m19, .int m20, .int m21, .int m22, .int m23, .int m24, .int m25, .int m26, .long m27, .int m28, .int m29, .ref m30, .ref m31, .int m32, .int m33, .int m34, .int m35, .ref m36]))] sz) := by
  refine Met.ofW (cc := prog_17_method_67_code) (maxL := 2) (ret := (some .int)) (by decide) rfl ?_
  intro p e s m args below meth c s₁ B0 hml hv
  obtain ⟨rfl, hsz, hP, hK, hD0, hN⟩ := hv
  have hx := B0.exec
  have hb := B0.bytes
  have hr := B0.returns
  have hts := atoms_spec (ws := w_Mdl_wipe) B0.pre
  have hT := fun (w : Cond) (h : w ∈ wd_all) => hts w (List.mem_cons_of_mem _ h)
  have hown : s.vm.findClass "MatrixScriptsModel" = some m.cls := findClass_of_methodNamed B0.named
  have hlocks := B0.notSynchronized
  subst hsz
  have hD := hD0.self (sz := s.heap.size)
  generalize hAe : va_A [(h0, .inr (16, [.int m0, .ref m1, .int m2, .ref m3, .ref m4, .ref m5, .ref m6, .ref m7, .ref m8, .ref m9, .ref m10, .ref m11, .int m12, .int m13, .int m14, .ref m15, .int m16, .int m17, .int m18, .int m19, .int m20, .int m21, .int m22, .int m23, .int m24, .int m25, .int m26, .long m27, .int m28, .int m29, .ref m30, .ref m31, .int m32, .int m33, .int m34, .int m35, .ref m36]))] s.heap.size = A at hD ⊢
  have hA : ∀ q : Nat, s.heap.size ≤ q → A q := fun q h => by rw [← hAe]; exact Or.inr h
  have hS : va_S A s.heap s.heap [] := va_S.rf
  have hP : va_P D vC ([(h0, .inr (16, [.int m0, .ref m1, .int m2, .ref m3, .ref m4, .ref m5, .ref m6, .ref m7, .ref m8, .ref m9, .ref m10, .ref m11, .int m12, .int m13, .int m14, .ref m15, .int m16, .int m17, .int m18, .int m19, .int m20, .int m21, .int m22, .int m23, .int m24, .int m25, .int m26, .long m27, .int m28, .int m29, .ref m30, .ref m31, .int m32, .int m33, .int m34, .int m35, .ref m36]))] ++ ([] : va_W)) s.heap := hP
  have hD : va_D A ([(h0, .inr (16, [.int m0, .ref m1, .int m2, .ref m3, .ref m4, .ref m5, .ref m6, .ref m7, .ref m8, .ref m9, .ref m10, .ref m11, .int m12, .int m13, .int m14, .ref m15, .int m16, .int m17, .int m18, .int m19, .int m20, .int m21, .int m22, .int m23, .int m24, .int m25, .int m26, .long m27, .int m28, .int m29, .ref m30, .ref m31, .int m32, .int m33, .int m34, .int m35, .ref m36]))] ++ ([] : va_W)) := hD
  have hl := lv_entry ([.ref h0]) (n := 2) (Nat.le_of_ble_eq_true rfl)
  rw [lg_entry_eq]
  generalize (lg_sl ([.ref h0]) ++ List.replicate (2 - (lg_sl ([.ref h0])).length) Slot.unset).toArray = ls at hl ⊢
  have hl : lv_has ls 2 [(0, .ref h0)] := hl
  refine lv_aload_n hx hb d_Mdl_wipe_0 rfl (lv_at hl 0 rfl) ?_
  refine lv_iconst (v := 0) hx hb d_Mdl_wipe_1 (by decide) ?_
  refine va_put (D := D) (ci := 16) (v := .int 0) (ty := .int) (C := "MatrixScriptsModel") (T := T_Mdl) (N := 37) hx hb hT in_Mdl ty_Mdl ty_Mdl_ok nm_Mdl hown hK hP hD hS 0 rfl rfl 0 (by decide) (hT _ tw_2215) (fun _ h9 => h9) rfl (by decide +kernel) rfl rfl (Nat.le_of_ble_eq_true rfl) d_Mdl_wipe_2 (fun H locs hP hD hS => ?_)
  have hP : va_P D vC ([(h0, .inr (16, [.int 0, .ref m1, .int m2, .ref m3, .ref m4, .ref m5, .ref m6, .ref m7, .ref m8, .ref m9, .ref m10, .ref m11, .int m12, .int m13, .int m14, .ref m15, .int m16, .int m17, .int m18, .int m19, .int m20, .int m21, .int m22, .int m23, .int m24, .int m25, .int m26, .long m27, .int m28, .int m29, .ref m30, .ref m31, .int m32, .int m33, .int m34, .int m35, .ref m36]))] ++ ([] : va_W)) H := hP
  have hD : va_D A ([(h0, .inr (16, [.int 0, .ref m1, .int m2, .ref m3, .ref m4, .ref m5, .ref m6, .ref m7, .ref m8, .ref m9, .ref m10, .ref m11, .int m12, .int m13, .int m14, .ref m15, .int m16, .int m17, .int m18, .int m19, .int m20, .int m21, .int m22, .int m23, .int m24, .int m25, .int m26, .long m27, .int m28, .int m29, .ref m30, .ref m31, .int m32, .int m33, .int m34, .int m35, .ref m36]))] ++ ([] : va_W)) := hD
  refine lv_aload_n hx hb d_Mdl_wipe_5 rfl (lv_at hl 0 rfl) ?_
  refine va_get (D := D) (ci := 16) (v := .int m16) (C := "MatrixScriptsModel") (T := T_Mdl) (N := 37) hx hb hT in_Mdl hown hK hP 0 rfl rfl 16 (by decide) (hT _ tw_2231) (fun _ h9 => h9) rfl d_Mdl_wipe_6 ?_
  refine lv_istore_n (lv' := [(1, .int m16), (0, .ref h0)]) hx hb d_Mdl_wipe_9 rfl hl (by decide) rfl (fun ls hl => ?_)
  refine lv_aload_n hx hb d_Mdl_wipe_10 rfl (lv_at hl 1 rfl) ?_
  refine lv_iconst (v := 0) hx hb d_Mdl_wipe_11 (by decide) ?_
  refine va_put (D := D) (ci := 16) (v := .int 0) (ty := .int) (C := "MatrixScriptsModel") (T := T_Mdl) (N := 37) hx hb hT in_Mdl ty_Mdl ty_Mdl_ok nm_Mdl hown hK hP hD hS 0 rfl rfl 16 (by decide) (hT _ tw_2231) (fun _ h9 => h9) rfl (by decide +kernel) rfl rfl (Nat.le_of_ble_eq_true rfl) d_Mdl_wipe_12 (fun H locs hP hD hS => ?_)
  have hP : va_P D vC ([(h0, .inr (16, [.int 0, .ref m1, .int m2, .ref m3, .ref m4, .ref m5, .ref m6, .ref m7, .ref m8, .ref m9, .ref m10, .ref m11, .int m12, .int m13, .int m14, .ref m15, .int 0, .int m17, .int m18, .int m19, .int m20, .int m21, .int m22, .int m23, .int m24, .int m25, .int m26, .long m27, .int m28, .int m29, .ref m30, .ref m31, .int m32, .int m33, .int m34, .int m35, .ref m36]))] ++ ([] : va_W)) H := hP
  have hD : va_D A ([(h0, .inr (16, [.int 0, .ref m1, .int m2, .ref m3, .ref m4, .ref m5, .ref m6, .ref m7, .ref m8, .ref m9, .ref m10, .ref m11, .int m12, .int m13, .int m14, .ref m15, .int 0, .int m17, .int m18, .int m19, .int m20, .int m21, .int m22, .int m23, .int m24, .int m25, .int m26, .long m27, .int m28, .int m29, .ref m30, .ref m31, .int m32, .int m33, .int m34, .int m35, .ref m36]))] ++ ([] : va_W)) := hD
  refine lv_iload_n hx hb d_Mdl_wipe_15 rfl (lv_at hl 0 rfl) ?_
  have hP9 := pm_subP (a' := [(h0, .inr (16, [.int 0, .ref m1, .int m2, .ref m3, .ref m4, .ref m5, .ref m6, .ref m7, .ref m8, .ref m9, .ref m10, .ref m11, .int m12, .int m13, .int m14, .ref m15, .int 0, .int m17, .int m18, .int m19, .int m20, .int m21, .int m22, .int m23, .int m24, .int m25, .int m26, .long m27, .int m28, .int m29, .ref m30, .ref m31, .int m32, .int m33, .int m34, .int m35, .ref m36]))]) hP [0] rfl
  have hD9 := pm_subD (a' := [(h0, .inr (16, [.int 0, .ref m1, .int m2, .ref m3, .ref m4, .ref m5, .ref m6, .ref m7, .ref m8, .ref m9, .ref m10, .ref m11, .int m12, .int m13, .int m14, .ref m15, .int 0, .int m17, .int m18, .int m19, .int m20, .int m21, .int m22, .int m23, .int m24, .int m25, .int m26, .long m27, .int m28, .int m29, .ref m30, .ref m31, .int m32, .int m33, .int m34, .int m35, .ref m36]))]) hD [0] (by decide) rfl
  refine W.widen (k := 0) (n := 0) (Nat.le_of_ble_eq_true rfl) (Nat.le_of_ble_eq_true rfl) ?_
  exact W.iret (v := m16) hx hb hr (fun t ht1 hW => ⟨⟨_, (), rfl, rfl, by rw [ht1]; exact hP9, hD9⟩, hS.F ht1⟩) hS.2.2 d_Mdl_wipe_16
def w_Mdl_told : List Cond := .code ⟨"MatrixScriptsModel", "told", "(I)I"⟩ prog_17_method_69_code 2 (some .int) :: wd_all
theorem gd_Mdl_told : GoodIn wd_all w_Mdl_told := gd_of tw_3087
set_option maxHeartbeats 4000000 in
set_option maxRecDepth 100000 in
theorem c_Mdl_told (l : Launch) (D : va_G) (g : Nat → ClassId) (h0 : Nat) (m0 : Int32) (m1 : Nat) (m2 : Int32) (m3 : Nat) (m4 : Nat) (m5 : Nat) (m6 : Nat) (m7 : Nat) (m8 : Nat) (m9 : Nat) (m10 : Nat) (m11 : Nat) (m12 : Int32) (m13 : Int32) (m14 : Int32) (m15 : Nat) (m16 : Int32) (m17 : Int32) (m18 : Int32) (m19 : Int32) (m20 : Int32) (m21 : Int32) (m22 : Int32) (m23 : Int32) (m24 : Int32) (m25 : Int32) (m26 : Int32) (m27 : Int64) (m28 : Int32) (m29 : Int32) (m30 : Nat) (m31 : Nat) (m32 : Int32) (m33 : Int32) (m34 : Int32) (m35 : Int32) (m36 : Nat) (w : Int32) (sz : Nat) : Met l ⟨"MatrixScriptsModel", "told", "(I)I"⟩ w_Mdl_told { frames := 0, cells := 0, slots := 0, locals := 0 } (cp D g [.ref h0, .int w] [(h0, .inr (16, [.int m0, .ref m1, .int m2, .ref m3, .ref m4, .ref m5, .ref m6, .ref m7, .ref m8, .ref m9, .ref m10, .ref m11, .int m12, .int m13, .int m14, .ref m15, .int m16, .int m17, .int m18, .int m19, .int m20, .int m21, .int m22, .int m23, .int m24, .int m25, .int m26, .long m27, .int m28, .int m29, .ref m30, .ref m31, .int m32, .int m33, .int m34, .int m35, .ref m36]))] sz) (ci D (va_A [(h0, .inr (16, [.int m0, .ref m1, .int m2, .ref m3, .ref m4, .ref m5, .ref m6, .ref m7, .ref m8, .ref m9, .ref m10, .ref m11, .int m12, .int m13, .int m14, .ref m15, .int m16, .int m17, .int m18, .int m19, .int m20, .int m21, .int m22, .int m23, .int m24, .int m25, .int m26, .long m27, .int m28, .int m29, .ref m30, .ref m31, .int m32, .int m33, .int m34, .int m35, .ref m36]))] sz) (fun r _ => r = if w = 0 then m12 else if w = 1 then m13 else if w = 2 then m17 else if w = 3 then m2 else -1) (fun u : Unit => [(h0, .inr (16, [.int 0, .ref m1, .int m2, .ref m3, .ref m4, .ref m5, .ref m6, .ref m7, .ref m8, .ref m9, .ref m10, .ref m11, .int m12, .int m13, .int m14, .ref m15, .int m16, .int m17, .int m18, .int m19, .int m20, .int m21, .int m22, .int m23, .int m24, .int m25, .int m26, .long m27, .int m28, .int m29, .ref m30, .ref m31, .int m32, .int m33, .int m34, .int m35, .ref m36]))])) 0 0 (va_A [(h0, .inr (16, [.int m0, .ref m1, .int m2, .ref m3, .ref m4, .ref m5, .ref m6, .ref m7, .ref m8, .ref m9, .ref m10, .ref m11, .int m12, .int m13, .int m14, .ref m15, .int m16, .int m17, .int m18, .int m19, .int m20, .int m21, .int m22, .int m23, .int m24, .int m25, .int m26, .long m27, .int m28, .int m29, .ref m30, .ref m31, .int m32, .int m33, .int m34, .int m35, .ref m36]))] sz) := by
  refine Met.ofW (cc := prog_17_method_69_code) (maxL := 2) (ret := (some .int)) (by decide) rfl ?_
  intro p e s m args below meth c s₁ B0 hml hv
  obtain ⟨rfl, hsz, hP, hK, hD0, hN⟩ := hv
  have hx := B0.exec
  have hb := B0.bytes
  have hr := B0.returns
  have hts := atoms_spec (ws := w_Mdl_told) B0.pre
  have hT := fun (w : Cond) (h : w ∈ wd_all) => hts w (List.mem_cons_of_mem _ h)
  have hown : s.vm.findClass "MatrixScriptsModel" = some m.cls := findClass_of_methodNamed B0.named
  have hlocks := B0.notSynchronized
  subst hsz
  have hD := hD0.self (sz := s.heap.size)
  generalize hAe : va_A [(h0, .inr (16, [.int m0, .ref m1, .int m2, .ref m3, .ref m4, .ref m5, .ref m6, .ref m7, .ref m8, .ref m9, .ref m10, .ref m11, .int m12, .int m13, .int m14, .ref m15, .int m16, .int m17, .int m18, .int m19, .int m20, .int m21, .int m22, .int m23, .int m24, .int m25, .int m26, .long m27, .int m28, .int m29, .ref m30, .ref m31, .int m32, .int m33, .int m34, .int m35, .ref m36]))] s.heap.size = A at hD ⊢
  have hA : ∀ q : Nat, s.heap.size ≤ q → A q := fun q h => by rw [← hAe]; exact Or.inr h
  have hS : va_S A s.heap s.heap [] := va_S.rf
  have hP : va_P D vC ([(h0, .inr (16, [.int m0, .ref m1, .int m2, .ref m3, .ref m4, .ref m5, .ref m6, .ref m7, .ref m8, .ref m9, .ref m10, .ref m11, .int m12, .int m13, .int m14, .ref m15, .int m16, .int m17, .int m18, .int m19, .int m20, .int m21, .int m22, .int m23, .int m24, .int m25, .int m26, .long m27, .int m28, .int m29, .ref m30, .ref m31, .int m32, .int m33, .int m34, .int m35, .ref m36]))] ++ ([] : va_W)) s.heap := hP
  have hD : va_D A ([(h0, .inr (16, [.int m0, .ref m1, .int m2, .ref m3, .ref m4, .ref m5, .ref m6, .ref m7, .ref m8, .ref m9, .ref m10, .ref m11, .int m12, .int m13, .int m14, .ref m15, .int m16, .int m17, .int m18, .int m19, .int m20, .int m21, .int m22, .int m23, .int m24, .int m25, .int m26, .long m27, .int m28, .int m29, .ref m30, .ref m31, .int m32, .int m33, .int m34, .int m35, .ref m36]))] ++ ([] : va_W)) := hD
  have hl := lv_entry ([.ref h0, .int w]) (n := 2) (Nat.le_of_ble_eq_true rfl)
  rw [lg_entry_eq]
  generalize (lg_sl ([.ref h0, .int w]) ++ List.replicate (2 - (lg_sl ([.ref h0, .int w])).length) Slot.unset).toArray = ls at hl ⊢
  have hl : lv_has ls 2 [(0, .ref h0), (1, .int w)] := hl
  refine lv_aload_n hx hb d_Mdl_told_0 rfl (lv_at hl 0 rfl) ?_
  refine lv_iconst (v := 0) hx hb d_Mdl_told_1 (by decide) ?_
  refine va_put (D := D) (ci := 16) (v := .int 0) (ty := .int) (C := "MatrixScriptsModel") (T := T_Mdl) (N := 37) hx hb hT in_Mdl ty_Mdl ty_Mdl_ok nm_Mdl hown hK hP hD hS 0 rfl rfl 0 (by decide) (hT _ tw_2215) (fun _ h9 => h9) rfl (by decide +kernel) rfl rfl (Nat.le_of_ble_eq_true rfl) d_Mdl_told_2 (fun H locs hP hD hS => ?_)
  have hP : va_P D vC ([(h0, .inr (16, [.int 0, .ref m1, .int m2, .ref m3, .ref m4, .ref m5, .ref m6, .ref m7, .ref m8, .ref m9, .ref m10, .ref m11, .int m12, .int m13, .int m14, .ref m15, .int m16, .int m17, .int m18, .int m19, .int m20, .int m21, .int m22, .int m23, .int m24, .int m25, .int m26, .long m27, .int m28, .int m29, .ref m30, .ref m31, .int m32, .int m33, .int m34, .int m35, .ref m36]))] ++ ([] : va_W)) H := hP
  have hD : va_D A ([(h0, .inr (16, [.int 0, .ref m1, .int m2, .ref m3, .ref m4, .ref m5, .ref m6, .ref m7, .ref m8, .ref m9, .ref m10, .ref m11, .int m12, .int m13, .int m14, .ref m15, .int m16, .int m17, .int m18, .int m19, .int m20, .int m21, .int m22, .int m23, .int m24, .int m25, .int m26, .long m27, .int m28, .int m29, .ref m30, .ref m31, .int m32, .int m33, .int m34, .int m35, .ref m36]))] ++ ([] : va_W)) := hD
  refine lv_iload_n hx hb d_Mdl_told_5 rfl (lv_at hl 1 rfl) ?_
  refine lv_if_ne (tgt := 16) hx hb d_Mdl_told_6 (by decide) (fun c6 => ?_) (fun c6 => ?_)
  · refine lv_iload_n hx hb d_Mdl_told_16 rfl (lv_at hl 1 rfl) ?_
    refine lv_iconst (v := 1) hx hb d_Mdl_told_17 (by decide) ?_
    refine lv_icmp_ne (tgt := 28) hx hb d_Mdl_told_18 (by decide) (fun c18 => ?_) (fun c18 => ?_)
    · refine lv_iload_n hx hb d_Mdl_told_28 rfl (lv_at hl 1 rfl) ?_
      refine lv_iconst (v := 2) hx hb d_Mdl_told_29 (by decide) ?_
      refine lv_icmp_ne (tgt := 40) hx hb d_Mdl_told_30 (by decide) (fun c30 => ?_) (fun c30 => ?_)
      · refine lv_iload_n hx hb d_Mdl_told_40 rfl (lv_at hl 1 rfl) ?_
        refine lv_iconst (v := 3) hx hb d_Mdl_told_41 (by decide) ?_
        refine lv_icmp_ne (tgt := 52) hx hb d_Mdl_told_42 (by decide) (fun c42 => ?_) (fun c42 => ?_)
        · refine lv_iconst (v := -1) hx hb d_Mdl_told_52 (by decide) ?_
          have hP9 := pm_subP (a' := [(h0, .inr (16, [.int 0, .ref m1, .int m2, .ref m3, .ref m4, .ref m5, .ref m6, .ref m7, .ref m8, .ref m9, .ref m10, .ref m11, .int m12, .int m13, .int m14, .ref m15, .int m16, .int m17, .int m18, .int m19, .int m20, .int m21, .int m22, .int m23, .int m24, .int m25, .int m26, .long m27, .int m28, .int m29, .ref m30, .ref m31, .int m32, .int m33, .int m34, .int m35, .ref m36]))]) hP [0] rfl
          have hD9 := pm_subD (a' := [(h0, .inr (16, [.int 0, .ref m1, .int m2, .ref m3, .ref m4, .ref m5, .ref m6, .ref m7, .ref m8, .ref m9, .ref m10, .ref m11, .int m12, .int m13, .int m14, .ref m15, .int m16, .int m17, .int m18, .int m19, .int m20, .int m21, .int m22, .int m23, .int m24, .int m25, .int m26, .long m27, .int m28, .int m29, .ref m30, .ref m31, .int m32, .int m33, .int m34, .int m35, .ref m36]))]) hD [0] (by decide) rfl
          refine W.widen (k := 0) (n := 0) (Nat.le_of_ble_eq_true rfl) (Nat.le_of_ble_eq_true rfl) ?_
          exact W.iret (v := (-1)) hx hb hr (fun t ht1 hW => ⟨⟨_, (), rfl, by first | (rw [if_pos c6]; done) | (rw [if_neg c6, if_pos (Decidable.not_not.mp c18)]; done) | (rw [if_neg c6, if_neg c18, if_pos (Decidable.not_not.mp c30)]; done) | (rw [if_neg c6, if_neg c18, if_neg c30, if_pos (Decidable.not_not.mp c42)]; done) | (rw [if_neg c6, if_neg c18, if_neg c30, if_neg c42]; done) | (rw [if_pos (Decidable.not_not.mp c6)]; done) | (simp_all; done), by rw [ht1]; exact hP9, hD9⟩, hS.F ht1⟩) hS.2.2 d_Mdl_told_53
        · refine lv_aload_n hx hb d_Mdl_told_45 rfl (lv_at hl 0 rfl) ?_
          refine va_get (D := D) (ci := 16) (v := .int m2) (C := "MatrixScriptsModel") (T := T_Mdl) (N := 37) hx hb hT in_Mdl hown hK hP 0 rfl rfl 2 (by decide) (hT _ tw_2217) (fun _ h9 => h9) rfl d_Mdl_told_46 ?_
          refine lv_goto (tgt := 53) hx hb d_Mdl_told_49 (by decide) ?_
          have hP9 := pm_subP (a' := [(h0, .inr (16, [.int 0, .ref m1, .int m2, .ref m3, .ref m4, .ref m5, .ref m6, .ref m7, .ref m8, .ref m9, .ref m10, .ref m11, .int m12, .int m13, .int m14, .ref m15, .int m16, .int m17, .int m18, .int m19, .int m20, .int m21, .int m22, .int m23, .int m24, .int m25, .int m26, .long m27, .int m28, .int m29, .ref m30, .ref m31, .int m32, .int m33, .int m34, .int m35, .ref m36]))]) hP [0] rfl
          have hD9 := pm_subD (a' := [(h0, .inr (16, [.int 0, .ref m1, .int m2, .ref m3, .ref m4, .ref m5, .ref m6, .ref m7, .ref m8, .ref m9, .ref m10, .ref m11, .int m12, .int m13, .int m14, .ref m15, .int m16, .int m17, .int m18, .int m19, .int m20, .int m21, .int m22, .int m23, .int m24, .int m25, .int m26, .long m27, .int m28, .int m29, .ref m30, .ref m31, .int m32, .int m33, .int m34, .int m35, .ref m36]))]) hD [0] (by decide) rfl
          refine W.widen (k := 0) (n := 0) (Nat.le_of_ble_eq_true rfl) (Nat.le_of_ble_eq_true rfl) ?_
          exact W.iret (v := m2) hx hb hr (fun t ht1 hW => ⟨⟨_, (), rfl, by first | (rw [if_pos c6]; done) | (rw [if_neg c6, if_pos (Decidable.not_not.mp c18)]; done) | (rw [if_neg c6, if_neg c18, if_pos (Decidable.not_not.mp c30)]; done) | (rw [if_neg c6, if_neg c18, if_neg c30, if_pos (Decidable.not_not.mp c42)]; done) | (rw [if_neg c6, if_neg c18, if_neg c30, if_neg c42]; done) | (rw [if_pos (Decidable.not_not.mp c6)]; done) | (simp_all; done), by rw [ht1]; exact hP9, hD9⟩, hS.F ht1⟩) hS.2.2 d_Mdl_told_53
      · refine lv_aload_n hx hb d_Mdl_told_33 rfl (lv_at hl 0 rfl) ?_
        refine va_get (D := D) (ci := 16) (v := .int m17) (C := "MatrixScriptsModel") (T := T_Mdl) (N := 37) hx hb hT in_Mdl hown hK hP 0 rfl rfl 17 (by decide) (hT _ tw_2232) (fun _ h9 => h9) rfl d_Mdl_told_34 ?_
        refine lv_goto (tgt := 53) hx hb d_Mdl_told_37 (by decide) ?_
        have hP9 := pm_subP (a' := [(h0, .inr (16, [.int 0, .ref m1, .int m2, .ref m3, .ref m4, .ref m5, .ref m6, .ref m7, .ref m8, .ref m9, .ref m10, .ref m11, .int m12, .int m13, .int m14, .ref m15, .int m16, .int m17, .int m18, .int m19, .int m20, .int m21, .int m22, .int m23, .int m24, .int m25, .int m26, .long m27, .int m28, .int m29, .ref m30, .ref m31, .int m32, .int m33, .int m34, .int m35, .ref m36]))]) hP [0] rfl
        have hD9 := pm_subD (a' := [(h0, .inr (16, [.int 0, .ref m1, .int m2, .ref m3, .ref m4, .ref m5, .ref m6, .ref m7, .ref m8, .ref m9, .ref m10, .ref m11, .int m12, .int m13, .int m14, .ref m15, .int m16, .int m17, .int m18, .int m19, .int m20, .int m21, .int m22, .int m23, .int m24, .int m25, .int m26, .long m27, .int m28, .int m29, .ref m30, .ref m31, .int m32, .int m33, .int m34, .int m35, .ref m36]))]) hD [0] (by decide) rfl
        refine W.widen (k := 0) (n := 0) (Nat.le_of_ble_eq_true rfl) (Nat.le_of_ble_eq_true rfl) ?_
        exact W.iret (v := m17) hx hb hr (fun t ht1 hW => ⟨⟨_, (), rfl, by first | (rw [if_pos c6]; done) | (rw [if_neg c6, if_pos (Decidable.not_not.mp c18)]; done) | (rw [if_neg c6, if_neg c18, if_pos (Decidable.not_not.mp c30)]; done) | (rw [if_neg c6, if_neg c18, if_neg c30, if_pos (Decidable.not_not.mp c42)]; done) | (rw [if_neg c6, if_neg c18, if_neg c30, if_neg c42]; done) | (rw [if_pos (Decidable.not_not.mp c6)]; done) | (simp_all; done), by rw [ht1]; exact hP9, hD9⟩, hS.F ht1⟩) hS.2.2 d_Mdl_told_53
    · refine lv_aload_n hx hb d_Mdl_told_21 rfl (lv_at hl 0 rfl) ?_
      refine va_get (D := D) (ci := 16) (v := .int m13) (C := "MatrixScriptsModel") (T := T_Mdl) (N := 37) hx hb hT in_Mdl hown hK hP 0 rfl rfl 13 (by decide) (hT _ tw_2228) (fun _ h9 => h9) rfl d_Mdl_told_22 ?_
      refine lv_goto (tgt := 53) hx hb d_Mdl_told_25 (by decide) ?_
      have hP9 := pm_subP (a' := [(h0, .inr (16, [.int 0, .ref m1, .int m2, .ref m3, .ref m4, .ref m5, .ref m6, .ref m7, .ref m8, .ref m9, .ref m10, .ref m11, .int m12, .int m13, .int m14, .ref m15, .int m16, .int m17, .int m18, .int m19, .int m20, .int m21, .int m22, .int m23, .int m24, .int m25, .int m26, .long m27, .int m28, .int m29, .ref m30, .ref m31, .int m32, .int m33, .int m34, .int m35, .ref m36]))]) hP [0] rfl
      have hD9 := pm_subD (a' := [(h0, .inr (16, [.int 0, .ref m1, .int m2, .ref m3, .ref m4, .ref m5, .ref m6, .ref m7, .ref m8, .ref m9, .ref m10, .ref m11, .int m12, .int m13, .int m14, .ref m15, .int m16, .int m17, .int m18, .int m19, .int m20, .int m21, .int m22, .int m23, .int m24, .int m25, .int m26, .long m27, .int m28, .int m29, .ref m30, .ref m31, .int m32, .int m33, .int m34, .int m35, .ref m36]))]) hD [0] (by decide) rfl
      refine W.widen (k := 0) (n := 0) (Nat.le_of_ble_eq_true rfl) (Nat.le_of_ble_eq_true rfl) ?_
      exact W.iret (v := m13) hx hb hr (fun t ht1 hW => ⟨⟨_, (), rfl, by first | (rw [if_pos c6]; done) | (rw [if_neg c6, if_pos (Decidable.not_not.mp c18)]; done) | (rw [if_neg c6, if_neg c18, if_pos (Decidable.not_not.mp c30)]; done) | (rw [if_neg c6, if_neg c18, if_neg c30, if_pos (Decidable.not_not.mp c42)]; done) | (rw [if_neg c6, if_neg c18, if_neg c30, if_neg c42]; done) | (rw [if_pos (Decidable.not_not.mp c6)]; done) | (simp_all; done), by rw [ht1]; exact hP9, hD9⟩, hS.F ht1⟩) hS.2.2 d_Mdl_told_53
  · refine lv_aload_n hx hb d_Mdl_told_9 rfl (lv_at hl 0 rfl) ?_
    refine va_get (D := D) (ci := 16) (v := .int m12) (C := "MatrixScriptsModel") (T := T_Mdl) (N := 37) hx hb hT in_Mdl hown hK hP 0 rfl rfl 12 (by decide) (hT _ tw_2227) (fun _ h9 => h9) rfl d_Mdl_told_10 ?_
    refine lv_goto (tgt := 53) hx hb d_Mdl_told_13 (by decide) ?_
    have hP9 := pm_subP (a' := [(h0, .inr (16, [.int 0, .ref m1, .int m2, .ref m3, .ref m4, .ref m5, .ref m6, .ref m7, .ref m8, .ref m9, .ref m10, .ref m11, .int m12, .int m13, .int m14, .ref m15, .int m16, .int m17, .int m18, .int m19, .int m20, .int m21, .int m22, .int m23, .int m24, .int m25, .int m26, .long m27, .int m28, .int m29, .ref m30, .ref m31, .int m32, .int m33, .int m34, .int m35, .ref m36]))]) hP [0] rfl
    have hD9 := pm_subD (a' := [(h0, .inr (16, [.int 0, .ref m1, .int m2, .ref m3, .ref m4, .ref m5, .ref m6, .ref m7, .ref m8, .ref m9, .ref m10, .ref m11, .int m12, .int m13, .int m14, .ref m15, .int m16, .int m17, .int m18, .int m19, .int m20, .int m21, .int m22, .int m23, .int m24, .int m25, .int m26, .long m27, .int m28, .int m29, .ref m30, .ref m31, .int m32, .int m33, .int m34, .int m35, .ref m36]))]) hD [0] (by decide) rfl
    refine W.widen (k := 0) (n := 0) (Nat.le_of_ble_eq_true rfl) (Nat.le_of_ble_eq_true rfl) ?_
    exact W.iret (v := m12) hx hb hr (fun t ht1 hW => ⟨⟨_, (), rfl, by first | (rw [if_pos c6]; done) | (rw [if_neg c6, if_pos (Decidable.not_not.mp c18)]; done) | (rw [if_neg c6, if_neg c18, if_pos (Decidable.not_not.mp c30)]; done) | (rw [if_neg c6, if_neg c18, if_neg c30, if_pos (Decidable.not_not.mp c42)]; done) | (rw [if_neg c6, if_neg c18, if_neg c30, if_neg c42]; done) | (rw [if_pos (Decidable.not_not.mp c6)]; done) | (simp_all; done), by rw [ht1]; exact hP9, hD9⟩, hS.F ht1⟩) hS.2.2 d_Mdl_told_53
def w_Mdl_end : List Cond := .code ⟨"MatrixScriptsModel", "end", "(I)V"⟩ prog_17_method_62_code 2 none :: wd_all
theorem gd_Mdl_end : GoodIn wd_all w_Mdl_end := gd_of tw_2338
set_option maxHeartbeats 4000000 in
set_option maxRecDepth 100000 in
theorem c_Mdl_end (l : Launch) (D : va_G) (g : Nat → ClassId) (h0 : Nat) (m0 : Int32) (m1 : Nat) (m2 : Int32) (m3 : Nat) (m4 : Nat) (m5 : Nat) (m6 : Nat) (m7 : Nat) (m8 : Nat) (m9 : Nat) (m10 : Nat) (m11 : Nat) (m12 : Int32) (m13 : Int32) (m14 : Int32) (m15 : Nat) (m16 : Int32) (m17 : Int32) (m18 : Int32) (m19 : Int32) (m20 : Int32) (m21 : Int32) (m22 : Int32) (m23 : Int32) (m24 : Int32) (m25 : Int32) (m26 : Int32) (m27 : Int64) (m28 : Int32) (m29 : Int32) (m30 : Nat) (m31 : Nat) (m32 : Int32) (m33 : Int32) (m34 : Int32) (m35 : Int32) (m36 : Nat) (n : Int32) (sz : Nat) : Met l ⟨"MatrixScriptsModel", "end", "(I)V"⟩ w_Mdl_end { frames := 0, cells := 0, slots := 0, locals := 0 } (cp D g [.ref h0, .int n] [(h0, .inr (16, [.int m0, .ref m1, .int m2, .ref m3, .ref m4, .ref m5, .ref m6, .ref m7, .ref m8, .ref m9, .ref m10, .ref m11, .int m12, .int m13, .int m14, .ref m15, .int m16, .int m17, .int m18, .int m19, .int m20, .int m21, .int m22, .int m23, .int m24, .int m25, .int m26, .long m27, .int m28, .int m29, .ref m30, .ref m31, .int m32, .int m33, .int m34, .int m35, .ref m36]))] sz) (cw D (va_A [(h0, .inr (16, [.int m0, .ref m1, .int m2, .ref m3, .ref m4, .ref m5, .ref m6, .ref m7, .ref m8, .ref m9, .ref m10, .ref m11, .int m12, .int m13, .int m14, .ref m15, .int m16, .int m17, .int m18, .int m19, .int m20, .int m21, .int m22, .int m23, .int m24, .int m25, .int m26, .long m27, .int m28, .int m29, .ref m30, .ref m31, .int m32, .int m33, .int m34, .int m35, .ref m36]))] sz) (fun u => ((n < 0 ∨ m2 < n) → u = (1, m2)) ∧ (¬ (n < 0 ∨ m2 < n) → u = (0, n))) (fun u : Int32 × Int32 => [(h0, .inr (16, [.int u.1, .ref m1, .int u.2, .ref m3, .ref m4, .ref m5, .ref m6, .ref m7, .ref m8, .ref m9, .ref m10, .ref m11, .int m12, .int m13, .int m14, .ref m15, .int m16, .int m17, .int m18, .int m19, .int m20, .int m21, .int m22, .int m23, .int m24, .int m25, .int m26, .long m27, .int m28, .int m29, .ref m30, .ref m31, .int m32, .int m33, .int m34, .int m35, .ref m36]))])) 0 0 (va_A [(h0, .inr (16, [.int m0, .ref m1, .int m2, .ref m3, .ref m4, .ref m5, .ref m6, .ref m7, .ref m8, .ref m9, .ref m10, .ref m11, .int m12, .int m13, .int m14, .ref m15, .int m16, .int m17, .int m18, .int m19, .int m20, .int m21, .int m22, .int m23, .int m24, .int m25, .int m26, .long m27, .int m28, .int m29, .ref m30, .ref m31, .int m32, .int m33, .int m34, .int m35, .ref m36]))] sz) := by
  refine Met.ofW (cc := prog_17_method_62_code) (maxL := 2) (ret := none) (by decide) rfl ?_
  intro p e s m args below meth c s₁ B0 hml hv
  obtain ⟨rfl, hsz, hP, hK, hD0, hN⟩ := hv
  have hx := B0.exec
  have hb := B0.bytes
  have hr := B0.returns
  have hts := atoms_spec (ws := w_Mdl_end) B0.pre
  have hT := fun (w : Cond) (h : w ∈ wd_all) => hts w (List.mem_cons_of_mem _ h)
  have hown : s.vm.findClass "MatrixScriptsModel" = some m.cls := findClass_of_methodNamed B0.named
  have hlocks := B0.notSynchronized
  subst hsz
  have hD := hD0.self (sz := s.heap.size)
  generalize hAe : va_A [(h0, .inr (16, [.int m0, .ref m1, .int m2, .ref m3, .ref m4, .ref m5, .ref m6, .ref m7, .ref m8, .ref m9, .ref m10, .ref m11, .int m12, .int m13, .int m14, .ref m15, .int m16, .int m17, .int m18, .int m19, .int m20, .int m21, .int m22, .int m23, .int m24, .int m25, .int m26, .long m27, .int m28, .int m29, .ref m30, .ref m31, .int m32, .int m33, .int m34, .int m35, .ref m36]))] s.heap.size = A at hD ⊢
  have hA : ∀ q : Nat, s.heap.size ≤ q → A q := fun q h => by rw [← hAe]; exact Or.inr h
  have hS : va_S A s.heap s.heap [] := va_S.rf
  have hP : va_P D vC ([(h0, .inr (16, [.int m0, .ref m1, .int m2, .ref m3, .ref m4, .ref m5, .ref m6, .ref m7, .ref m8, .ref m9, .ref m10, .ref m11, .int m12, .int m13, .int m14, .ref m15, .int m16, .int m17, .int m18, .int m19, .int m20, .int m21, .int m22, .int m23, .int m24, .int m25, .int m26, .long m27, .int m28, .int m29, .ref m30, .ref m31, .int m32, .int m33, .int m34, .int m35, .ref m36]))] ++ ([] : va_W)) s.heap := hP
  have hD : va_D A ([(h0, .inr (16, [.int m0, .ref m1, .int m2, .ref m3, .ref m4, .ref m5, .ref m6, .ref m7, .ref m8, .ref m9, .ref m10, .ref m11, .int m12, .int m13, .int m14, .ref m15, .int m16, .int m17, .int m18, .int m19, .int m20, .int m21, .int m22, .int m23, .int m24, .int m25, .int m26, .long m27, .int m28, .int m29, .ref m30, .ref m31, .int m32, .int m33, .int m34, .int m35, .ref m36]))] ++ ([] : va_W)) := hD
  have hl := lv_entry ([.ref h0, .int n]) (n := 2) (Nat.le_of_ble_eq_true rfl)
  rw [lg_entry_eq]
  generalize (lg_sl ([.ref h0, .int n]) ++ List.replicate (2 - (lg_sl ([.ref h0, .int n])).length) Slot.unset).toArray = ls at hl ⊢
  have hl : lv_has ls 2 [(0, .ref h0), (1, .int n)] := hl
  refine lv_aload_n hx hb d_Mdl_end_0 rfl (lv_at hl 0 rfl) ?_
  refine lv_iload_n hx hb d_Mdl_end_1 rfl (lv_at hl 1 rfl) ?_
  refine lv_if_lt (tgt := 13) hx hb d_Mdl_end_2 (by decide) (fun c2 => ?_) (fun c2 => ?_)
  · refine lv_iconst (v := 1) hx hb d_Mdl_end_13 (by decide) ?_
    refine lv_goto (tgt := 18) hx hb d_Mdl_end_14 (by decide) ?_
    refine va_put (D := D) (ci := 16) (v := .int 1) (ty := .int) (C := "MatrixScriptsModel") (T := T_Mdl) (N := 37) hx hb hT in_Mdl ty_Mdl ty_Mdl_ok nm_Mdl hown hK hP hD hS 0 rfl rfl 0 (by decide) (hT _ tw_2215) (fun _ h9 => h9) rfl (by decide +kernel) rfl rfl (Nat.le_of_ble_eq_true rfl) d_Mdl_end_18 (fun H locs hP hD hS => ?_)
    have hP : va_P D vC ([(h0, .inr (16, [.int 1, .ref m1, .int m2, .ref m3, .ref m4, .ref m5, .ref m6, .ref m7, .ref m8, .ref m9, .ref m10, .ref m11, .int m12, .int m13, .int m14, .ref m15, .int m16, .int m17, .int m18, .int m19, .int m20, .int m21, .int m22, .int m23, .int m24, .int m25, .int m26, .long m27, .int m28, .int m29, .ref m30, .ref m31, .int m32, .int m33, .int m34, .int m35, .ref m36]))] ++ ([] : va_W)) H := hP
    have hD : va_D A ([(h0, .inr (16, [.int 1, .ref m1, .int m2, .ref m3, .ref m4, .ref m5, .ref m6, .ref m7, .ref m8, .ref m9, .ref m10, .ref m11, .int m12, .int m13, .int m14, .ref m15, .int m16, .int m17, .int m18, .int m19, .int m20, .int m21, .int m22, .int m23, .int m24, .int m25, .int m26, .long m27, .int m28, .int m29, .ref m30, .ref m31, .int m32, .int m33, .int m34, .int m35, .ref m36]))] ++ ([] : va_W)) := hD
    refine lv_aload_n hx hb d_Mdl_end_21 rfl (lv_at hl 0 rfl) ?_
    refine va_get (D := D) (ci := 16) (v := .int 1) (C := "MatrixScriptsModel") (T := T_Mdl) (N := 37) hx hb hT in_Mdl hown hK hP 0 rfl rfl 0 (by decide) (hT _ tw_2215) (fun _ h9 => h9) rfl d_Mdl_end_22 ?_
    refine lv_if_ne (tgt := 33) hx hb d_Mdl_end_25 (by decide) (fun c25 => ?_) (fun c25 => absurd c25 (by decide))
    have hP9 := pm_subP (a' := [(h0, .inr (16, [.int 1, .ref m1, .int m2, .ref m3, .ref m4, .ref m5, .ref m6, .ref m7, .ref m8, .ref m9, .ref m10, .ref m11, .int m12, .int m13, .int m14, .ref m15, .int m16, .int m17, .int m18, .int m19, .int m20, .int m21, .int m22, .int m23, .int m24, .int m25, .int m26, .long m27, .int m28, .int m29, .ref m30, .ref m31, .int m32, .int m33, .int m34, .int m35, .ref m36]))]) hP [0] rfl
    have hD9 := pm_subD (a' := [(h0, .inr (16, [.int 1, .ref m1, .int m2, .ref m3, .ref m4, .ref m5, .ref m6, .ref m7, .ref m8, .ref m9, .ref m10, .ref m11, .int m12, .int m13, .int m14, .ref m15, .int m16, .int m17, .int m18, .int m19, .int m20, .int m21, .int m22, .int m23, .int m24, .int m25, .int m26, .long m27, .int m28, .int m29, .ref m30, .ref m31, .int m32, .int m33, .int m34, .int m35, .ref m36]))]) hD [0] (by decide) rfl
    refine W.widen (k := 0) (n := 0) (Nat.le_of_ble_eq_true rfl) (Nat.le_of_ble_eq_true rfl) ?_
    exact W.vret hx hb hr (fun t ht1 hW => ⟨⟨(1, m2), rfl, ⟨fun _ => rfl, fun h => absurd (Or.inl c2) h⟩, by rw [ht1]; exact hP9, hD9⟩, hS.F ht1⟩) hS.2.2 d_Mdl_end_33
  · refine lv_iload_n hx hb d_Mdl_end_5 rfl (lv_at hl 1 rfl) ?_
    refine lv_aload_n hx hb d_Mdl_end_6 rfl (lv_at hl 0 rfl) ?_
    refine va_get (D := D) (ci := 16) (v := .int m2) (C := "MatrixScriptsModel") (T := T_Mdl) (N := 37) hx hb hT in_Mdl hown hK hP 0 rfl rfl 2 (by decide) (hT _ tw_2217) (fun _ h9 => h9) rfl d_Mdl_end_7 ?_
    refine lv_icmp_le (tgt := 17) hx hb d_Mdl_end_10 (by decide) (fun c10 => ?_) (fun c10 => ?_)
    · refine lv_iconst (v := 0) hx hb d_Mdl_end_17 (by decide) ?_
      refine va_put (D := D) (ci := 16) (v := .int 0) (ty := .int) (C := "MatrixScriptsModel") (T := T_Mdl) (N := 37) hx hb hT in_Mdl ty_Mdl ty_Mdl_ok nm_Mdl hown hK hP hD hS 0 rfl rfl 0 (by decide) (hT _ tw_2215) (fun _ h9 => h9) rfl (by decide +kernel) rfl rfl (Nat.le_of_ble_eq_true rfl) d_Mdl_end_18 (fun H locs hP hD hS => ?_)
      have hP : va_P D vC ([(h0, .inr (16, [.int 0, .ref m1, .int m2, .ref m3, .ref m4, .ref m5, .ref m6, .ref m7, .ref m8, .ref m9, .ref m10, .ref m11, .int m12, .int m13, .int m14, .ref m15, .int m16, .int m17, .int m18, .int m19, .int m20, .int m21, .int m22, .int m23, .int m24, .int m25, .int m26, .long m27, .int m28, .int m29, .ref m30, .ref m31, .int m32, .int m33, .int m34, .int m35, .ref m36]))] ++ ([] : va_W)) H := hP
      have hD : va_D A ([(h0, .inr (16, [.int 0, .ref m1, .int m2, .ref m3, .ref m4, .ref m5, .ref m6, .ref m7, .ref m8, .ref m9, .ref m10, .ref m11, .int m12, .int m13, .int m14, .ref m15, .int m16, .int m17, .int m18, .int m19, .int m20, .int m21, .int m22, .int m23, .int m24, .int m25, .int m26, .long m27, .int m28, .int m29, .ref m30, .ref m31, .int m32, .int m33, .int m34, .int m35, .ref m36]))] ++ ([] : va_W)) := hD
      refine lv_aload_n hx hb d_Mdl_end_21 rfl (lv_at hl 0 rfl) ?_
      refine va_get (D := D) (ci := 16) (v := .int 0) (C := "MatrixScriptsModel") (T := T_Mdl) (N := 37) hx hb hT in_Mdl hown hK hP 0 rfl rfl 0 (by decide) (hT _ tw_2215) (fun _ h9 => h9) rfl d_Mdl_end_22 ?_
      refine lv_if_ne (tgt := 33) hx hb d_Mdl_end_25 (by decide) (fun c25 => absurd (by decide) c25) (fun c25 => ?_)
      refine lv_aload_n hx hb d_Mdl_end_28 rfl (lv_at hl 0 rfl) ?_
      refine lv_iload_n hx hb d_Mdl_end_29 rfl (lv_at hl 1 rfl) ?_
      refine va_put (D := D) (ci := 16) (v := .int n) (ty := .int) (C := "MatrixScriptsModel") (T := T_Mdl) (N := 37) hx hb hT in_Mdl ty_Mdl ty_Mdl_ok nm_Mdl hown hK hP hD hS 0 rfl rfl 2 (by decide) (hT _ tw_2217) (fun _ h9 => h9) rfl (by decide +kernel) rfl rfl (Nat.le_of_ble_eq_true rfl) d_Mdl_end_30 (fun H locs hP hD hS => ?_)
      have hP : va_P D vC ([(h0, .inr (16, [.int 0, .ref m1, .int n, .ref m3, .ref m4, .ref m5, .ref m6, .ref m7, .ref m8, .ref m9, .ref m10, .ref m11, .int m12, .int m13, .int m14, .ref m15, .int m16, .int m17, .int m18, .int m19, .int m20, .int m21, .int m22, .int m23, .int m24, .int m25, .int m26, .long m27, .int m28, .int m29, .ref m30, .ref m31, .int m32, .int m33, .int m34, .int m35, .ref m36]))] ++ ([] : va_W)) H := hP
      have hD : va_D A ([(h0, .inr (16, [.int 0, .ref m1, .int n, .ref m3, .ref m4, .ref m5, .ref m6, .ref m7, .ref m8, .ref m9, .ref m10, .ref m11, .int m12, .int m13, .int m14, .ref m15, .int m16, .int m17, .int m18, .int m19, .int m20, .int m21, .int m22, .int m23, .int m24, .int m25, .int m26, .long m27, .int m28, .int m29, .ref m30, .ref m31, .int m32, .int m33, .int m34, .int m35, .ref m36]))] ++ ([] : va_W)) := hD
      have hP9 := pm_subP (a' := [(h0, .inr (16, [.int 0, .ref m1, .int n, .ref m3, .ref m4, .ref m5, .ref m6, .ref m7, .ref m8, .ref m9, .ref m10, .ref m11, .int m12, .int m13, .int m14, .ref m15, .int m16, .int m17, .int m18, .int m19, .int m20, .int m21, .int m22, .int m23, .int m24, .int m25, .int m26, .long m27, .int m28, .int m29, .ref m30, .ref m31, .int m32, .int m33, .int m34, .int m35, .ref m36]))]) hP [0] rfl
      have hD9 := pm_subD (a' := [(h0, .inr (16, [.int 0, .ref m1, .int n, .ref m3, .ref m4, .ref m5, .ref m6, .ref m7, .ref m8, .ref m9, .ref m10, .ref m11, .int m12, .int m13, .int m14, .ref m15, .int m16, .int m17, .int m18, .int m19, .int m20, .int m21, .int m22, .int m23, .int m24, .int m25, .int m26, .long m27, .int m28, .int m29, .ref m30, .ref m31, .int m32, .int m33, .int m34, .int m35, .ref m36]))]) hD [0] (by decide) rfl
      refine W.widen (k := 0) (n := 0) (Nat.le_of_ble_eq_true rfl) (Nat.le_of_ble_eq_true rfl) ?_
      exact W.vret hx hb hr (fun t ht1 hW => ⟨⟨(0, n), rfl, ⟨fun h => absurd h (fun h => h.elim c2 (fun h => Int32.not_le.mpr h c10)), fun _ => rfl⟩, by rw [ht1]; exact hP9, hD9⟩, hS.F ht1⟩) hS.2.2 d_Mdl_end_33
    · refine lv_iconst (v := 1) hx hb d_Mdl_end_13 (by decide) ?_
      refine lv_goto (tgt := 18) hx hb d_Mdl_end_14 (by decide) ?_
      refine va_put (D := D) (ci := 16) (v := .int 1) (ty := .int) (C := "MatrixScriptsModel") (T := T_Mdl) (N := 37) hx hb hT in_Mdl ty_Mdl ty_Mdl_ok nm_Mdl hown hK hP hD hS 0 rfl rfl 0 (by decide) (hT _ tw_2215) (fun _ h9 => h9) rfl (by decide +kernel) rfl rfl (Nat.le_of_ble_eq_true rfl) d_Mdl_end_18 (fun H locs hP hD hS => ?_)
      have hP : va_P D vC ([(h0, .inr (16, [.int 1, .ref m1, .int m2, .ref m3, .ref m4, .ref m5, .ref m6, .ref m7, .ref m8, .ref m9, .ref m10, .ref m11, .int m12, .int m13, .int m14, .ref m15, .int m16, .int m17, .int m18, .int m19, .int m20, .int m21, .int m22, .int m23, .int m24, .int m25, .int m26, .long m27, .int m28, .int m29, .ref m30, .ref m31, .int m32, .int m33, .int m34, .int m35, .ref m36]))] ++ ([] : va_W)) H := hP
      have hD : va_D A ([(h0, .inr (16, [.int 1, .ref m1, .int m2, .ref m3, .ref m4, .ref m5, .ref m6, .ref m7, .ref m8, .ref m9, .ref m10, .ref m11, .int m12, .int m13, .int m14, .ref m15, .int m16, .int m17, .int m18, .int m19, .int m20, .int m21, .int m22, .int m23, .int m24, .int m25, .int m26, .long m27, .int m28, .int m29, .ref m30, .ref m31, .int m32, .int m33, .int m34, .int m35, .ref m36]))] ++ ([] : va_W)) := hD
      refine lv_aload_n hx hb d_Mdl_end_21 rfl (lv_at hl 0 rfl) ?_
      refine va_get (D := D) (ci := 16) (v := .int 1) (C := "MatrixScriptsModel") (T := T_Mdl) (N := 37) hx hb hT in_Mdl hown hK hP 0 rfl rfl 0 (by decide) (hT _ tw_2215) (fun _ h9 => h9) rfl d_Mdl_end_22 ?_
      refine lv_if_ne (tgt := 33) hx hb d_Mdl_end_25 (by decide) (fun c25 => ?_) (fun c25 => absurd c25 (by decide))
      have hP9 := pm_subP (a' := [(h0, .inr (16, [.int 1, .ref m1, .int m2, .ref m3, .ref m4, .ref m5, .ref m6, .ref m7, .ref m8, .ref m9, .ref m10, .ref m11, .int m12, .int m13, .int m14, .ref m15, .int m16, .int m17, .int m18, .int m19, .int m20, .int m21, .int m22, .int m23, .int m24, .int m25, .int m26, .long m27, .int m28, .int m29, .ref m30, .ref m31, .int m32, .int m33, .int m34, .int m35, .ref m36]))]) hP [0] rfl
      have hD9 := pm_subD (a' := [(h0, .inr (16, [.int 1, .ref m1, .int m2, .ref m3, .ref m4, .ref m5, .ref m6, .ref m7, .ref m8, .ref m9, .ref m10, .ref m11, .int m12, .int m13, .int m14, .ref m15, .int m16, .int m17, .int m18, .int m19, .int m20, .int m21, .int m22, .int m23, .int m24, .int m25, .int m26, .long m27, .int m28, .int m29, .ref m30, .ref m31, .int m32, .int m33, .int m34, .int m35, .ref m36]))]) hD [0] (by decide) rfl
      refine W.widen (k := 0) (n := 0) (Nat.le_of_ble_eq_true rfl) (Nat.le_of_ble_eq_true rfl) ?_
      exact W.vret hx hb hr (fun t ht1 hW => ⟨⟨(1, m2), rfl, ⟨fun _ => rfl, fun h => absurd (Or.inr (Int32.not_le.mp c10)) h⟩, by rw [ht1]; exact hP9, hD9⟩, hS.F ht1⟩) hS.2.2 d_Mdl_end_33
def w_Mdl_forget : List Cond := .code ⟨"MatrixScriptsModel", "forget", "()I"⟩ prog_17_method_68_code 2 (some .int) :: wd_all
theorem gd_Mdl_forget : GoodIn wd_all w_Mdl_forget := gd_of tw_3083
set_option maxHeartbeats 4000000 in
set_option maxRecDepth 100000 in
theorem c_Mdl_forget (l : Launch) (D : va_G) (g : Nat → ClassId) (h0 : Nat) (m0 : Int32) (m1 : Nat) (m2 : Int32) (m3 : Nat) (m4 : Nat) (m5 : Nat) (m6 : Nat) (m7 : Nat) (m8 : Nat) (m9 : Nat) (m10 : Nat) (m11 : Nat) (m12 : Int32) (m13 : Int32) (m14 : Int32) (m15 : Nat) (m16 : Int32) (m17 : Int32) (m18 : Int32) (m19 : Int32) (m20 : Int32) (m21 : Int32) (m22 : Int32) (m23 : Int32) (m24 : Int32) (m25 : Int32) (m26 : Int32) (m27 : Int64) (m28 : Int32) (m29 : Int32) (m30 : Nat) (m31 : Nat) (m32 : Int32) (m33 : Int32) (m34 : Int32) (m35 : Int32) (m36 : Nat) (f0 : Nat) (f1 : Nat) (f2 : Int32) (f3 : Int32) (f4 : Int32) (f5 : Nat) (f6 : Int32) (k0 : Nat) (k1 : Int32) (k2 : Int32) (sz : Nat) : Met l ⟨"MatrixScriptsModel", "forget", "()I"⟩ w_Mdl_forget { frames := 0, cells := 0, slots := 0, locals := 0 } (cp D g [.ref h0] [(h0, .inr (16, [.int m0, .ref m1, .int m2, .ref m3, .ref m4, .ref m5, .ref m6, .ref m7, .ref m8, .ref m9, .ref m10, .ref m11, .int m12, .int m13, .int m14, .ref m15, .int m16, .int m17, .int m18, .int m19, .int m20, .int m21, .int m22, .int m23, .int m24, .int m25, .int m26, .long m27, .int m28, .int m29, .ref m30, .ref m31, .int m32, .int m33, .int m34, .int m35, .ref m36])), (m5, .inr (14, [.ref f0, .ref f1, .int f2, .int f3, .int f4, .ref f5, .int f6])), (f0, .inr (15, [.ref k0, .int k1, .int k2]))] sz) (ci D (va_A [(h0, .inr (16, [.int m0, .ref m1, .int m2, .ref m3, .ref m4, .ref m5, .ref m6, .ref m7, .ref m8, .ref m9, .ref m10, .ref m11, .int m12, .int m13, .int m14, .ref m15, .int m16, .int m17, .int m18, .int m19, .int m20, .int m21, .int m22, .int m23, .int m24, .int m25, .int m26, .long m27, .int m28, .int m29, .ref m30, .ref m31, .int m32, .int m33, .int m34, .int m35, .ref m36])), (m5, .inr (14, [.ref f0, .ref f1, .int f2, .int f3, .int f4, .ref f5, .int f6])), (f0, .inr (15, [.ref k0, .int k1, .int k2]))] sz) (fun r _ => r = m12) (fun u : Unit => [(h0, .inr (16, [.int 0, .ref m1, .int m2, .ref m3, .ref m4, .ref m5, .ref m6, .ref m7, .ref m8, .ref m9, .ref m10, .ref m11, .int 0, .int 0, .int 0, .ref m15, .int m16, .int m17, .int m18, .int m19, .int m20, .int m21, .int m22, .int m23, .int m24, .int m25, .int m26, .long m27, .int m28, .int m29, .ref m30, .ref m31, .int m32, .int m33, .int m34, .int m35, .ref m36])), (m5, .inr (14, [.ref f0, .ref f1, .int 0, .int f3, .int f4, .ref f5, .int f6])), (f0, .inr (15, [.ref k0, .int 3, .int k2]))])) 0 0 (va_A [(h0, .inr (16, [.int m0, .ref m1, .int m2, .ref m3, .ref m4, .ref m5, .ref m6, .ref m7, .ref m8, .ref m9, .ref m10, .ref m11, .int m12, .int m13, .int m14, .ref m15, .int m16, .int m17, .int m18, .int m19, .int m20, .int m21, .int m22, .int m23, .int m24, .int m25, .int m26, .long m27, .int m28, .int m29, .ref m30, .ref m31, .int m32, .int m33, .int m34, .int m35, .ref m36])), (m5, .inr (14, [.ref f0, .ref f1, .int f2, .int f3, .int f4, .ref f5, .int f6])), (f0, .inr (15, [.ref k0, .int k1, .int k2]))] sz) := by
  refine Met.ofW (cc := prog_17_method_68_code) (maxL := 2) (ret := (some .int)) (by decide) rfl ?_
  intro p e s m args below meth c s₁ B0 hml hv
  obtain ⟨rfl, hsz, hP, hK, hD0, hN⟩ := hv
  have hx := B0.exec
  have hb := B0.bytes
  have hr := B0.returns
  have hts := atoms_spec (ws := w_Mdl_forget) B0.pre
  have hT := fun (w : Cond) (h : w ∈ wd_all) => hts w (List.mem_cons_of_mem _ h)
  have hown : s.vm.findClass "MatrixScriptsModel" = some m.cls := findClass_of_methodNamed B0.named
  have hlocks := B0.notSynchronized
  subst hsz
  have hD := hD0.self (sz := s.heap.size)
  generalize hAe : va_A [(h0, .inr (16, [.int m0, .ref m1, .int m2, .ref m3, .ref m4, .ref m5, .ref m6, .ref m7, .ref m8, .ref m9, .ref m10, .ref m11, .int m12, .int m13, .int m14, .ref m15, .int m16, .int m17, .int m18, .int m19, .int m20, .int m21, .int m22, .int m23, .int m24, .int m25, .int m26, .long m27, .int m28, .int m29, .ref m30, .ref m31, .int m32, .int m33, .int m34, .int m35, .ref m36])), (m5, .inr (14, [.ref f0, .ref f1, .int f2, .int f3, .int f4, .ref f5, .int f6])), (f0, .inr (15, [.ref k0, .int k1, .int k2]))] s.heap.size = A at hD ⊢
  have hA : ∀ q : Nat, s.heap.size ≤ q → A q := fun q h => by rw [← hAe]; exact Or.inr h
  have hS : va_S A s.heap s.heap [] := va_S.rf
  have hP : va_P D vC ([(h0, .inr (16, [.int m0, .ref m1, .int m2, .ref m3, .ref m4, .ref m5, .ref m6, .ref m7, .ref m8, .ref m9, .ref m10, .ref m11, .int m12, .int m13, .int m14, .ref m15, .int m16, .int m17, .int m18, .int m19, .int m20, .int m21, .int m22, .int m23, .int m24, .int m25, .int m26, .long m27, .int m28, .int m29, .ref m30, .ref m31, .int m32, .int m33, .int m34, .int m35, .ref m36])), (m5, .inr (14, [.ref f0, .ref f1, .int f2, .int f3, .int f4, .ref f5, .int f6])), (f0, .inr (15, [.ref k0, .int k1, .int k2]))] ++ ([] : va_W)) s.heap := hP
  have hD : va_D A ([(h0, .inr (16, [.int m0, .ref m1, .int m2, .ref m3, .ref m4, .ref m5, .ref m6, .ref m7, .ref m8, .ref m9, .ref m10, .ref m11, .int m12, .int m13, .int m14, .ref m15, .int m16, .int m17, .int m18, .int m19, .int m20, .int m21, .int m22, .int m23, .int m24, .int m25, .int m26, .long m27, .int m28, .int m29, .ref m30, .ref m31, .int m32, .int m33, .int m34, .int m35, .ref m36])), (m5, .inr (14, [.ref f0, .ref f1, .int f2, .int f3, .int f4, .ref f5, .int f6])), (f0, .inr (15, [.ref k0, .int k1, .int k2]))] ++ ([] : va_W)) := hD
  have hl := lv_entry ([.ref h0]) (n := 2) (Nat.le_of_ble_eq_true rfl)
  rw [lg_entry_eq]
  generalize (lg_sl ([.ref h0]) ++ List.replicate (2 - (lg_sl ([.ref h0])).length) Slot.unset).toArray = ls at hl ⊢
  have hl : lv_has ls 2 [(0, .ref h0)] := hl
  refine lv_aload_n hx hb d_Mdl_forget_0 rfl (lv_at hl 0 rfl) ?_
  refine lv_iconst (v := 0) hx hb d_Mdl_forget_1 (by decide) ?_
  refine va_put (D := D) (ci := 16) (v := .int 0) (ty := .int) (C := "MatrixScriptsModel") (T := T_Mdl) (N := 37) hx hb hT in_Mdl ty_Mdl ty_Mdl_ok nm_Mdl hown hK hP hD hS 0 rfl rfl 0 (by decide) (hT _ tw_2215) (fun _ h9 => h9) rfl (by decide +kernel) rfl rfl (Nat.le_of_ble_eq_true rfl) d_Mdl_forget_2 (fun H locs hP hD hS => ?_)
  have hP : va_P D vC ([(h0, .inr (16, [.int 0, .ref m1, .int m2, .ref m3, .ref m4, .ref m5, .ref m6, .ref m7, .ref m8, .ref m9, .ref m10, .ref m11, .int m12, .int m13, .int m14, .ref m15, .int m16, .int m17, .int m18, .int m19, .int m20, .int m21, .int m22, .int m23, .int m24, .int m25, .int m26, .long m27, .int m28, .int m29, .ref m30, .ref m31, .int m32, .int m33, .int m34, .int m35, .ref m36])), (m5, .inr (14, [.ref f0, .ref f1, .int f2, .int f3, .int f4, .ref f5, .int f6])), (f0, .inr (15, [.ref k0, .int k1, .int k2]))] ++ ([] : va_W)) H := hP
  have hD : va_D A ([(h0, .inr (16, [.int 0, .ref m1, .int m2, .ref m3, .ref m4, .ref m5, .ref m6, .ref m7, .ref m8, .ref m9, .ref m10, .ref m11, .int m12, .int m13, .int m14, .ref m15, .int m16, .int m17, .int m18, .int m19, .int m20, .int m21, .int m22, .int m23, .int m24, .int m25, .int m26, .long m27, .int m28, .int m29, .ref m30, .ref m31, .int m32, .int m33, .int m34, .int m35, .ref m36])), (m5, .inr (14, [.ref f0, .ref f1, .int f2, .int f3, .int f4, .ref f5, .int f6])), (f0, .inr (15, [.ref k0, .int k1, .int k2]))] ++ ([] : va_W)) := hD
  refine lv_aload_n hx hb d_Mdl_forget_5 rfl (lv_at hl 0 rfl) ?_
  refine va_get (D := D) (ci := 16) (v := .int m12) (C := "MatrixScriptsModel") (T := T_Mdl) (N := 37) hx hb hT in_Mdl hown hK hP 0 rfl rfl 12 (by decide) (hT _ tw_2227) (fun _ h9 => h9) rfl d_Mdl_forget_6 ?_
  refine lv_istore_n (lv' := [(1, .int m12), (0, .ref h0)]) hx hb d_Mdl_forget_9 rfl hl (by decide) rfl (fun ls hl => ?_)
  refine lv_aload_n hx hb d_Mdl_forget_10 rfl (lv_at hl 1 rfl) ?_
  refine lv_iconst (v := 0) hx hb d_Mdl_forget_11 (by decide) ?_
  refine va_put (D := D) (ci := 16) (v := .int 0) (ty := .int) (C := "MatrixScriptsModel") (T := T_Mdl) (N := 37) hx hb hT in_Mdl ty_Mdl ty_Mdl_ok nm_Mdl hown hK hP hD hS 0 rfl rfl 12 (by decide) (hT _ tw_2227) (fun _ h9 => h9) rfl (by decide +kernel) rfl rfl (Nat.le_of_ble_eq_true rfl) d_Mdl_forget_12 (fun H locs hP hD hS => ?_)
  have hP : va_P D vC ([(h0, .inr (16, [.int 0, .ref m1, .int m2, .ref m3, .ref m4, .ref m5, .ref m6, .ref m7, .ref m8, .ref m9, .ref m10, .ref m11, .int 0, .int m13, .int m14, .ref m15, .int m16, .int m17, .int m18, .int m19, .int m20, .int m21, .int m22, .int m23, .int m24, .int m25, .int m26, .long m27, .int m28, .int m29, .ref m30, .ref m31, .int m32, .int m33, .int m34, .int m35, .ref m36])), (m5, .inr (14, [.ref f0, .ref f1, .int f2, .int f3, .int f4, .ref f5, .int f6])), (f0, .inr (15, [.ref k0, .int k1, .int k2]))] ++ ([] : va_W)) H := hP
  have hD : va_D A ([(h0, .inr (16, [.int 0, .ref m1, .int m2, .ref m3, .ref m4, .ref m5, .ref m6, .ref m7, .ref m8, .ref m9, .ref m10, .ref m11, .int 0, .int m13, .int m14, .ref m15, .int m16, .int m17, .int m18, .int m19, .int m20, .int m21, .int m22, .int m23, .int m24, .int m25, .int m26, .long m27, .int m28, .int m29, .ref m30, .ref m31, .int m32, .int m33, .int m34, .int m35, .ref m36])), (m5, .inr (14, [.ref f0, .ref f1, .int f2, .int f3, .int f4, .ref f5, .int f6])), (f0, .inr (15, [.ref k0, .int k1, .int k2]))] ++ ([] : va_W)) := hD
  refine lv_aload_n hx hb d_Mdl_forget_15 rfl (lv_at hl 1 rfl) ?_
  refine lv_iconst (v := 0) hx hb d_Mdl_forget_16 (by decide) ?_
  refine va_put (D := D) (ci := 16) (v := .int 0) (ty := .int) (C := "MatrixScriptsModel") (T := T_Mdl) (N := 37) hx hb hT in_Mdl ty_Mdl ty_Mdl_ok nm_Mdl hown hK hP hD hS 0 rfl rfl 13 (by decide) (hT _ tw_2228) (fun _ h9 => h9) rfl (by decide +kernel) rfl rfl (Nat.le_of_ble_eq_true rfl) d_Mdl_forget_17 (fun H locs hP hD hS => ?_)
  have hP : va_P D vC ([(h0, .inr (16, [.int 0, .ref m1, .int m2, .ref m3, .ref m4, .ref m5, .ref m6, .ref m7, .ref m8, .ref m9, .ref m10, .ref m11, .int 0, .int 0, .int m14, .ref m15, .int m16, .int m17, .int m18, .int m19, .int m20, .int m21, .int m22, .int m23, .int m24, .int m25, .int m26, .long m27, .int m28, .int m29, .ref m30, .ref m31, .int m32, .int m33, .int m34, .int m35, .ref m36])), (m5, .inr (14, [.ref f0, .ref f1, .int f2, .int f3, .int f4, .ref f5, .int f6])), (f0, .inr (15, [.ref k0, .int k1, .int k2]))] ++ ([] : va_W)) H := hP
  have hD : va_D A ([(h0, .inr (16, [.int 0, .ref m1, .int m2, .ref m3, .ref m4, .ref m5, .ref m6, .ref m7, .ref m8, .ref m9, .ref m10, .ref m11, .int 0, .int 0, .int m14, .ref m15, .int m16, .int m17, .int m18, .int m19, .int m20, .int m21, .int m22, .int m23, .int m24, .int m25, .int m26, .long m27, .int m28, .int m29, .ref m30, .ref m31, .int m32, .int m33, .int m34, .int m35, .ref m36])), (m5, .inr (14, [.ref f0, .ref f1, .int f2, .int f3, .int f4, .ref f5, .int f6])), (f0, .inr (15, [.ref k0, .int k1, .int k2]))] ++ ([] : va_W)) := hD
  refine lv_aload_n hx hb d_Mdl_forget_20 rfl (lv_at hl 1 rfl) ?_
  refine lv_iconst (v := 0) hx hb d_Mdl_forget_21 (by decide) ?_
  refine va_put (D := D) (ci := 16) (v := .int 0) (ty := .int) (C := "MatrixScriptsModel") (T := T_Mdl) (N := 37) hx hb hT in_Mdl ty_Mdl ty_Mdl_ok nm_Mdl hown hK hP hD hS 0 rfl rfl 14 (by decide) (hT _ tw_2229) (fun _ h9 => h9) rfl (by decide +kernel) rfl rfl (Nat.le_of_ble_eq_true rfl) d_Mdl_forget_22 (fun H locs hP hD hS => ?_)
  have hP : va_P D vC ([(h0, .inr (16, [.int 0, .ref m1, .int m2, .ref m3, .ref m4, .ref m5, .ref m6, .ref m7, .ref m8, .ref m9, .ref m10, .ref m11, .int 0, .int 0, .int 0, .ref m15, .int m16, .int m17, .int m18, .int m19, .int m20, .int m21, .int m22, .int m23, .int m24, .int m25, .int m26, .long m27, .int m28, .int m29, .ref m30, .ref m31, .int m32, .int m33, .int m34, .int m35, .ref m36])), (m5, .inr (14, [.ref f0, .ref f1, .int f2, .int f3, .int f4, .ref f5, .int f6])), (f0, .inr (15, [.ref k0, .int k1, .int k2]))] ++ ([] : va_W)) H := hP
  have hD : va_D A ([(h0, .inr (16, [.int 0, .ref m1, .int m2, .ref m3, .ref m4, .ref m5, .ref m6, .ref m7, .ref m8, .ref m9, .ref m10, .ref m11, .int 0, .int 0, .int 0, .ref m15, .int m16, .int m17, .int m18, .int m19, .int m20, .int m21, .int m22, .int m23, .int m24, .int m25, .int m26, .long m27, .int m28, .int m29, .ref m30, .ref m31, .int m32, .int m33, .int m34, .int m35, .ref m36])), (m5, .inr (14, [.ref f0, .ref f1, .int f2, .int f3, .int f4, .ref f5, .int f6])), (f0, .inr (15, [.ref k0, .int k1, .int k2]))] ++ ([] : va_W)) := hD
  refine lv_aload_n hx hb d_Mdl_forget_25 rfl (lv_at hl 1 rfl) ?_
  refine va_get (D := D) (ci := 16) (v := .ref m5) (C := "MatrixScriptsModel") (T := T_Mdl) (N := 37) hx hb hT in_Mdl hown hK hP 0 rfl rfl 5 (by decide) (hT _ tw_2220) (fun _ h9 => h9) rfl d_Mdl_forget_26 ?_
  refine va_getN (D := D) (ci := 14) (v := .ref f0) (C := "MatrixScriptsModel$Fractions") (T := T_Frac) (N := 7) hx hb hT in_Frac hown hK hP 1 rfl rfl 0 (by decide) (hN.1 _ nw_2141) (fun _ h9 => h9) rfl d_Mdl_forget_29 ?_
  refine lv_iconst (v := 3) hx hb d_Mdl_forget_32 (by decide) ?_
  refine va_putN (D := D) (ci := 15) (v := .int 3) (ty := .int) (C := "MatrixScriptsModel$Wholes") (T := T_Whs) (N := 3) hx hb hT in_Whs ty_Whs ty_Whs_ok nm_Whs hown hK hP hD hS 2 rfl rfl 1 (by decide) (hN.1 _ nw_2127) (fun _ h9 => h9) rfl (by decide +kernel) rfl rfl (Nat.le_of_ble_eq_true rfl) d_Mdl_forget_33 (fun H locs hP hD hS => ?_)
  have hP : va_P D vC ([(h0, .inr (16, [.int 0, .ref m1, .int m2, .ref m3, .ref m4, .ref m5, .ref m6, .ref m7, .ref m8, .ref m9, .ref m10, .ref m11, .int 0, .int 0, .int 0, .ref m15, .int m16, .int m17, .int m18, .int m19, .int m20, .int m21, .int m22, .int m23, .int m24, .int m25, .int m26, .long m27, .int m28, .int m29, .ref m30, .ref m31, .int m32, .int m33, .int m34, .int m35, .ref m36])), (m5, .inr (14, [.ref f0, .ref f1, .int f2, .int f3, .int f4, .ref f5, .int f6])), (f0, .inr (15, [.ref k0, .int 3, .int k2]))] ++ ([] : va_W)) H := hP
  have hD : va_D A ([(h0, .inr (16, [.int 0, .ref m1, .int m2, .ref m3, .ref m4, .ref m5, .ref m6, .ref m7, .ref m8, .ref m9, .ref m10, .ref m11, .int 0, .int 0, .int 0, .ref m15, .int m16, .int m17, .int m18, .int m19, .int m20, .int m21, .int m22, .int m23, .int m24, .int m25, .int m26, .long m27, .int m28, .int m29, .ref m30, .ref m31, .int m32, .int m33, .int m34, .int m35, .ref m36])), (m5, .inr (14, [.ref f0, .ref f1, .int f2, .int f3, .int f4, .ref f5, .int f6])), (f0, .inr (15, [.ref k0, .int 3, .int k2]))] ++ ([] : va_W)) := hD
  refine lv_aload_n hx hb d_Mdl_forget_36 rfl (lv_at hl 1 rfl) ?_
  refine va_get (D := D) (ci := 16) (v := .ref m5) (C := "MatrixScriptsModel") (T := T_Mdl) (N := 37) hx hb hT in_Mdl hown hK hP 0 rfl rfl 5 (by decide) (hT _ tw_2220) (fun _ h9 => h9) rfl d_Mdl_forget_37 ?_
  refine lv_iconst (v := 0) hx hb d_Mdl_forget_40 (by decide) ?_
  refine va_putN (D := D) (ci := 14) (v := .int 0) (ty := .int) (C := "MatrixScriptsModel$Fractions") (T := T_Frac) (N := 7) hx hb hT in_Frac ty_Frac ty_Frac_ok nm_Frac hown hK hP hD hS 1 rfl rfl 2 (by decide) (hN.1 _ nw_2146) (fun _ h9 => h9) rfl (by decide +kernel) rfl rfl (Nat.le_of_ble_eq_true rfl) d_Mdl_forget_41 (fun H locs hP hD hS => ?_)
  have hP : va_P D vC ([(h0, .inr (16, [.int 0, .ref m1, .int m2, .ref m3, .ref m4, .ref m5, .ref m6, .ref m7, .ref m8, .ref m9, .ref m10, .ref m11, .int 0, .int 0, .int 0, .ref m15, .int m16, .int m17, .int m18, .int m19, .int m20, .int m21, .int m22, .int m23, .int m24, .int m25, .int m26, .long m27, .int m28, .int m29, .ref m30, .ref m31, .int m32, .int m33, .int m34, .int m35, .ref m36])), (m5, .inr (14, [.ref f0, .ref f1, .int 0, .int f3, .int f4, .ref f5, .int f6])), (f0, .inr (15, [.ref k0, .int 3, .int k2]))] ++ ([] : va_W)) H := hP
  have hD : va_D A ([(h0, .inr (16, [.int 0, .ref m1, .int m2, .ref m3, .ref m4, .ref m5, .ref m6, .ref m7, .ref m8, .ref m9, .ref m10, .ref m11, .int 0, .int 0, .int 0, .ref m15, .int m16, .int m17, .int m18, .int m19, .int m20, .int m21, .int m22, .int m23, .int m24, .int m25, .int m26, .long m27, .int m28, .int m29, .ref m30, .ref m31, .int m32, .int m33, .int m34, .int m35, .ref m36])), (m5, .inr (14, [.ref f0, .ref f1, .int 0, .int f3, .int f4, .ref f5, .int f6])), (f0, .inr (15, [.ref k0, .int 3, .int k2]))] ++ ([] : va_W)) := hD
  refine lv_iload_n hx hb d_Mdl_forget_44 rfl (lv_at hl 0 rfl) ?_
  have hP9 := pm_subP (a' := [(h0, .inr (16, [.int 0, .ref m1, .int m2, .ref m3, .ref m4, .ref m5, .ref m6, .ref m7, .ref m8, .ref m9, .ref m10, .ref m11, .int 0, .int 0, .int 0, .ref m15, .int m16, .int m17, .int m18, .int m19, .int m20, .int m21, .int m22, .int m23, .int m24, .int m25, .int m26, .long m27, .int m28, .int m29, .ref m30, .ref m31, .int m32, .int m33, .int m34, .int m35, .ref m36])), (m5, .inr (14, [.ref f0, .ref f1, .int 0, .int f3, .int f4, .ref f5, .int f6])), (f0, .inr (15, [.ref k0, .int 3, .int k2]))]) hP [0, 1, 2] rfl
  have hD9 := pm_subD (a' := [(h0, .inr (16, [.int 0, .ref m1, .int m2, .ref m3, .ref m4, .ref m5, .ref m6, .ref m7, .ref m8, .ref m9, .ref m10, .ref m11, .int 0, .int 0, .int 0, .ref m15, .int m16, .int m17, .int m18, .int m19, .int m20, .int m21, .int m22, .int m23, .int m24, .int m25, .int m26, .long m27, .int m28, .int m29, .ref m30, .ref m31, .int m32, .int m33, .int m34, .int m35, .ref m36])), (m5, .inr (14, [.ref f0, .ref f1, .int 0, .int f3, .int f4, .ref f5, .int f6])), (f0, .inr (15, [.ref k0, .int 3, .int k2]))]) hD [0, 1, 2] (by decide) rfl
  refine W.widen (k := 0) (n := 0) (Nat.le_of_ble_eq_true rfl) (Nat.le_of_ble_eq_true rfl) ?_
  exact W.iret (v := m12) hx hb hr (fun t ht1 hW => ⟨⟨_, (), rfl, rfl, by rw [ht1]; exact hP9, hD9⟩, hS.F ht1⟩) hS.2.2 d_Mdl_forget_45
def w_Script_dropCode : List Cond := .code ⟨"MatrixScripts$Script", "dropCode", "()V"⟩ prog_12_method_3_code 1 none :: wd_all
theorem gd_Script_dropCode : GoodIn wd_all w_Script_dropCode := gd_of tw_1030
set_option maxHeartbeats 4000000 in
set_option maxRecDepth 100000 in
theorem c_Script_dropCode (l : Launch) (D : va_G) (g : Nat → ClassId) (h0 : Nat) (s0 : Nat) (s1 : Nat) (s2 : Nat) (s3 : Int32) (s4 : Int32) (s5 : Int32) (s6 : Int32) (s7 : Int32) (s8 : Nat) (s9 : Nat) (s10 : Nat) (s11 : Nat) (s12 : Nat) (s13 : Int32) (s14 : Int32) (s15 : Nat) (s16 : Int32) (sz : Nat) : Met l ⟨"MatrixScripts$Script", "dropCode", "()V"⟩ w_Script_dropCode { frames := 0, cells := 0, slots := 0, locals := 0 } (cp D g [.ref h0] [(h0, .inr (8, [.ref s0, .ref s1, .ref s2, .int s3, .int s4, .int s5, .int s6, .int s7, .ref s8, .ref s9, .ref s10, .ref s11, .ref s12, .int s13, .int s14, .ref s15, .int s16]))] sz) (cw D (va_A [(h0, .inr (8, [.ref s0, .ref s1, .ref s2, .int s3, .int s4, .int s5, .int s6, .int s7, .ref s8, .ref s9, .ref s10, .ref s11, .ref s12, .int s13, .int s14, .ref s15, .int s16]))] sz) (fun _ => True) (fun u : Unit => [(h0, .inr (8, [.ref s0, .ref s1, .ref s2, .int 0, .int s4, .int s5, .int s6, .int s7, .ref s8, .ref s9, .ref s10, .ref s11, .ref s12, .int s13, .int s14, .ref s15, .int s16]))])) 0 0 (va_A [(h0, .inr (8, [.ref s0, .ref s1, .ref s2, .int s3, .int s4, .int s5, .int s6, .int s7, .ref s8, .ref s9, .ref s10, .ref s11, .ref s12, .int s13, .int s14, .ref s15, .int s16]))] sz) := by
  refine Met.ofW (cc := prog_12_method_3_code) (maxL := 1) (ret := none) (by decide) rfl ?_
  intro p e s m args below meth c s₁ B0 hml hv
  obtain ⟨rfl, hsz, hP, hK, hD0, hN⟩ := hv
  have hx := B0.exec
  have hb := B0.bytes
  have hr := B0.returns
  have hts := atoms_spec (ws := w_Script_dropCode) B0.pre
  have hT := fun (w : Cond) (h : w ∈ wd_all) => hts w (List.mem_cons_of_mem _ h)
  have hown : s.vm.findClass "MatrixScripts$Script" = some m.cls := findClass_of_methodNamed B0.named
  have hlocks := B0.notSynchronized
  subst hsz
  have hD := hD0.self (sz := s.heap.size)
  generalize hAe : va_A [(h0, .inr (8, [.ref s0, .ref s1, .ref s2, .int s3, .int s4, .int s5, .int s6, .int s7, .ref s8, .ref s9, .ref s10, .ref s11, .ref s12, .int s13, .int s14, .ref s15, .int s16]))] s.heap.size = A at hD ⊢
  have hA : ∀ q : Nat, s.heap.size ≤ q → A q := fun q h => by rw [← hAe]; exact Or.inr h
  have hS : va_S A s.heap s.heap [] := va_S.rf
  have hP : va_P D vC ([(h0, .inr (8, [.ref s0, .ref s1, .ref s2, .int s3, .int s4, .int s5, .int s6, .int s7, .ref s8, .ref s9, .ref s10, .ref s11, .ref s12, .int s13, .int s14, .ref s15, .int s16]))] ++ ([] : va_W)) s.heap := hP
  have hD : va_D A ([(h0, .inr (8, [.ref s0, .ref s1, .ref s2, .int s3, .int s4, .int s5, .int s6, .int s7, .ref s8, .ref s9, .ref s10, .ref s11, .ref s12, .int s13, .int s14, .ref s15, .int s16]))] ++ ([] : va_W)) := hD
  have hl := lv_entry ([.ref h0]) (n := 1) (Nat.le_of_ble_eq_true rfl)
  rw [lg_entry_eq]
  generalize (lg_sl ([.ref h0]) ++ List.replicate (1 - (lg_sl ([.ref h0])).length) Slot.unset).toArray = ls at hl ⊢
  have hl : lv_has ls 1 [(0, .ref h0)] := hl
  refine lv_aload_n hx hb d_Script_dropCode_0 rfl (lv_at hl 0 rfl) ?_
  refine lv_iconst (v := 0) hx hb d_Script_dropCode_1 (by decide) ?_
  refine va_put (D := D) (ci := 8) (v := .int 0) (ty := .int) (C := "MatrixScripts$Script") (T := T_Script) (N := 17) hx hb hT in_Script ty_Script ty_Script_ok nm_Script hown hK hP hD hS 0 rfl rfl 3 (by decide) (hT _ tw_684) (fun _ h9 => h9) rfl (by decide +kernel) rfl rfl (Nat.le_of_ble_eq_true rfl) d_Script_dropCode_2 (fun H locs hP hD hS => ?_)
  have hP : va_P D vC ([(h0, .inr (8, [.ref s0, .ref s1, .ref s2, .int 0, .int s4, .int s5, .int s6, .int s7, .ref s8, .ref s9, .ref s10, .ref s11, .ref s12, .int s13, .int s14, .ref s15, .int s16]))] ++ ([] : va_W)) H := hP
  have hD : va_D A ([(h0, .inr (8, [.ref s0, .ref s1, .ref s2, .int 0, .int s4, .int s5, .int s6, .int s7, .ref s8, .ref s9, .ref s10, .ref s11, .ref s12, .int s13, .int s14, .ref s15, .int s16]))] ++ ([] : va_W)) := hD
  have hP9 := pm_subP (a' := [(h0, .inr (8, [.ref s0, .ref s1, .ref s2, .int 0, .int s4, .int s5, .int s6, .int s7, .ref s8, .ref s9, .ref s10, .ref s11, .ref s12, .int s13, .int s14, .ref s15, .int s16]))]) hP [0] rfl
  have hD9 := pm_subD (a' := [(h0, .inr (8, [.ref s0, .ref s1, .ref s2, .int 0, .int s4, .int s5, .int s6, .int s7, .ref s8, .ref s9, .ref s10, .ref s11, .ref s12, .int s13, .int s14, .ref s15, .int s16]))]) hD [0] (by decide) rfl
  refine W.widen (k := 0) (n := 0) (Nat.le_of_ble_eq_true rfl) (Nat.le_of_ble_eq_true rfl) ?_
  exact W.vret hx hb hr (fun t ht1 hW => ⟨⟨(), rfl, trivial, by rw [ht1]; exact hP9, hD9⟩, hS.F ht1⟩) hS.2.2 d_Script_dropCode_5
def w_Script_begin : List Cond := .code ⟨"MatrixScripts$Script", "begin", "()V"⟩ prog_12_method_2_code 1 none :: wd_all
theorem gd_Script_begin : GoodIn wd_all w_Script_begin := gd_of tw_757
set_option maxHeartbeats 4000000 in
set_option maxRecDepth 100000 in
theorem c_Script_begin (l : Launch) (D : va_G) (g : Nat → ClassId) (h0 : Nat) (s0 : Nat) (s1 : Nat) (s2 : Nat) (s3 : Int32) (s4 : Int32) (s5 : Int32) (s6 : Int32) (s7 : Int32) (s8 : Nat) (s9 : Nat) (s10 : Nat) (s11 : Nat) (s12 : Nat) (s13 : Int32) (s14 : Int32) (s15 : Nat) (s16 : Int32) (k0 : Int32) (k1 : Nat) (k2 : Nat) (k3 : Nat) (k4 : Nat) (k5 : Nat) (k6 : Nat) (k7 : Nat) (k8 : Nat) (k9 : Nat) (k10 : Nat) (k11 : Nat) (a0 : Int32) (a1 : Int32) (a2 : Int32) (a3 : Nat) (a4 : Nat) (a5 : Int32) (t0 : Nat) (t1 : Int32) (t2 : Int32) (t3 : Int32) (t4 : Int32) (sz : Nat) : Met l ⟨"MatrixScripts$Script", "begin", "()V"⟩ w_Script_begin { frames := 1, cells := 0, slots := 0, locals := 21 } (cp D g [.ref h0] [(h0, .inr (8, [.ref s0, .ref s1, .ref s2, .int s3, .int s4, .int s5, .int s6, .int s7, .ref s8, .ref s9, .ref s10, .ref s11, .ref s12, .int s13, .int s14, .ref s15, .int s16])), (s8, .inr (3, [.int k0, .ref k1, .ref k2, .ref k3, .ref k4, .ref k5, .ref k6, .ref k7, .ref k8, .ref k9, .ref k10, .ref k11])), (s9, .inr (10, [.int a0, .int a1, .int a2, .ref a3, .ref a4, .int a5])), (s0, .inr (9, [.ref t0, .int t1, .int t2, .int t3, .int t4]))] sz) (cw D (va_A [(h0, .inr (8, [.ref s0, .ref s1, .ref s2, .int s3, .int s4, .int s5, .int s6, .int s7, .ref s8, .ref s9, .ref s10, .ref s11, .ref s12, .int s13, .int s14, .ref s15, .int s16])), (s8, .inr (3, [.int k0, .ref k1, .ref k2, .ref k3, .ref k4, .ref k5, .ref k6, .ref k7, .ref k8, .ref k9, .ref k10, .ref k11])), (s9, .inr (10, [.int a0, .int a1, .int a2, .ref a3, .ref a4, .int a5])), (s0, .inr (9, [.ref t0, .int t1, .int t2, .int t3, .int t4]))] sz) (fun _ => True) (fun u : Unit => [(h0, .inr (8, [.ref s0, .ref s1, .ref s2, .int 0, .int 0, .int s5, .int 0, .int (-1), .ref s8, .ref s9, .ref s10, .ref s11, .ref s12, .int 0, .int s14, .ref s15, .int 0])), (s8, .inr (3, [.int 0, .ref k1, .ref k2, .ref k3, .ref k4, .ref k5, .ref k6, .ref k7, .ref k8, .ref k9, .ref k10, .ref k11])), (s9, .inr (10, [.int 0, .int 0, .int 0, .ref a3, .ref a4, .int 0])), (s0, .inr (9, [.ref t0, .int t1, .int t2, .int t3, .int 0]))])) 0 0 (va_A [(h0, .inr (8, [.ref s0, .ref s1, .ref s2, .int s3, .int s4, .int s5, .int s6, .int s7, .ref s8, .ref s9, .ref s10, .ref s11, .ref s12, .int s13, .int s14, .ref s15, .int s16])), (s8, .inr (3, [.int k0, .ref k1, .ref k2, .ref k3, .ref k4, .ref k5, .ref k6, .ref k7, .ref k8, .ref k9, .ref k10, .ref k11])), (s9, .inr (10, [.int a0, .int a1, .int a2, .ref a3, .ref a4, .int a5])), (s0, .inr (9, [.ref t0, .int t1, .int t2, .int t3, .int t4]))] sz) := by
  refine Met.ofW (cc := prog_12_method_2_code) (maxL := 1) (ret := none) (by decide) rfl ?_
  intro p e s m args below meth c s₁ B0 hml hv
  obtain ⟨rfl, hsz, hP, hK, hD0, hN⟩ := hv
  have hx := B0.exec
  have hb := B0.bytes
  have hr := B0.returns
  have hts := atoms_spec (ws := w_Script_begin) B0.pre
  have hT := fun (w : Cond) (h : w ∈ wd_all) => hts w (List.mem_cons_of_mem _ h)
  have hown : s.vm.findClass "MatrixScripts$Script" = some m.cls := findClass_of_methodNamed B0.named
  have hlocks := B0.notSynchronized
  subst hsz
  have hD := hD0.self (sz := s.heap.size)
  generalize hAe : va_A [(h0, .inr (8, [.ref s0, .ref s1, .ref s2, .int s3, .int s4, .int s5, .int s6, .int s7, .ref s8, .ref s9, .ref s10, .ref s11, .ref s12, .int s13, .int s14, .ref s15, .int s16])), (s8, .inr (3, [.int k0, .ref k1, .ref k2, .ref k3, .ref k4, .ref k5, .ref k6, .ref k7, .ref k8, .ref k9, .ref k10, .ref k11])), (s9, .inr (10, [.int a0, .int a1, .int a2, .ref a3, .ref a4, .int a5])), (s0, .inr (9, [.ref t0, .int t1, .int t2, .int t3, .int t4]))] s.heap.size = A at hD ⊢
  have hA : ∀ q : Nat, s.heap.size ≤ q → A q := fun q h => by rw [← hAe]; exact Or.inr h
  have hS : va_S A s.heap s.heap [] := va_S.rf
  have hP : va_P D vC ([(h0, .inr (8, [.ref s0, .ref s1, .ref s2, .int s3, .int s4, .int s5, .int s6, .int s7, .ref s8, .ref s9, .ref s10, .ref s11, .ref s12, .int s13, .int s14, .ref s15, .int s16])), (s8, .inr (3, [.int k0, .ref k1, .ref k2, .ref k3, .ref k4, .ref k5, .ref k6, .ref k7, .ref k8, .ref k9, .ref k10, .ref k11])), (s9, .inr (10, [.int a0, .int a1, .int a2, .ref a3, .ref a4, .int a5])), (s0, .inr (9, [.ref t0, .int t1, .int t2, .int t3, .int t4]))] ++ ([] : va_W)) s.heap := hP
  have hD : va_D A ([(h0, .inr (8, [.ref s0, .ref s1, .ref s2, .int s3, .int s4, .int s5, .int s6, .int s7, .ref s8, .ref s9, .ref s10, .ref s11, .ref s12, .int s13, .int s14, .ref s15, .int s16])), (s8, .inr (3, [.int k0, .ref k1, .ref k2, .ref k3, .ref k4, .ref k5, .ref k6, .ref k7, .ref k8, .ref k9, .ref k10, .ref k11])), (s9, .inr (10, [.int a0, .int a1, .int a2, .ref a3, .ref a4, .int a5])), (s0, .inr (9, [.ref t0, .int t1, .int t2, .int t3, .int t4]))] ++ ([] : va_W)) := hD
  have hl := lv_entry ([.ref h0]) (n := 1) (Nat.le_of_ble_eq_true rfl)
  rw [lg_entry_eq]
  generalize (lg_sl ([.ref h0]) ++ List.replicate (1 - (lg_sl ([.ref h0])).length) Slot.unset).toArray = ls at hl ⊢
  have hl : lv_has ls 1 [(0, .ref h0)] := hl
  refine lv_aload_n hx hb d_Script_begin_0 rfl (lv_at hl 0 rfl) ?_
  refine lv_iconst (v := 0) hx hb d_Script_begin_1 (by decide) ?_
  refine va_put (D := D) (ci := 8) (v := .int 0) (ty := .int) (C := "MatrixScripts$Script") (T := T_Script) (N := 17) hx hb hT in_Script ty_Script ty_Script_ok nm_Script hown hK hP hD hS 0 rfl rfl 4 (by decide) (hT _ tw_686) (fun _ h9 => h9) rfl (by decide +kernel) rfl rfl (Nat.le_of_ble_eq_true rfl) d_Script_begin_2 (fun H locs hP hD hS => ?_)
  have hP : va_P D vC ([(h0, .inr (8, [.ref s0, .ref s1, .ref s2, .int s3, .int 0, .int s5, .int s6, .int s7, .ref s8, .ref s9, .ref s10, .ref s11, .ref s12, .int s13, .int s14, .ref s15, .int s16])), (s8, .inr (3, [.int k0, .ref k1, .ref k2, .ref k3, .ref k4, .ref k5, .ref k6, .ref k7, .ref k8, .ref k9, .ref k10, .ref k11])), (s9, .inr (10, [.int a0, .int a1, .int a2, .ref a3, .ref a4, .int a5])), (s0, .inr (9, [.ref t0, .int t1, .int t2, .int t3, .int t4]))] ++ ([] : va_W)) H := hP
  have hD : va_D A ([(h0, .inr (8, [.ref s0, .ref s1, .ref s2, .int s3, .int 0, .int s5, .int s6, .int s7, .ref s8, .ref s9, .ref s10, .ref s11, .ref s12, .int s13, .int s14, .ref s15, .int s16])), (s8, .inr (3, [.int k0, .ref k1, .ref k2, .ref k3, .ref k4, .ref k5, .ref k6, .ref k7, .ref k8, .ref k9, .ref k10, .ref k11])), (s9, .inr (10, [.int a0, .int a1, .int a2, .ref a3, .ref a4, .int a5])), (s0, .inr (9, [.ref t0, .int t1, .int t2, .int t3, .int t4]))] ++ ([] : va_W)) := hD
  refine lv_aload_n hx hb d_Script_begin_5 rfl (lv_at hl 0 rfl) ?_
  refine lv_iconst (v := 0) hx hb d_Script_begin_6 (by decide) ?_
  refine va_put (D := D) (ci := 8) (v := .int 0) (ty := .int) (C := "MatrixScripts$Script") (T := T_Script) (N := 17) hx hb hT in_Script ty_Script ty_Script_ok nm_Script hown hK hP hD hS 0 rfl rfl 6 (by decide) (hT _ tw_690) (fun _ h9 => h9) rfl (by decide +kernel) rfl rfl (Nat.le_of_ble_eq_true rfl) d_Script_begin_7 (fun H locs hP hD hS => ?_)
  have hP : va_P D vC ([(h0, .inr (8, [.ref s0, .ref s1, .ref s2, .int s3, .int 0, .int s5, .int 0, .int s7, .ref s8, .ref s9, .ref s10, .ref s11, .ref s12, .int s13, .int s14, .ref s15, .int s16])), (s8, .inr (3, [.int k0, .ref k1, .ref k2, .ref k3, .ref k4, .ref k5, .ref k6, .ref k7, .ref k8, .ref k9, .ref k10, .ref k11])), (s9, .inr (10, [.int a0, .int a1, .int a2, .ref a3, .ref a4, .int a5])), (s0, .inr (9, [.ref t0, .int t1, .int t2, .int t3, .int t4]))] ++ ([] : va_W)) H := hP
  have hD : va_D A ([(h0, .inr (8, [.ref s0, .ref s1, .ref s2, .int s3, .int 0, .int s5, .int 0, .int s7, .ref s8, .ref s9, .ref s10, .ref s11, .ref s12, .int s13, .int s14, .ref s15, .int s16])), (s8, .inr (3, [.int k0, .ref k1, .ref k2, .ref k3, .ref k4, .ref k5, .ref k6, .ref k7, .ref k8, .ref k9, .ref k10, .ref k11])), (s9, .inr (10, [.int a0, .int a1, .int a2, .ref a3, .ref a4, .int a5])), (s0, .inr (9, [.ref t0, .int t1, .int t2, .int t3, .int t4]))] ++ ([] : va_W)) := hD
  refine lv_aload_n hx hb d_Script_begin_10 rfl (lv_at hl 0 rfl) ?_
  refine lv_iconst (v := -1) hx hb d_Script_begin_11 (by decide) ?_
  refine va_put (D := D) (ci := 8) (v := .int (-1)) (ty := .int) (C := "MatrixScripts$Script") (T := T_Script) (N := 17) hx hb hT in_Script ty_Script ty_Script_ok nm_Script hown hK hP hD hS 0 rfl rfl 7 (by decide) (hT _ tw_692) (fun _ h9 => h9) rfl (by decide +kernel) rfl rfl (Nat.le_of_ble_eq_true rfl) d_Script_begin_12 (fun H locs hP hD hS => ?_)
  have hP : va_P D vC ([(h0, .inr (8, [.ref s0, .ref s1, .ref s2, .int s3, .int 0, .int s5, .int 0, .int (-1), .ref s8, .ref s9, .ref s10, .ref s11, .ref s12, .int s13, .int s14, .ref s15, .int s16])), (s8, .inr (3, [.int k0, .ref k1, .ref k2, .ref k3, .ref k4, .ref k5, .ref k6, .ref k7, .ref k8, .ref k9, .ref k10, .ref k11])), (s9, .inr (10, [.int a0, .int a1, .int a2, .ref a3, .ref a4, .int a5])), (s0, .inr (9, [.ref t0, .int t1, .int t2, .int t3, .int t4]))] ++ ([] : va_W)) H := hP
  have hD : va_D A ([(h0, .inr (8, [.ref s0, .ref s1, .ref s2, .int s3, .int 0, .int s5, .int 0, .int (-1), .ref s8, .ref s9, .ref s10, .ref s11, .ref s12, .int s13, .int s14, .ref s15, .int s16])), (s8, .inr (3, [.int k0, .ref k1, .ref k2, .ref k3, .ref k4, .ref k5, .ref k6, .ref k7, .ref k8, .ref k9, .ref k10, .ref k11])), (s9, .inr (10, [.int a0, .int a1, .int a2, .ref a3, .ref a4, .int a5])), (s0, .inr (9, [.ref t0, .int t1, .int t2, .int t3, .int t4]))] ++ ([] : va_W)) := hD
  refine lv_aload_n hx hb d_Script_begin_15 rfl (lv_at hl 0 rfl) ?_
  refine va_get (D := D) (ci := 8) (v := .ref s8) (C := "MatrixScripts$Script") (T := T_Script) (N := 17) hx hb hT in_Script hown hK hP 0 rfl rfl 8 (by decide) (hT _ tw_694) (fun _ h9 => h9) rfl d_Script_begin_16 ?_
  refine lv_iconst (v := 0) hx hb d_Script_begin_19 (by decide) ?_
  refine va_put (D := D) (ci := 3) (v := .int 0) (ty := .int) (C := "MatrixScripts$Maker") (T := T_Maker) (N := 12) hx hb hT in_Maker ty_Maker ty_Maker_ok nm_Maker hown hK hP hD hS 1 rfl rfl 0 (by decide) (hT _ tw_639) (fun _ h9 => h9) rfl (by decide +kernel) rfl rfl (Nat.le_of_ble_eq_true rfl) d_Script_begin_20 (fun H locs hP hD hS => ?_)
  have hP : va_P D vC ([(h0, .inr (8, [.ref s0, .ref s1, .ref s2, .int s3, .int 0, .int s5, .int 0, .int (-1), .ref s8, .ref s9, .ref s10, .ref s11, .ref s12, .int s13, .int s14, .ref s15, .int s16])), (s8, .inr (3, [.int 0, .ref k1, .ref k2, .ref k3, .ref k4, .ref k5, .ref k6, .ref k7, .ref k8, .ref k9, .ref k10, .ref k11])), (s9, .inr (10, [.int a0, .int a1, .int a2, .ref a3, .ref a4, .int a5])), (s0, .inr (9, [.ref t0, .int t1, .int t2, .int t3, .int t4]))] ++ ([] : va_W)) H := hP
  have hD : va_D A ([(h0, .inr (8, [.ref s0, .ref s1, .ref s2, .int s3, .int 0, .int s5, .int 0, .int (-1), .ref s8, .ref s9, .ref s10, .ref s11, .ref s12, .int s13, .int s14, .ref s15, .int s16])), (s8, .inr (3, [.int 0, .ref k1, .ref k2, .ref k3, .ref k4, .ref k5, .ref k6, .ref k7, .ref k8, .ref k9, .ref k10, .ref k11])), (s9, .inr (10, [.int a0, .int a1, .int a2, .ref a3, .ref a4, .int a5])), (s0, .inr (9, [.ref t0, .int t1, .int t2, .int t3, .int t4]))] ++ ([] : va_W)) := hD
  refine lv_aload_n hx hb d_Script_begin_23 rfl (lv_at hl 0 rfl) ?_
  refine va_get (D := D) (ci := 8) (v := .ref s9) (C := "MatrixScripts$Script") (T := T_Script) (N := 17) hx hb hT in_Script hown hK hP 0 rfl rfl 9 (by decide) (hT _ tw_695) (fun _ h9 => h9) rfl d_Script_begin_24 ?_
  have hP := pm_subP (a' := [(s9, .inr (10, [.int a0, .int a1, .int a2, .ref a3, .ref a4, .int a5])), (h0, .inr (8, [.ref s0, .ref s1, .ref s2, .int s3, .int 0, .int s5, .int 0, .int (-1), .ref s8, .ref s9, .ref s10, .ref s11, .ref s12, .int s13, .int s14, .ref s15, .int s16])), (s8, .inr (3, [.int 0, .ref k1, .ref k2, .ref k3, .ref k4, .ref k5, .ref k6, .ref k7, .ref k8, .ref k9, .ref k10, .ref k11])), (s0, .inr (9, [.ref t0, .int t1, .int t2, .int t3, .int t4]))]) hP [2, 0, 1, 3] rfl
  have hD := pm_subD (a' := [(s9, .inr (10, [.int a0, .int a1, .int a2, .ref a3, .ref a4, .int a5])), (h0, .inr (8, [.ref s0, .ref s1, .ref s2, .int s3, .int 0, .int s5, .int 0, .int (-1), .ref s8, .ref s9, .ref s10, .ref s11, .ref s12, .int s13, .int s14, .ref s15, .int s16])), (s8, .inr (3, [.int 0, .ref k1, .ref k2, .ref k3, .ref k4, .ref k5, .ref k6, .ref k7, .ref k8, .ref k9, .ref k10, .ref k11])), (s0, .inr (9, [.ref t0, .int t1, .int t2, .int t3, .int t4]))]) hD [2, 0, 1, 3] (by decide) rfl
  have hP : va_P D vC ([(s9, .inr (10, [.int a0, .int a1, .int a2, .ref a3, .ref a4, .int a5]))] ++ ([(h0, .inr (8, [.ref s0, .ref s1, .ref s2, .int s3, .int 0, .int s5, .int 0, .int (-1), .ref s8, .ref s9, .ref s10, .ref s11, .ref s12, .int s13, .int s14, .ref s15, .int s16])), (s8, .inr (3, [.int 0, .ref k1, .ref k2, .ref k3, .ref k4, .ref k5, .ref k6, .ref k7, .ref k8, .ref k9, .ref k10, .ref k11])), (s0, .inr (9, [.ref t0, .int t1, .int t2, .int t3, .int t4]))] ++ ([] : va_W))) H := hP
  have hD : va_D A ([(s9, .inr (10, [.int a0, .int a1, .int a2, .ref a3, .ref a4, .int a5]))] ++ ([(h0, .inr (8, [.ref s0, .ref s1, .ref s2, .int s3, .int 0, .int s5, .int 0, .int (-1), .ref s8, .ref s9, .ref s10, .ref s11, .ref s12, .int s13, .int s14, .ref s15, .int s16])), (s8, .inr (3, [.int 0, .ref k1, .ref k2, .ref k3, .ref k4, .ref k5, .ref k6, .ref k7, .ref k8, .ref k9, .ref k10, .ref k11])), (s0, .inr (9, [.ref t0, .int t1, .int t2, .int t3, .int t4]))] ++ ([] : va_W))) := hD
  have hFc := pm_free hD hS hA
  refine va_calli (va_runV (As := []) (rest := []) ⟨hx, hb, hml, hown, hT⟩ (c_Values_clear l D g s9 a0 a1 a2 a3 a4 a5 H.size) (cwV 0 hT (gdV tw_758 tw_759 tw_760 tw_159 tw_761) rfl rfl rfl (by decide +kernel) ⟨Nat.le_of_ble_eq_true rfl, Nat.le_of_ble_eq_true rfl⟩) (cp_V (C := "MatrixScripts$Values") (T := T_Values) (N := 6) (ci := 10) hP hK hD hN rfl) rfl rfl hl.1 rfl (lv_room (Nat.le_of_ble_eq_true rfl)) d_Script_begin_27 ⟨Nat.le_of_ble_eq_true rfl, Nat.le_of_ble_eq_true rfl⟩) hS (fun q _ h => hFc q h) hFc (fun r27 u27 t H1 locs ht1 hvm hw hB hz1 hk1 hS => ?_)
  obtain ⟨hP1, hD1⟩ := hB
  rw [ht1] at hP1
  obtain ⟨hP, hD⟩ := pm_join hP hD hk1 hFc hP1 hD1
  generalize H1 = H at hP hS ⊢
  have hw27 := hw
  have hP : va_P D vC ([(s9, .inr (10, [.int 0, .int 0, .int 0, .ref a3, .ref a4, .int 0])), (h0, .inr (8, [.ref s0, .ref s1, .ref s2, .int s3, .int 0, .int s5, .int 0, .int (-1), .ref s8, .ref s9, .ref s10, .ref s11, .ref s12, .int s13, .int s14, .ref s15, .int s16])), (s8, .inr (3, [.int 0, .ref k1, .ref k2, .ref k3, .ref k4, .ref k5, .ref k6, .ref k7, .ref k8, .ref k9, .ref k10, .ref k11])), (s0, .inr (9, [.ref t0, .int t1, .int t2, .int t3, .int t4]))] ++ ([] : va_W)) H := hP
  have hD : va_D A ([(s9, .inr (10, [.int 0, .int 0, .int 0, .ref a3, .ref a4, .int 0])), (h0, .inr (8, [.ref s0, .ref s1, .ref s2, .int s3, .int 0, .int s5, .int 0, .int (-1), .ref s8, .ref s9, .ref s10, .ref s11, .ref s12, .int s13, .int s14, .ref s15, .int s16])), (s8, .inr (3, [.int 0, .ref k1, .ref k2, .ref k3, .ref k4, .ref k5, .ref k6, .ref k7, .ref k8, .ref k9, .ref k10, .ref k11])), (s0, .inr (9, [.ref t0, .int t1, .int t2, .int t3, .int t4]))] ++ ([] : va_W)) := hD
  refine lv_pop hx hb d_Script_begin_30 rfl ?_
  refine lv_aload_n hx hb d_Script_begin_31 rfl (lv_at hl 0 rfl) ?_
  refine lv_iconst (v := 0) hx hb d_Script_begin_32 (by decide) ?_
  refine va_put (D := D) (ci := 8) (v := .int 0) (ty := .int) (C := "MatrixScripts$Script") (T := T_Script) (N := 17) hx hb hT in_Script ty_Script ty_Script_ok nm_Script hown hK hP hD hS 1 rfl rfl 13 (by decide) (hT _ tw_699) (fun _ h9 => h9) rfl (by decide +kernel) rfl rfl (Nat.le_of_ble_eq_true rfl) d_Script_begin_33 (fun H locs hP hD hS => ?_)
  have hP : va_P D vC ([(s9, .inr (10, [.int 0, .int 0, .int 0, .ref a3, .ref a4, .int 0])), (h0, .inr (8, [.ref s0, .ref s1, .ref s2, .int s3, .int 0, .int s5, .int 0, .int (-1), .ref s8, .ref s9, .ref s10, .ref s11, .ref s12, .int 0, .int s14, .ref s15, .int s16])), (s8, .inr (3, [.int 0, .ref k1, .ref k2, .ref k3, .ref k4, .ref k5, .ref k6, .ref k7, .ref k8, .ref k9, .ref k10, .ref k11])), (s0, .inr (9, [.ref t0, .int t1, .int t2, .int t3, .int t4]))] ++ ([] : va_W)) H := hP
  have hD : va_D A ([(s9, .inr (10, [.int 0, .int 0, .int 0, .ref a3, .ref a4, .int 0])), (h0, .inr (8, [.ref s0, .ref s1, .ref s2, .int s3, .int 0, .int s5, .int 0, .int (-1), .ref s8, .ref s9, .ref s10, .ref s11, .ref s12, .int 0, .int s14, .ref s15, .int s16])), (s8, .inr (3, [.int 0, .ref k1, .ref k2, .ref k3, .ref k4, .ref k5, .ref k6, .ref k7, .ref k8, .ref k9, .ref k10, .ref k11])), (s0, .inr (9, [.ref t0, .int t1, .int t2, .int t3, .int t4]))] ++ ([] : va_W)) := hD
  refine lv_aload_n hx hb d_Script_begin_36 rfl (lv_at hl 0 rfl) ?_
  refine lv_iconst (v := 0) hx hb d_Script_begin_37 (by decide) ?_
  refine va_put (D := D) (ci := 8) (v := .int 0) (ty := .int) (C := "MatrixScripts$Script") (T := T_Script) (N := 17) hx hb hT in_Script ty_Script ty_Script_ok nm_Script hown hK hP hD hS 1 rfl rfl 3 (by decide) (hT _ tw_684) (fun _ h9 => h9) rfl (by decide +kernel) rfl rfl (Nat.le_of_ble_eq_true rfl) d_Script_begin_38 (fun H locs hP hD hS => ?_)
  have hP : va_P D vC ([(s9, .inr (10, [.int 0, .int 0, .int 0, .ref a3, .ref a4, .int 0])), (h0, .inr (8, [.ref s0, .ref s1, .ref s2, .int 0, .int 0, .int s5, .int 0, .int (-1), .ref s8, .ref s9, .ref s10, .ref s11, .ref s12, .int 0, .int s14, .ref s15, .int s16])), (s8, .inr (3, [.int 0, .ref k1, .ref k2, .ref k3, .ref k4, .ref k5, .ref k6, .ref k7, .ref k8, .ref k9, .ref k10, .ref k11])), (s0, .inr (9, [.ref t0, .int t1, .int t2, .int t3, .int t4]))] ++ ([] : va_W)) H := hP
  have hD : va_D A ([(s9, .inr (10, [.int 0, .int 0, .int 0, .ref a3, .ref a4, .int 0])), (h0, .inr (8, [.ref s0, .ref s1, .ref s2, .int 0, .int 0, .int s5, .int 0, .int (-1), .ref s8, .ref s9, .ref s10, .ref s11, .ref s12, .int 0, .int s14, .ref s15, .int s16])), (s8, .inr (3, [.int 0, .ref k1, .ref k2, .ref k3, .ref k4, .ref k5, .ref k6, .ref k7, .ref k8, .ref k9, .ref k10, .ref k11])), (s0, .inr (9, [.ref t0, .int t1, .int t2, .int t3, .int t4]))] ++ ([] : va_W)) := hD
  refine lv_aload_n hx hb d_Script_begin_41 rfl (lv_at hl 0 rfl) ?_
  refine lv_iconst (v := 0) hx hb d_Script_begin_42 (by decide) ?_
  refine va_put (D := D) (ci := 8) (v := .int 0) (ty := .int) (C := "MatrixScripts$Script") (T := T_Script) (N := 17) hx hb hT in_Script ty_Script ty_Script_ok nm_Script hown hK hP hD hS 1 rfl rfl 16 (by decide) (hT _ tw_702) (fun _ h9 => h9) rfl (by decide +kernel) rfl rfl (Nat.le_of_ble_eq_true rfl) d_Script_begin_43 (fun H locs hP hD hS => ?_)
  have hP : va_P D vC ([(s9, .inr (10, [.int 0, .int 0, .int 0, .ref a3, .ref a4, .int 0])), (h0, .inr (8, [.ref s0, .ref s1, .ref s2, .int 0, .int 0, .int s5, .int 0, .int (-1), .ref s8, .ref s9, .ref s10, .ref s11, .ref s12, .int 0, .int s14, .ref s15, .int 0])), (s8, .inr (3, [.int 0, .ref k1, .ref k2, .ref k3, .ref k4, .ref k5, .ref k6, .ref k7, .ref k8, .ref k9, .ref k10, .ref k11])), (s0, .inr (9, [.ref t0, .int t1, .int t2, .int t3, .int t4]))] ++ ([] : va_W)) H := hP
  have hD : va_D A ([(s9, .inr (10, [.int 0, .int 0, .int 0, .ref a3, .ref a4, .int 0])), (h0, .inr (8, [.ref s0, .ref s1, .ref s2, .int 0, .int 0, .int s5, .int 0, .int (-1), .ref s8, .ref s9, .ref s10, .ref s11, .ref s12, .int 0, .int s14, .ref s15, .int 0])), (s8, .inr (3, [.int 0, .ref k1, .ref k2, .ref k3, .ref k4, .ref k5, .ref k6, .ref k7, .ref k8, .ref k9, .ref k10, .ref k11])), (s0, .inr (9, [.ref t0, .int t1, .int t2, .int t3, .int t4]))] ++ ([] : va_W)) := hD
  refine lv_aload_n hx hb d_Script_begin_46 rfl (lv_at hl 0 rfl) ?_
  refine va_get (D := D) (ci := 8) (v := .ref s0) (C := "MatrixScripts$Script") (T := T_Script) (N := 17) hx hb hT in_Script hown hK hP 1 rfl rfl 0 (by decide) (hT _ tw_678) (fun _ h9 => h9) rfl d_Script_begin_47 ?_
  refine lv_iconst (v := 0) hx hb d_Script_begin_50 (by decide) ?_
  refine va_put (D := D) (ci := 9) (v := .int 0) (ty := .int) (C := "MatrixScripts$Tape") (T := T_Tape) (N := 5) hx hb hT in_Tape ty_Tape ty_Tape_ok nm_Tape hown hK hP hD hS 3 rfl rfl 4 (by decide) (hT _ tw_220) (fun _ h9 => h9) rfl (by decide +kernel) rfl rfl (Nat.le_of_ble_eq_true rfl) d_Script_begin_51 (fun H locs hP hD hS => ?_)
  have hP : va_P D vC ([(s9, .inr (10, [.int 0, .int 0, .int 0, .ref a3, .ref a4, .int 0])), (h0, .inr (8, [.ref s0, .ref s1, .ref s2, .int 0, .int 0, .int s5, .int 0, .int (-1), .ref s8, .ref s9, .ref s10, .ref s11, .ref s12, .int 0, .int s14, .ref s15, .int 0])), (s8, .inr (3, [.int 0, .ref k1, .ref k2, .ref k3, .ref k4, .ref k5, .ref k6, .ref k7, .ref k8, .ref k9, .ref k10, .ref k11])), (s0, .inr (9, [.ref t0, .int t1, .int t2, .int t3, .int 0]))] ++ ([] : va_W)) H := hP
  have hD : va_D A ([(s9, .inr (10, [.int 0, .int 0, .int 0, .ref a3, .ref a4, .int 0])), (h0, .inr (8, [.ref s0, .ref s1, .ref s2, .int 0, .int 0, .int s5, .int 0, .int (-1), .ref s8, .ref s9, .ref s10, .ref s11, .ref s12, .int 0, .int s14, .ref s15, .int 0])), (s8, .inr (3, [.int 0, .ref k1, .ref k2, .ref k3, .ref k4, .ref k5, .ref k6, .ref k7, .ref k8, .ref k9, .ref k10, .ref k11])), (s0, .inr (9, [.ref t0, .int t1, .int t2, .int t3, .int 0]))] ++ ([] : va_W)) := hD
  have hP9 := pm_subP (a' := [(h0, .inr (8, [.ref s0, .ref s1, .ref s2, .int 0, .int 0, .int s5, .int 0, .int (-1), .ref s8, .ref s9, .ref s10, .ref s11, .ref s12, .int 0, .int s14, .ref s15, .int 0])), (s8, .inr (3, [.int 0, .ref k1, .ref k2, .ref k3, .ref k4, .ref k5, .ref k6, .ref k7, .ref k8, .ref k9, .ref k10, .ref k11])), (s9, .inr (10, [.int 0, .int 0, .int 0, .ref a3, .ref a4, .int 0])), (s0, .inr (9, [.ref t0, .int t1, .int t2, .int t3, .int 0]))]) hP [1, 2, 0, 3] rfl
  have hD9 := pm_subD (a' := [(h0, .inr (8, [.ref s0, .ref s1, .ref s2, .int 0, .int 0, .int s5, .int 0, .int (-1), .ref s8, .ref s9, .ref s10, .ref s11, .ref s12, .int 0, .int s14, .ref s15, .int 0])), (s8, .inr (3, [.int 0, .ref k1, .ref k2, .ref k3, .ref k4, .ref k5, .ref k6, .ref k7, .ref k8, .ref k9, .ref k10, .ref k11])), (s9, .inr (10, [.int 0, .int 0, .int 0, .ref a3, .ref a4, .int 0])), (s0, .inr (9, [.ref t0, .int t1, .int t2, .int t3, .int 0]))]) hD [1, 2, 0, 3] (by decide) rfl
  refine W.widen (k := 0) (n := 0) (Nat.le_of_ble_eq_true rfl) (Nat.le_of_ble_eq_true rfl) ?_
  exact W.vret hx hb hr (fun t ht1 hW => ⟨⟨(), rfl, trivial, by rw [ht1]; exact hP9, hD9⟩, hS.F ht1⟩) hS.2.2 d_Script_begin_54
