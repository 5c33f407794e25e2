abbrev S_Whole : Type := Nat
def ws_Whole (g : Nat → ClassId) (h0 : Nat) (u : S_Whole) : va_W := [(h0, .inr (11, [.ref u, .int 0, .int 0])), (u, .inl (g 0, 3, .inl (fun _ => 0)))] ++ ([] : va_W)
def w_Whole_init : List Cond := .code ⟨"MatrixScripts$Whole", "<init>", "()V"⟩ prog_15_method_1_code 1 none :: wd_all
theorem gd_Whole_init : GoodIn wd_all w_Whole_init := gd_of tw_244
set_option maxHeartbeats 4000000 in
set_option maxRecDepth 100000 in
theorem c_Whole_init (l : Launch) (D : va_G) (g : Nat → ClassId) (h0 : Nat) (sz : Nat) : Met l ⟨"MatrixScripts$Whole", "<init>", "()V"⟩ w_Whole_init { frames := 1, cells := 1, slots := 3, locals := 12 } (cp D g [.ref h0] [(h0, .inr (11, [.null, .int 0, .int 0]))] sz) (cv D (va_A [(h0, .inr (11, [.null, .int 0, .int 0]))] sz) (fun u : S_Whole => ws_Whole g h0 u)) 1 3 (va_A [(h0, .inr (11, [.null, .int 0, .int 0]))] sz) := by
  refine Met.ofW (cc := prog_15_method_1_code) (maxL := 1) (ret := none) (by decide) rfl ?_
  intro p e s m args below meth c s₁ B0 hml hv
  obtain ⟨rfl, hsz, hP, hK, hD0, hN⟩ := hv
  have hx := B0.exec
  have hb := B0.bytes
  have hr := B0.returns
  have hts := atoms_spec (ws := w_Whole_init) B0.pre
  have hT := fun (w : Cond) (h : w ∈ wd_all) => hts w (List.mem_cons_of_mem _ h)
  have hown : s.vm.findClass "MatrixScripts$Whole" = some m.cls := findClass_of_methodNamed B0.named
  have hlocks := B0.notSynchronized
  have hin : meth.name = "<init>" := (name_of_methodNamed B0.named B0.method).1
  subst hsz
  have hD := hD0.self (sz := s.heap.size)
  generalize hAe : va_A [(h0, .inr (11, [.null, .int 0, .int 0]))] s.heap.size = A at hD ⊢
  have hA : ∀ q : Nat, s.heap.size ≤ q → A q := fun q h => by rw [← hAe]; exact Or.inr h
  have hS : va_S A s.heap s.heap [] := va_S.rf
  have hP : va_P D vC ([(h0, .inr (11, [.null, .int 0, .int 0]))] ++ ([] : va_W)) s.heap := hP
  have hD : va_D A ([(h0, .inr (11, [.null, .int 0, .int 0]))] ++ ([] : va_W)) := hD
  have hl := lv_entry ([.ref h0]) (n := 1) (Nat.le_of_ble_eq_true rfl)
  rw [lg_entry_eq]
  generalize (lg_sl ([.ref h0]) ++ List.replicate (1 - (lg_sl ([.ref h0])).length) Slot.unset).toArray = ls at hl ⊢
  have hl : lv_has ls 1 [(0, .ref h0)] := hl
  refine lv_aload_n hx hb d_Whole_init_0 rfl (lv_at hl 0 rfl) ?_
  refine W.objInit hx hb hown (hT _ tw_245) (hT _ tw_199) (hT _ tw_200) rfl (by rw [hml]; exact hl.1) rfl d_Whole_init_1 (Nat.le_of_ble_eq_true rfl) (Nat.le_of_ble_eq_true rfl) ?_
  refine W.eq (g2 := F0 m 4 ls []) rfl ?_
  refine lv_aload_n hx hb d_Whole_init_4 rfl (lv_at hl 0 rfl) ?_
  refine lv_iconst (v := 3) hx hb d_Whole_init_5 (by decide) ?_
  refine pm_newi (N := 3) hx hb (hT _ tw_233) hK 0 rfl hP hD hS hA (by decide) (by decide) (by decide) (Nat.le_of_ble_eq_true rfl) (Nat.le_of_ble_eq_true rfl) d_Whole_init_6 (fun q6 H hP hD hS => ?_)
  have hP : va_P D vC ([(h0, .inr (11, [.null, .int 0, .int 0])), (q6, .inl (g 0, 3, .inl (fun _ => 0)))] ++ ([] : va_W)) H := hP
  have hD : va_D A ([(h0, .inr (11, [.null, .int 0, .int 0])), (q6, .inl (g 0, 3, .inl (fun _ => 0)))] ++ ([] : va_W)) := hD
  refine W.widen (k := 1) (n := 3) (by decide) (by decide) ?_
  refine va_put (D := D) (ci := 11) (v := .ref q6) (ty := .array (.int)) (C := "MatrixScripts$Whole") (T := T_Whole) (N := 3) hx hb hT in_Whole ty_Whole ty_Whole_ok nm_Whole hown hK hP hD hS 0 rfl rfl 0 (by decide) (hT _ tw_246) (fun _ h9 => h9) rfl (by decide +kernel) rfl rfl (Nat.le_of_ble_eq_true rfl) d_Whole_init_8 (fun H locs hP hD hS => ?_)
  have hP : va_P D vC ([(h0, .inr (11, [.ref q6, .int 0, .int 0])), (q6, .inl (g 0, 3, .inl (fun _ => 0)))] ++ ([] : va_W)) H := hP
  have hD : va_D A ([(h0, .inr (11, [.ref q6, .int 0, .int 0])), (q6, .inl (g 0, 3, .inl (fun _ => 0)))] ++ ([] : va_W)) := hD
  exact W.vret hx hb hr (fun t ht1 hW => ⟨⟨(q6), rfl, trivial, by rw [ht1]; exact hP, hD⟩, hS.F ht1⟩) hS.2.2 d_Whole_init_11
abbrev S_Tape : Type := Nat
def ws_Tape (g : Nat → ClassId) (h0 : Nat) (u : S_Tape) : va_W := [(h0, .inr (9, [.ref u, .int 0, .int 0, .int 0, .int 0])), (u, .inl (g 0, 64, .inl (fun _ => 0)))] ++ ([] : va_W)
def w_Tape_init : List Cond := .code ⟨"MatrixScripts$Tape", "<init>", "()V"⟩ prog_13_method_1_code 1 none :: wd_all
theorem gd_Tape_init : GoodIn wd_all w_Tape_init := gd_of tw_211
set_option maxHeartbeats 4000000 in
set_option maxRecDepth 100000 in
theorem c_Tape_init (l : Launch) (D : va_G) (g : Nat → ClassId) (h0 : Nat) (sz : Nat) : Met l ⟨"MatrixScripts$Tape", "<init>", "()V"⟩ w_Tape_init { frames := 1, cells := 1, slots := 64, locals := 12 } (cp D g [.ref h0] [(h0, .inr (9, [.null, .int 0, .int 0, .int 0, .int 0]))] sz) (cv D (va_A [(h0, .inr (9, [.null, .int 0, .int 0, .int 0, .int 0]))] sz) (fun u : S_Tape => ws_Tape g h0 u)) 1 64 (va_A [(h0, .inr (9, [.null, .int 0, .int 0, .int 0, .int 0]))] sz) := by
  refine Met.ofW (cc := prog_13_method_1_code) (maxL := 1) (ret := none) (by decide) rfl ?_
  intro p e s m args below meth c s₁ B0 hml hv
  obtain ⟨rfl, hsz, hP, hK, hD0, hN⟩ := hv
  have hx := B0.exec
  have hb := B0.bytes
  have hr := B0.returns
  have hts := atoms_spec (ws := w_Tape_init) B0.pre
  have hT := fun (w : Cond) (h : w ∈ wd_all) => hts w (List.mem_cons_of_mem _ h)
  have hown : s.vm.findClass "MatrixScripts$Tape" = some m.cls := findClass_of_methodNamed B0.named
  have hlocks := B0.notSynchronized
  have hin : meth.name = "<init>" := (name_of_methodNamed B0.named B0.method).1
  subst hsz
  have hD := hD0.self (sz := s.heap.size)
  generalize hAe : va_A [(h0, .inr (9, [.null, .int 0, .int 0, .int 0, .int 0]))] s.heap.size = A at hD ⊢
  have hA : ∀ q : Nat, s.heap.size ≤ q → A q := fun q h => by rw [← hAe]; exact Or.inr h
  have hS : va_S A s.heap s.heap [] := va_S.rf
  have hP : va_P D vC ([(h0, .inr (9, [.null, .int 0, .int 0, .int 0, .int 0]))] ++ ([] : va_W)) s.heap := hP
  have hD : va_D A ([(h0, .inr (9, [.null, .int 0, .int 0, .int 0, .int 0]))] ++ ([] : va_W)) := hD
  have hl := lv_entry ([.ref h0]) (n := 1) (Nat.le_of_ble_eq_true rfl)
  rw [lg_entry_eq]
  generalize (lg_sl ([.ref h0]) ++ List.replicate (1 - (lg_sl ([.ref h0])).length) Slot.unset).toArray = ls at hl ⊢
  have hl : lv_has ls 1 [(0, .ref h0)] := hl
  refine lv_aload_n hx hb d_Tape_init_0 rfl (lv_at hl 0 rfl) ?_
  refine W.objInit hx hb hown (hT _ tw_212) (hT _ tw_199) (hT _ tw_200) rfl (by rw [hml]; exact hl.1) rfl d_Tape_init_1 (Nat.le_of_ble_eq_true rfl) (Nat.le_of_ble_eq_true rfl) ?_
  refine W.eq (g2 := F0 m 4 ls []) rfl ?_
  refine lv_aload_n hx hb d_Tape_init_4 rfl (lv_at hl 0 rfl) ?_
  refine lv_bipush (v := 64) hx hb d_Tape_init_5 (by decide) ?_
  refine pm_newi (N := 64) hx hb (hT _ tw_233) hK 0 rfl hP hD hS hA (by decide) (by decide) (by decide) (Nat.le_of_ble_eq_true rfl) (Nat.le_of_ble_eq_true rfl) d_Tape_init_7 (fun q7 H hP hD hS => ?_)
  have hP : va_P D vC ([(h0, .inr (9, [.null, .int 0, .int 0, .int 0, .int 0])), (q7, .inl (g 0, 64, .inl (fun _ => 0)))] ++ ([] : va_W)) H := hP
  have hD : va_D A ([(h0, .inr (9, [.null, .int 0, .int 0, .int 0, .int 0])), (q7, .inl (g 0, 64, .inl (fun _ => 0)))] ++ ([] : va_W)) := hD
  refine W.widen (k := 1) (n := 64) (by decide) (by decide) ?_
  refine va_put (D := D) (ci := 9) (v := .ref q7) (ty := .array (.int)) (C := "MatrixScripts$Tape") (T := T_Tape) (N := 5) hx hb hT in_Tape ty_Tape ty_Tape_ok nm_Tape hown hK hP hD hS 0 rfl rfl 0 (by decide) (hT _ tw_213) (fun _ h9 => h9) rfl (by decide +kernel) rfl rfl (Nat.le_of_ble_eq_true rfl) d_Tape_init_9 (fun H locs hP hD hS => ?_)
  have hP : va_P D vC ([(h0, .inr (9, [.ref q7, .int 0, .int 0, .int 0, .int 0])), (q7, .inl (g 0, 64, .inl (fun _ => 0)))] ++ ([] : va_W)) H := hP
  have hD : va_D A ([(h0, .inr (9, [.ref q7, .int 0, .int 0, .int 0, .int 0])), (q7, .inl (g 0, 64, .inl (fun _ => 0)))] ++ ([] : va_W)) := hD
  exact W.vret hx hb hr (fun t ht1 hW => ⟨⟨(q7), rfl, trivial, by rw [ht1]; exact hP, hD⟩, hS.F ht1⟩) hS.2.2 d_Tape_init_12
