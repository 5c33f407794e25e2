/-! WORLDS WITH A BLOCK THAT NOBODY LOOKS INTO: the list of cells is 'ACT ++ B', ACT written out, B any list. -/
section Pm
theorem pm_mem {D : va_G} {cl : List vw_C} {ws : va_W} {H : Heap} : va_P D cl ws H ↔ ∀ q ∈ ws, va_at D cl q H := by
  constructor
  · intro h q hq
    obtain ⟨k, hk⟩ := List.mem_iff_getElem?.mp hq
    exact h k q hk
  · intro h k q hk
    exact h q (List.mem_of_getElem? hk)
theorem pm_P {D : va_G} {cl : List vw_C} {ws ws' : va_W} {H : Heap} (h : va_P D cl ws H) (hp : ∀ x ∈ ws', x ∈ ws) : va_P D cl ws' H := pm_mem.mpr fun q hq => pm_mem.mp h q (hp q hq)
theorem pm_nd {A : Nat → Prop} {ws : va_W} (h : va_D A ws) : (ws.map (·.1)).Nodup := by
  rw [List.nodup_iff_pairwise_ne, List.pairwise_iff_getElem]
  intro i j hi hj hij e
  rw [List.length_map] at hi hj
  rw [List.getElem_map, List.getElem_map] at e
  have := h.1 i j _ _ (List.getElem?_eq_getElem hi) (List.getElem?_eq_getElem hj) e
  omega
theorem pm_of {A : Nat → Prop} {ws : va_W} (hn : (ws.map (·.1)).Nodup) (hA : ∀ q ∈ ws, A q.1) : va_D A ws := by
  refine ⟨fun i j p q hi hj e => ?_, fun k q hk => hA q (List.mem_of_getElem? hk)⟩
  have li : i < ws.length := (List.getElem?_eq_some_iff.mp hi).1
  have lj : j < ws.length := (List.getElem?_eq_some_iff.mp hj).1
  rw [List.nodup_iff_pairwise_ne, List.pairwise_iff_getElem] at hn
  have ei : ws[i] = p := (List.getElem?_eq_some_iff.mp hi).2
  have ej : ws[j] = q := (List.getElem?_eq_some_iff.mp hj).2
  rcases Nat.lt_trichotomy i j with h | h | h
  · exact absurd (by rw [List.getElem_map, List.getElem_map, ei, ej]; exact e) (hn i j (by simpa using li) (by simpa using lj) h)
  · exact h
  · exact absurd (by rw [List.getElem_map, List.getElem_map, ei, ej]; exact e.symm) (hn j i (by simpa using lj) (by simpa using li) h)
theorem pm_DA {A : Nat → Prop} {ws : va_W} (h : va_D A ws) : ∀ q ∈ ws, A q.1 := fun q hq => by
  obtain ⟨k, hk⟩ := List.mem_iff_getElem?.mp hq
  exact h.2 k q hk
theorem pm_D {A : Nat → Prop} {ws ws' : va_W} (h : va_D A ws) (hp : ws'.Perm ws) : va_D A ws' :=
  pm_of ((hp.map (·.1)).nodup_iff.mpr (pm_nd h)) (fun q hq => pm_DA h q (hp.mem_iff.mp hq))
theorem pm_Dl {A : Nat → Prop} {a b : va_W} (h : va_D A (a ++ b)) : va_D A a := by
  refine pm_of ?_ (fun q hq => pm_DA h q (List.mem_append_left _ hq))
  have := pm_nd h
  rw [List.map_append, List.nodup_append] at this
  exact this.1
theorem pm_Dr {A : Nat → Prop} {a b : va_W} (h : va_D A (a ++ b)) : va_D A b := by
  refine pm_of ?_ (fun q hq => pm_DA h q (List.mem_append_right _ hq))
  have := pm_nd h
  rw [List.map_append, List.nodup_append] at this
  exact this.2.1
theorem pm_Dx {A : Nat → Prop} {a b : va_W} (h : va_D A (a ++ b)) {x y : Nat × va_E} (hx : x ∈ a) (hy : y ∈ b) : x.1 ≠ y.1 := by
  have := pm_nd h
  rw [List.map_append, List.nodup_append] at this
  exact this.2.2 _ (List.mem_map_of_mem hx) _ (List.mem_map_of_mem hy)
theorem pm_app {A : Nat → Prop} {a b : va_W} (ha : va_D A a) (hb : va_D A b) (hx : ∀ x ∈ a, ∀ y ∈ b, x.1 ≠ y.1) : va_D A (a ++ b) :=
  ha.app hb (fun _ _ p q h1 h2 => hx p (List.mem_of_getElem? h1) q (List.mem_of_getElem? h2))
/-- the written part chosen anew, by places; what isn't chosen goes -/
theorem pm_subP {D : va_G} {cl : List vw_C} {a a' B : va_W} {H : Heap} (h : va_P D cl (a ++ B) H) (is : List Nat) (hs : is.map (fun i => a[i]?) = a'.map some) : va_P D cl (a' ++ B) H := by
  refine pm_P h (fun x hx => ?_)
  rcases List.mem_append.mp hx with h1 | h1
  · refine List.mem_append_left _ ?_
    have h2 : some x ∈ a'.map some := List.mem_map_of_mem h1
    rw [← hs] at h2
    obtain ⟨i, -, hi⟩ := List.mem_map.mp h2
    exact List.mem_of_getElem? hi
  · exact List.mem_append_right _ h1
theorem pm_subD {A : Nat → Prop} {a a' B : va_W} (h : va_D A (a ++ B)) (is : List Nat) (hn : va_nd is = true) (hs : is.map (fun i => a[i]?) = a'.map some) : va_D A (a' ++ B) := by
  refine pm_app ((pm_Dl h).sub is hn hs) (pm_Dr h) (fun x hx y hy => ?_)
  have h2 : some x ∈ a'.map some := List.mem_map_of_mem hx
  rw [← hs] at h2
  obtain ⟨i, -, hi⟩ := List.mem_map.mp h2
  exact pm_Dx h (List.mem_of_getElem? hi) hy
/-- the callee's cells stand in front: what came back beside all the rest -/
theorem pm_join {A0 : Nat → Prop} {D : va_G} {cl : List vw_C} {wc wr w1 : va_W} {H H1 : Heap} (hP : va_P D cl (wc ++ wr) H) (hD : va_D A0 (wc ++ wr)) (hk : ∀ q : Nat, q < H.size → ¬ va_A wc H.size q → H1[q]? = H[q]?) (hF : ∀ q, va_A wc H.size q → A0 q)
    (hP1 : va_P D cl w1 H1) (hD1 : va_D (va_A wc H.size) w1) : va_P D cl (w1 ++ wr) H1 ∧ va_D A0 (w1 ++ wr) := by
  have hn : ∀ y ∈ wr, ¬ va_A wc H.size y.1 := by
    intro y hy h
    rcases h with ⟨k, e, hk'⟩ | h
    · exact pm_Dx hD (List.mem_of_getElem? hk') hy rfl
    · exact absurd (pm_mem.mp hP y (List.mem_append_right _ hy)).lt (Nat.not_lt.mpr h)
  refine ⟨pm_mem.mpr fun q hq => ?_, pm_app (hD1.weaken fun k q hq h => hF _ h) (pm_Dr hD) (fun x hx y hy e => ?_)⟩
  · rcases List.mem_append.mp hq with h | h
    · exact pm_mem.mp hP1 q h
    · have h0 := pm_mem.mp hP q (List.mem_append_right _ h)
      exact h0.kept (hk _ h0.lt (hn q h))
  · exact hn y hy (e ▸ pm_DA hD1 x hx)
theorem pm_free {A0 : Nat → Prop} {wc wr : va_W} {H0 H : Heap} {locs : List Loc} (hD : va_D A0 (wc ++ wr)) (hS : va_S A0 H0 H locs) (hA : ∀ q, H0.size ≤ q → A0 q) : ∀ q, va_A wc H.size q → A0 q := by
  intro q h
  rcases h with ⟨k, e, hk⟩ | h
  · exact pm_DA hD (q, e) (List.mem_append_left _ (List.mem_of_getElem? hk))
  · exact hA q (Nat.le_trans hS.1 h)
theorem pm_rotP {D : va_G} {cl : List vw_C} {a B : va_W} {x : Nat × va_E} {H : Heap} (h : va_P D cl ((a ++ B) ++ [x]) H) : va_P D cl ((a ++ [x]) ++ B) H :=
  pm_P h (fun y hy => by simp only [List.mem_append] at hy ⊢; rcases hy with (h1 | h1) | h1; exact Or.inl (Or.inl h1); exact Or.inr h1; exact Or.inl (Or.inr h1))
theorem pm_rotD {A : Nat → Prop} {a B : va_W} {x : Nat × va_E} (h : va_D A ((a ++ B) ++ [x])) : va_D A ((a ++ [x]) ++ B) :=
  pm_D h (by rw [List.append_assoc, List.append_assoc]; exact (List.perm_append_comm).append_left a)
/-- cells of the written part join the block -/
theorem pm_packP {D : va_G} {cl : List vw_C} {a b B : va_W} {H : Heap} (h : va_P D cl ((a ++ b) ++ B) H) : va_P D cl (a ++ (b ++ B)) H := by rw [← List.append_assoc]; exact h
theorem pm_packD {A : Nat → Prop} {a b B : va_W} (h : va_D A ((a ++ b) ++ B)) : va_D A (a ++ (b ++ B)) := by rw [← List.append_assoc]; exact h
theorem pm_int {U : State} {c c' : ClassId} (h : va_RA U c .int) (h' : va_RA U c' .int) : c = c' := Option.some.inj ((va_nm_int h).symm.trans (va_nm_int h'))
theorem pm_long {U : State} {c c' : ClassId} (h : va_RA U c .long) (h' : va_RA U c' .long) : c = c' := Option.some.inj ((va_nm_long h).symm.trans (va_nm_long h'))
variable {p : Program} {l : Launch} {e : Env} {R : Room} {s : State} {m : MethodId} {args : Array Value} {below : List Frame} {meth : Method} {c : Code} {H H0 : Heap} {locs : List Loc} {cells slots : Nat} {Q : State → Prop}
  {D : va_G} {cl : List vw_C} {tys : List (ClassId × FieldType)} {A : Nat → Prop} {a B : va_W} {cc : ByteArray} {pc : Nat} {ls : Array Slot} {rest : List Value}
/-- 'new int[n]', n known -/
theorem pm_newi (hexec : p.tables.exec = Jvm.exec) (hb : c.code = cc) (harr : (Cond.arrayClass .int).before args s = true) (hK : va_K D cl tys s) (t0 : Nat) {cI : ClassId} (ht : tys[t0]? = some (cI, .int)) (hP : va_P D cl (a ++ B) H) (hD : va_D A (a ++ B)) (hS : va_S A H0 H locs) (hA : ∀ q, H0.size ≤ q → A q)
    {n : Int32} {N : Nat} (hn : ¬ n < 0) (hN : n.toNatClampNeg = N) (hbytes : N * 4 ≤ 536870912) (hcells : cells + 1 ≤ R.cells) (hslots : slots + N ≤ R.slots) (hdg : decode cc pc = .ok (.newarray .int, 2))
    (kk : ∀ (q : Nat) (H1 : Heap), va_P D cl ((a ++ [(q, .inl (cI, N, .inl (fun _ => 0)))]) ++ B) H1 → va_D A ((a ++ [(q, .inl (cI, N, .inl (fun _ => 0)))]) ++ B) → va_S A H0 H1 locs →
      W p l e R s m args below meth c H1 locs (cells + 1) (slots + N) Q (F0 m (pc + 2) ls (.ref q :: rest))) : W p l e R s m args below meth c H locs cells slots Q (F0 m pc ls (.int n :: rest)) := by
  refine va_newa (atype := .int) (ty := .int) (N' := N) (n := n) (a0 := (N, .inl (fun _ => 0))) hexec hb harr rfl hK hP hD hS hA (fun cA => rfl) hn hN hbytes hcells hslots hdg (fun q cA H1 hK1 hP1 hD1 hS1 => ?_)
  have e : cA = cI := by
    have h1 := (hK1.2 tys.length (cA, .int) (by simp)).2
    exact pm_int h1 (hK.2 t0 _ ht).2
  subst e
  exact kk q H1 (pm_rotP hP1) (pm_rotD hD1) hS1
theorem pm_newl (hexec : p.tables.exec = Jvm.exec) (hb : c.code = cc) (harr : (Cond.arrayClass .long).before args s = true) (hK : va_K D cl tys s) (t0 : Nat) {cI : ClassId} (ht : tys[t0]? = some (cI, .long)) (hP : va_P D cl (a ++ B) H) (hD : va_D A (a ++ B)) (hS : va_S A H0 H locs) (hA : ∀ q, H0.size ≤ q → A q)
    {n : Int32} {N : Nat} (hn : ¬ n < 0) (hN : n.toNatClampNeg = N) (hbytes : N * 8 ≤ 536870912) (hcells : cells + 1 ≤ R.cells) (hslots : slots + N ≤ R.slots) (hdg : decode cc pc = .ok (.newarray .long, 2))
    (kk : ∀ (q : Nat) (H1 : Heap), va_P D cl ((a ++ [(q, .inl (cI, N, .inr (.inl (fun _ => 0))))]) ++ B) H1 → va_D A ((a ++ [(q, .inl (cI, N, .inr (.inl (fun _ => 0))))]) ++ B) → va_S A H0 H1 locs →
      W p l e R s m args below meth c H1 locs (cells + 1) (slots + N) Q (F0 m (pc + 2) ls (.ref q :: rest))) : W p l e R s m args below meth c H locs cells slots Q (F0 m pc ls (.int n :: rest)) := by
  refine va_newa (atype := .long) (ty := .long) (N' := N) (n := n) (a0 := (N, .inr (.inl (fun _ => 0)))) hexec hb harr rfl hK hP hD hS hA (fun cA => rfl) hn hN hbytes hcells hslots hdg (fun q cA H1 hK1 hP1 hD1 hS1 => ?_)
  have e : cA = cI := by
    have h1 := (hK1.2 tys.length (cA, .long) (by simp)).2
    exact pm_long h1 (hK.2 t0 _ ht).2
  subst e
  exact kk q H1 (pm_rotP hP1) (pm_rotD hD1) hS1
end Pm
section Pm2
theorem pm_swapP {D : va_G} {cl : List vw_C} {a b B : va_W} {H : Heap} (h : va_P D cl (a ++ (b ++ B)) H) : va_P D cl (b ++ (a ++ B)) H := pm_P h (fun x hx => (List.perm_append_comm_assoc b a B).mem_iff.mp hx)
theorem pm_swapD {A : Nat → Prop} {a b B : va_W} (h : va_D A (a ++ (b ++ B))) : va_D A (b ++ (a ++ B)) := pm_D h (List.perm_append_comm_assoc b a B)
theorem pm_byte {U : State} {c c' : ClassId} (h : va_RA U c .byte) (h' : va_RA U c' .byte) : c = c' := Option.some.inj ((va_nm_byte h).symm.trans (va_nm_byte h'))
theorem pm_obj {U : State} {c c' : ClassId} {C : String} (h : va_RA U c (.object C)) (h' : va_RA U c' (.object C)) : c = c' := by
  obtain ⟨-, -, -, -, -, h4⟩ := h
  obtain ⟨-, -, -, -, -, h5⟩ := h'
  exact Option.some.inj (h4.symm.trans h5)
variable {p : Program} {l : Launch} {e : Env} {R : Room} {s : State} {m : MethodId} {args : Array Value} {below : List Frame} {meth : Method} {c : Code} {H H0 : Heap} {locs : List Loc} {cells slots : Nat} {Q : State → Prop}
  {D : va_G} {cl : List vw_C} {tys : List (ClassId × FieldType)} {A : Nat → Prop} {a B : va_W} {cc : ByteArray} {pc : Nat} {ls : Array Slot} {rest : List Value}
theorem pm_newb (hexec : p.tables.exec = Jvm.exec) (hb : c.code = cc) (harr : (Cond.arrayClass .byte).before args s = true) (hK : va_K D cl tys s) (t0 : Nat) {cI : ClassId} (ht : tys[t0]? = some (cI, .byte)) (hP : va_P D cl (a ++ B) H) (hD : va_D A (a ++ B)) (hS : va_S A H0 H locs) (hA : ∀ q, H0.size ≤ q → A q)
    {n : Int32} {N : Nat} (hn : ¬ n < 0) (hN : n.toNatClampNeg = N) (hbytes : N * 1 ≤ 536870912) (hcells : cells + 1 ≤ R.cells) (hslots : slots + N ≤ R.slots) (hdg : decode cc pc = .ok (.newarray .byte, 2))
    (kk : ∀ (q : Nat) (H1 : Heap), va_P D cl ((a ++ [(q, .inl (cI, N, .inl (fun _ => 0)))]) ++ B) H1 → va_D A ((a ++ [(q, .inl (cI, N, .inl (fun _ => 0)))]) ++ B) → va_S A H0 H1 locs →
      W p l e R s m args below meth c H1 locs (cells + 1) (slots + N) Q (F0 m (pc + 2) ls (.ref q :: rest))) : W p l e R s m args below meth c H locs cells slots Q (F0 m pc ls (.int n :: rest)) := by
  refine va_newa (atype := .byte) (ty := .byte) (N' := N) (n := n) (a0 := (N, .inl (fun _ => 0))) hexec hb harr rfl hK hP hD hS hA (fun cA => rfl) hn hN hbytes hcells hslots hdg (fun q cA H1 hK1 hP1 hD1 hS1 => ?_)
  have e : cA = cI := by
    have h1 := (hK1.2 tys.length (cA, .byte) (by simp)).2
    exact pm_byte h1 (hK.2 t0 _ ht).2
  subst e
  exact kk q H1 (pm_rotP hP1) (pm_rotD hD1) hS1
theorem pm_newq (hexec : p.tables.exec = Jvm.exec) (hb : c.code = cc) {own C : String} {index : Nat} (hown : s.vm.findClass own = some m.cls) (hclink : (Cond.classLink own index C).before args s = true) (hover : va_AO C s) (hK : va_K D cl tys s) (t0 : Nat) {cI : ClassId} (ht : tys[t0]? = some (cI, .object C)) (hP : va_P D cl (a ++ B) H) (hD : va_D A (a ++ B)) (hS : va_S A H0 H locs) (hA : ∀ q, H0.size ≤ q → A q)
    {n : Int32} {N : Nat} (hn : ¬ n < 0) (hN : n.toNatClampNeg = N) (hbytes : N * 4 ≤ 536870912) (hcells : cells + 1 ≤ R.cells) (hslots : slots + N ≤ R.slots) (hdg : decode cc pc = .ok (.anewarray index, 3))
    (kk : ∀ (q : Nat) (H1 : Heap), va_P D cl ((a ++ [(q, .inl (cI, N, .inr (.inr (.inr (.inr (fun _ => none))))))]) ++ B) H1 → va_D A ((a ++ [(q, .inl (cI, N, .inr (.inr (.inr (.inr (fun _ => none))))))]) ++ B) → va_S A H0 H1 locs →
      W p l e R s m args below meth c H1 locs (cells + 1) (slots + N) Q (F0 m (pc + 3) ls (.ref q :: rest))) : W p l e R s m args below meth c H locs cells slots Q (F0 m pc ls (.int n :: rest)) := by
  refine va_newq hexec hb hown hclink hover hK hP hD hS hA hn hN hbytes hcells hslots hdg (fun q cA H1 hK1 hP1 hD1 hS1 => ?_)
  have e : cA = cI := by
    have h1 := (hK1.2 tys.length (cA, .object C) (by simp)).2
    exact pm_obj h1 (hK.2 t0 _ ht).2
  subst e
  exact kk q H1 (pm_rotP hP1) (pm_rotD hD1) hS1
theorem pm_new (hexec : p.tables.exec = Jvm.exec) (hb : c.code = cc) {own C : String} {T : u_T} {N ci index : Nat} {Ts : List Cond} (hts : ∀ w ∈ Ts, w.before args s = true) (hin : ∀ w ∈ u_ws C T N, w ∈ Ts) (ty : Nat → FieldType) (hty : ∀ k, k < N → parseFieldDescriptor (T k).2.2.1 = some (ty k)) (hown : s.vm.findClass own = some m.cls) (hcl : (Cond.classLink own index C).before args s = true) (hinst : (Cond.instantiable C N).before args s = true) (hini : (Cond.initialized C).before args s = true)
    (hK : va_K D cl tys s) (hP : va_P D cl (a ++ B) H) (hD : va_D A (a ++ B)) (hS : va_S A H0 H locs) (hA : ∀ q, H0.size ≤ q → A q) (hc : cl[ci]? = some (C, T, N)) {fs : List Value} (hfs : ∀ j, j < N → defaultValue (ty j) = vp_V fs j) (hcells : cells + 1 ≤ R.cells) (hslots : slots + N ≤ R.slots) (hdg : decode cc pc = .ok (.new index, 3))
    (kk : ∀ (q : Nat) (H1 : Heap), va_P D cl ((a ++ [(q, .inr (ci, fs))]) ++ B) H1 → va_D A ((a ++ [(q, .inr (ci, fs))]) ++ B) → va_S A H0 H1 locs →
      W p l e R s m args below meth c H1 locs (cells + 1) (slots + N) Q (F0 m (pc + 3) ls (.ref q :: rest))) : W p l e R s m args below meth c H locs cells slots Q (F0 m pc ls rest) :=
  va_new hexec hb hts hin ty hty hown hcl hinst hini hK hP hD hS hA hc hfs hcells hslots hdg (fun q H1 hP1 hD1 hS1 => kk q H1 (pm_rotP hP1) (pm_rotD hD1) hS1)
end Pm2
