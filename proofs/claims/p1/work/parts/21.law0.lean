/-! WHAT HOLDS AT THE LAW'S ENTRY. -/
theorem arr_K {ty : FieldType} {args : Array Value} {s : State} (h : (Cond.arrayClass ty).before args s = true) (ho : ∀ C, ty ≠ .object C) : ∃ c : ClassId, ArrOfT s c ty ∧ va_RA s c ty := by
  obtain ⟨c, k, comp, h1, h2, h3⟩ := Cond.arrayClass_spec h
  refine ⟨c, fun n z => ⟨fun k => by simp [arrV], k, h2, comp, h3⟩, ?_⟩
  cases ty with
  | object C => exact absurd rfl (ho C)
  | _ => exact h1
theorem arr_Q {C : String} {s : State} (h : va_AO C s) : ∃ c : ClassId, ArrOfT s c (.object C) ∧ va_RA s c (.object C) := by
  obtain ⟨comp, c, k, h1, -, h2, h3, h4⟩ := Cond.arrayOver_spec (va_AO.use (A := #[]) h)
  exact ⟨c, fun n z => ⟨fun k => by simp [arrV], k, h2, comp, h3⟩, k, comp, h2, h3, h1, h4⟩
theorem law_hT {args : Array Value} {s : State} (hts : ∀ w ∈ lw_tbl, w.before args s = true) : ∀ w ∈ wd_all, w.before args s = true := fun w h => hts w (List.mem_filter.mp h).1
set_option maxHeartbeats 4000000 in
set_option maxRecDepth 100000 in
theorem law_K {args : Array Value} {s : State} (hts : ∀ w ∈ lw_tbl, w.before args s = true) : ∃ (D : va_G) (g : Nat → ClassId), va_K D vC (tyL g) s := by
  have hT := law_hT hts
  have h : ∀ k : Nat, ∃ (cC : ClassId) (iS : Nat → Nat), ∀ q : vw_C, vC[k]? = some q → u_Kn s q.1 q.2.1 q.2.2 cC iS := by
    intro k
    match k with
    | 0 => exact (u_known (hT) in_Calc (hT (.instantiable "MatrixScripts$Calc" 14) (wd_i 395 (by decide +kernel) (by decide +kernel)))).elim fun c h => h.elim fun i h => ⟨c, i, fun q hq => by cases hq; exact h⟩
    | 1 => exact (u_known (hT) in_Elim (hT (.instantiable "MatrixScripts$Elimination" 15) (wd_i 338 (by decide +kernel) (by decide +kernel)))).elim fun c h => h.elim fun i h => ⟨c, i, fun q hq => by cases hq; exact h⟩
    | 2 => exact (u_known (hT) in_Latt (hT (.instantiable "MatrixScripts$Lattices" 12) (wd_i 332 (by decide +kernel) (by decide +kernel)))).elim fun c h => h.elim fun i h => ⟨c, i, fun q hq => by cases hq; exact h⟩
    | 3 => exact (u_known (hT) in_Maker (hT (.instantiable "MatrixScripts$Maker" 12) (wd_i 324 (by decide +kernel) (by decide +kernel)))).elim fun c h => h.elim fun i h => ⟨c, i, fun q hq => by cases hq; exact h⟩
    | 4 => exact (u_known (hT) in_Matrix (hT (.instantiable "MatrixScripts$Matrix" 6) (wd_i 346 (by decide +kernel) (by decide +kernel)))).elim fun c h => h.elim fun i h => ⟨c, i, fun q hq => by cases hq; exact h⟩
    | 5 => exact (u_known (hT) in_Modu (hT (.instantiable "MatrixScripts$Modular" 17) (wd_i 547 (by decide +kernel) (by decide +kernel)))).elim fun c h => h.elim fun i h => ⟨c, i, fun q hq => by cases hq; exact h⟩
    | 6 => exact (u_known (hT) in_Page (hT (.instantiable "MatrixScripts$Page" 5) (wd_i 235 (by decide +kernel) (by decide +kernel)))).elim fun c h => h.elim fun i h => ⟨c, i, fun q hq => by cases hq; exact h⟩
    | 7 => exact (u_known (hT) in_Poly (hT (.instantiable "MatrixScripts$Polynomials" 8) (wd_i 541 (by decide +kernel) (by decide +kernel)))).elim fun c h => h.elim fun i h => ⟨c, i, fun q hq => by cases hq; exact h⟩
    | 8 => exact (u_known (hT) in_Script (hT (.instantiable "MatrixScripts$Script" 17) (wd_i 202 (by decide +kernel) (by decide +kernel)))).elim fun c h => h.elim fun i h => ⟨c, i, fun q hq => by cases hq; exact h⟩
    | 9 => exact (u_known (hT) in_Tape (hT (.instantiable "MatrixScripts$Tape" 5) (wd_i 208 (by decide +kernel) (by decide +kernel)))).elim fun c h => h.elim fun i h => ⟨c, i, fun q hq => by cases hq; exact h⟩
    | 10 => exact (u_known (hT) in_Values (hT (.instantiable "MatrixScripts$Values" 6) (wd_i 291 (by decide +kernel) (by decide +kernel)))).elim fun c h => h.elim fun i h => ⟨c, i, fun q hq => by cases hq; exact h⟩
    | 11 => exact (u_known (hT) in_Whole (hT (.instantiable "MatrixScripts$Whole" 3) (wd_i 241 (by decide +kernel) (by decide +kernel)))).elim fun c h => h.elim fun i h => ⟨c, i, fun q hq => by cases hq; exact h⟩
    | 12 => exact (u_known (hT) in_Ms (hT (.instantiable "MatrixScripts" 3) (wd_i 194 (by decide +kernel) (by decide +kernel)))).elim fun c h => h.elim fun i h => ⟨c, i, fun q hq => by cases hq; exact h⟩
    | 13 => exact (u_known (hT) in_Forms (hT (.instantiable "MatrixScriptsModel$Forms" 11) (wd_i 2173 (by decide +kernel) (by decide +kernel)))).elim fun c h => h.elim fun i h => ⟨c, i, fun q hq => by cases hq; exact h⟩
    | 14 => exact (u_known (hT) in_Frac (hT (.instantiable "MatrixScriptsModel$Fractions" 7) (wd_i 2110 (by decide +kernel) (by decide +kernel)))).elim fun c h => h.elim fun i h => ⟨c, i, fun q hq => by cases hq; exact h⟩
    | 15 => exact (u_known (hT) in_Whs (hT (.instantiable "MatrixScriptsModel$Wholes" 3) (wd_i 2116 (by decide +kernel) (by decide +kernel)))).elim fun c h => h.elim fun i h => ⟨c, i, fun q hq => by cases hq; exact h⟩
    | 16 => exact (u_known (hT) in_Mdl (hT (.instantiable "MatrixScriptsModel" 37) (wd_i 2103 (by decide +kernel) (by decide +kernel)))).elim fun c h => h.elim fun i h => ⟨c, i, fun q hq => by cases hq; exact h⟩
    | k + 17 => exact ⟨0, fun _ => 0, fun q hq => by simp [vC] at hq⟩
  obtain ⟨cI, hcI⟩ := arr_K (ty := .int) (hT _ (wd_i 233 (by decide +kernel) (by decide +kernel))) (fun C e => by cases e)
  obtain ⟨cJ, hcJ⟩ := arr_K (ty := .long) (hT _ (wd_i 738 (by decide +kernel) (by decide +kernel))) (fun C e => by cases e)
  obtain ⟨cB, hcB⟩ := arr_K (ty := .byte) (hT _ (wd_i 975 (by decide +kernel) (by decide +kernel))) (fun C e => by cases e)
  obtain ⟨cW, hcW⟩ := arr_Q (nw_of hts).2
  refine ⟨(fun k => (h k).choose, fun k => (h k).choose_spec.choose), fun k => if k = 0 then cI else if k = 1 then cJ else if k = 2 then cB else cW, fun k q hq => (h k).choose_spec.choose_spec q hq, fun k q hq => ?_⟩
  match k, hq with
  | 0, hq => cases hq; exact hcI
  | 1, hq => cases hq; exact hcJ
  | 2, hq => cases hq; exact hcB
  | 3, hq => cases hq; exact hcW
  | k + 4, hq => simp [tyL] at hq
theorem law_l1 {args : Array Value} {s : State} (hts : ∀ w ∈ lw_tbl, w.before args s = true) : (Cond.laysStatic "java/lang/Throwable" "UNASSIGNED_STACK" "[Ljava/lang/StackTraceElement;").before args s = true := hts _ (List.mem_of_getElem? (i := 937) (by decide +kernel))
theorem law_z1 {args : Array Value} {s : State} (hts : ∀ w ∈ lw_tbl, w.before args s = true) (h : (Jvm.Cond.and given_1 narrow_1).before args s = true) : va_Zq "java/lang/Throwable" "UNASSIGNED_STACK" "[Ljava/lang/StackTraceElement;" (fun q => s.heap.size ≤ q) s s.heap := va_Zqof (law_l1 hts) (hts _ (List.mem_of_getElem? (i := 171) (by decide +kernel))) (flat_of_before _ h _ (by decide +kernel)) (fun a h => Nat.not_le.mpr h)
theorem law_l2 {args : Array Value} {s : State} (hts : ∀ w ∈ lw_tbl, w.before args s = true) : (Cond.laysStatic "java/lang/Throwable" "SUPPRESSED_SENTINEL" "Ljava/util/List;").before args s = true := hts _ (List.mem_of_getElem? (i := 939) (by decide +kernel))
theorem law_z2 {args : Array Value} {s : State} (hts : ∀ w ∈ lw_tbl, w.before args s = true) (h : (Jvm.Cond.and given_1 narrow_1).before args s = true) : va_Zq "java/lang/Throwable" "SUPPRESSED_SENTINEL" "Ljava/util/List;" (fun q => s.heap.size ≤ q) s s.heap := va_Zqof (law_l2 hts) (hts _ (List.mem_of_getElem? (i := 171) (by decide +kernel))) (flat_of_before _ h _ (by decide +kernel)) (fun a h => Nat.not_le.mpr h)
theorem law_zz {args : Array Value} {s : State} (hts : ∀ w ∈ lw_tbl, w.before args s = true) (h : (Jvm.Cond.and given_1 narrow_1).before args s = true) : zz s := ⟨law_z1 hts h, law_z2 hts h, zl.of (law_l1 hts), zl.of (law_l2 hts)⟩
theorem law_fl {l : Launch} (h : l.flags = flags0) : ∀ e, l.admits e → e.platform.stackTraces = false := by
  intro e he
  rw [he.platform]
  show l.stackTraces = false
  simp only [Launch.stackTraces, h]
  decide +kernel
theorem cpz_S {D : va_G} {g : Nat → ClassId} {As : List Value} {ws wc wr : va_W} {s : State} {H : Heap} {locs : List Loc} {A : Nat → Prop} (hP : va_P D vC (wc ++ wr) H) (hK : va_K D vC (tyL g) s) (hD : va_D A (wc ++ wr)) (hN : nw_all s) (hZ : zz s) (hP0 : va_P D vC ws s.heap) (hS : va_S (va_A ws s.heap.size) s.heap H locs) : PreS s H (cpz D g As wc H.size) As :=
  ⟨cpz_blind, fun U hU hW => ⟨rfl, by rw [hU], by rw [hU]; exact pm_P hP (fun x h => List.mem_append_left _ h), va_K.moved hW.alike hK, (pm_Dl hD).weaken (fun _ _ _ _ => trivial), nw_warm hW hN, zz_kept hZ hP0 hS hU hW⟩⟩
