/-- the array classes: int, long, byte, Whole -/
abbrev tyL (g : Nat → ClassId) : List (ClassId × FieldType) := [(g 0, .int), (g 1, .long), (g 2, .byte), (g 3, .object "MatrixScripts$Whole")]
/-- a contract's start: the cells ws, the tables -/
abbrev cp (D : va_G) (g : Nat → ClassId) (av : List Value) (ws : va_W) (sz : Nat) : Array Value → State → Prop := va_Pc av (fun U => U.heap.size = sz ∧ va_P D vC ws U.heap ∧ va_K D vC (tyL g) U ∧ va_D (fun _ => True) ws ∧ nw_all U)
/-- a contract's end: the cells F u -/
abbrev cv {S : Type} (D : va_G) (A : Nat → Prop) (F : S → va_W) : Array Value → State → Outcome → State → Prop := va_Qv (fun _ : S => True) (fun u t => va_P D vC (F u) t.heap ∧ va_D A (F u)) A
theorem cp_blind {D : va_G} {g : Nat → ClassId} {av : List Value} {ws : va_W} {sz : Nat} : FrameBlind (cp D g av ws sz) := fun a U gg mk q => by
  obtain ⟨q0, q1, qP, qK, qD, qN⟩ := q
  exact ⟨q0, q1, qP, va_K.moved (u := U) (U := U.calling gg mk a) (Vm.Alike.refl U.vm) qK, qD, nw_same (s := U) (U := U.calling gg mk a) rfl qN⟩
theorem cp_S {D : va_G} {g : Nat → ClassId} {As : List Value} {wc wr : va_W} {s : State} {H : Heap} {A : Nat → Prop} (hP : va_P D vC (wc ++ wr) H) (hK : va_K D vC (tyL g) s) (hD : va_D A (wc ++ wr)) (hN : nw_all s) : PreS s H (cp D g As wc H.size) As :=
  ⟨cp_blind, fun U hU hW => ⟨rfl, by rw [hU], by rw [hU]; exact pm_P hP (fun x h => List.mem_append_left _ h), va_K.moved hW.alike hK, (pm_Dl hD).weaken (fun _ _ _ _ => trivial), nw_warm hW hN⟩⟩
theorem pm_expP {D : va_G} {cl : List vw_C} {o a r B : va_W} {H : Heap} (h : va_P D cl (o ++ ((a ++ r) ++ B)) H) : va_P D cl ((o ++ a) ++ (r ++ B)) H := by
  rw [List.append_assoc a r B, ← List.append_assoc o a] at h
  exact h
theorem pm_expD {A : Nat → Prop} {o a r B : va_W} (h : va_D A (o ++ ((a ++ r) ++ B))) : va_D A ((o ++ a) ++ (r ++ B)) := by
  rw [List.append_assoc a r B, ← List.append_assoc o a] at h
  exact h
