/-! CONTRACTS' ENDS, THE START WITH THE STATICS THAT AN EXCEPTION NEEDS, CALLS. -/
abbrev cw {S : Type} (D : va_G) (A : Nat → Prop) (post : S → Prop) (F : S → va_W) : Array Value → State → Outcome → State → Prop := va_Qv post (fun u t => va_P D vC (F u) t.heap ∧ va_D A (F u)) A
abbrev ci {S : Type} (D : va_G) (A : Nat → Prop) (post : Int32 → S → Prop) (F : S → va_W) : Array Value → State → Outcome → State → Prop := va_Qi post (fun u t => va_P D vC (F u) t.heap ∧ va_D A (F u)) A
theorem gdV {own C : String} {idx : Nat} {y : MethodName} {w : Cond} (h1 : Cond.methodLink own idx y ∈ wd_all) (h2 : Cond.instanceMethod y ∈ wd_all) (h3 : Cond.selects C y y ∈ wd_all) (h4 : Cond.initialized C ∈ wd_all) (h5 : w ∈ wd_all) : GoodIn wd_all (wsV own idx C y (w :: wd_all)) := by
  intro v hv
  unfold wsV at hv
  rcases List.mem_append.mp hv with h | h
  · simp only [List.mem_cons, List.not_mem_nil, or_false] at h
    rcases h with rfl | rfl | rfl | rfl
    · exact ⟨h1, good_of_word (wd_g h1)⟩
    · exact ⟨h2, good_of_word (wd_g h2)⟩
    · exact ⟨h3, good_of_word (wd_g h3)⟩
    · exact ⟨h4, good_of_word (wd_g h4)⟩
  · exact gd_of h5 v h
theorem cp_V {D : va_G} {g : Nat → ClassId} {As : List Value} {wt wr : va_W} {s : State} {H : Heap} {A : Nat → Prop} {C : String} {T : u_T} {N ci b : Nat} {fs : List Value} (hP : va_P D vC (((b, .inr (ci, fs)) :: wt) ++ wr) H) (hK : va_K D vC (tyL g) s) (hD : va_D A (((b, .inr (ci, fs)) :: wt) ++ wr)) (hN : nw_all s) (hc : vC[ci]? = some (C, T, N)) :
    PreV s H C b (cp D g (.ref b :: As) ((b, .inr (ci, fs)) :: wt) H.size) As :=
  ⟨cp_blind, va_recv (q0 := 0) hK hP hc rfl, fun U hU hW => ⟨rfl, by rw [hU], by rw [hU]; exact pm_P hP (fun x h => List.mem_append_left _ h), va_K.moved hW.alike hK, (pm_Dl hD).weaken (fun _ _ _ _ => trivial), nw_warm hW hN⟩⟩
theorem sw_cases (x : Int32) (n : Nat) (hn : n < 1000) : (x.toInt < 0 ∨ (n : Int) - 1 < x.toInt) ∨ ∃ k : Nat, k < n ∧ x = nI k := by
  rcases pk_ix x (n := n) (by omega) with h | h | ⟨j, h1, h2⟩
  · refine Or.inl (Or.inl ?_)
    rw [Int32.lt_iff_toInt_lt, Int32.toInt_zero] at h
    exact h
  · refine Or.inl (Or.inr ?_)
    rw [Int32.le_iff_toInt_le, nI_toInt (by omega)] at h
    omega
  · exact Or.inr ⟨j, h1, h2⟩
/-- a static field that is laid in its class's own cell -/
def zl (C n d : String) (U : State) (H : Heap) : Prop := ∃ (c : ClassId) (k : Class) (i : Nat) (f : Field) (a : Nat) (cell : Cell), U.vm.findClass C = some c ∧ U.fieldFound? C n d = some (c, k, i, f) ∧ f.isStatic = true ∧ k.statics = some a ∧ H[a]? = some cell ∧ cell.vm.isStatics = true ∧ cell.cls = c ∧ f.slot < cell.slots.size ∧ k.staticTypes[f.slot]? = some f.type
theorem zl.of {C n d : String} {U : State} {args : Array Value} (h : (Cond.laysStatic C n d).before args U = true) : zl C n d U U.heap := Cond.laysStatic_spec h
theorem zl.use {C n d : String} {U : State} {args : Array Value} (h : zl C n d U U.heap) : (Cond.laysStatic C n d).before args U = true := by
  obtain ⟨c, k, i, f, a, cell, h1, h2, h3, h4, h5, h6, h7, h8, h9⟩ := h
  simp [Cond.before, Cond.holds, Cond.value, h1, h2, h3, h4, h5, h6, h7, h8, h9]
theorem zl.moved {C n d : String} {u U : State} {H : Heap} (hvm : u.vm.Alike U.vm) (h : zl C n d u H) : zl C n d U H := by
  obtain ⟨c, k, i, f, a, cell, h1, h2, h3, h4, h5, h6, h7, h8, h9⟩ := h
  obtain ⟨k', hi', he⟩ := State.fieldFound?_setVm hvm h2
  exact ⟨c, k', i, f, a, cell, by rw [hvm.findClass]; exact h1, hi', h3, by rw [he]; exact h4, h5, h6, h7, h8, by rw [he]; exact h9⟩
/-- the two statics of Throwable that its constructor reads: laid, references or null -/
def zz (U : State) : Prop := va_Zq "java/lang/Throwable" "UNASSIGNED_STACK" "[Ljava/lang/StackTraceElement;" (fun q => U.heap.size ≤ q) U U.heap ∧ va_Zq "java/lang/Throwable" "SUPPRESSED_SENTINEL" "Ljava/util/List;" (fun q => U.heap.size ≤ q) U U.heap ∧ zl "java/lang/Throwable" "UNASSIGNED_STACK" "[Ljava/lang/StackTraceElement;" U U.heap ∧ zl "java/lang/Throwable" "SUPPRESSED_SENTINEL" "Ljava/util/List;" U U.heap
theorem zq_isRef {C n d : String} {A : Nat → Prop} {U : State} {args : Array Value} (h : va_Zq C n d A U U.heap) : (Cond.isRef (.static C n d)).before args U = true := by
  rcases h with ⟨cf, kf, fi, f, a, cell, h1, h2, h3, h4, h5, h6, h7, h8⟩ | ⟨t, cf, kf, fi, f, a, cell, h1, h2, h3, h4, h5, h6, h7, h8⟩
  · simp [Cond.before, Cond.holds, Cond.value, Term.eval, State.fieldNamed?, h1, h2, h4, h5, h6, h7, Value.isRef]
  · simp [Cond.before, Cond.holds, Cond.value, Term.eval, State.fieldNamed?, h1, h2, h4, h5, h6, h7, Value.isRef]
def zo_1 : Cond := .isRef (.static "java/lang/Throwable" "UNASSIGNED_STACK" "[Ljava/lang/StackTraceElement;")
def zo_2 : Cond := .isRef (.static "java/lang/Throwable" "SUPPRESSED_SENTINEL" "Ljava/util/List;")
def zo_3 : Cond := .laysStatic "java/lang/Throwable" "UNASSIGNED_STACK" "[Ljava/lang/StackTraceElement;"
def zo_4 : Cond := .laysStatic "java/lang/Throwable" "SUPPRESSED_SENTINEL" "Ljava/util/List;"
def zo_b (a : Cond) : Bool := (decide (a ∈ lw_tbl) && (goodWord a || nw_k a)) || decide (a = zo_1) || decide (a = zo_2) || decide (a = zo_3) || decide (a = zo_4)
theorem zo_of {L : List Cond} {args : Array Value} {s : State} (h : L.all zo_b = true) (hT : ∀ w ∈ wd_all, w.before args s = true) (hN : nw_all s) (hZ : zz s) : ∀ a ∈ L, a.before args s = true := by
  intro a ha
  have h1 := List.all_eq_true.mp h a ha
  simp only [zo_b, Bool.or_eq_true, Bool.and_eq_true, decide_eq_true_eq] at h1
  rcases h1 with (((⟨hm, hg | hk⟩ | rfl) | rfl) | rfl) | rfl
  · exact hT a (List.mem_filter.mpr ⟨hm, hg⟩)
  · exact va_Nw.use (nw_on hk) (hN.1 a (List.mem_filter.mpr ⟨hm, hk⟩))
  · exact zq_isRef hZ.1
  · exact zq_isRef hZ.2.1
  · exact zl.use hZ.2.2.1
  · exact zl.use hZ.2.2.2
abbrev cpz (D : va_G) (g : Nat → ClassId) (av : List Value) (ws : va_W) (sz : Nat) : Array Value → State → Prop := va_Pc av (fun U => U.heap.size = sz ∧ va_P D vC ws U.heap ∧ va_K D vC (tyL g) U ∧ va_D (fun _ => True) ws ∧ nw_all U ∧ zz U)
/-- the end of a method that returns, or throws a new object of the class cls -/
abbrev cE {S : Type} (D : va_G) (A : Nat → Prop) (cls : String) (post : Option Value → S → Prop) (F : S → va_W) (bad : Prop) (W0 : va_W) : Array Value → State → Outcome → State → Prop := fun _ st oc t =>
  ((∃ (v : Option Value) (u : S), oc = .returned v ∧ post v u ∧ va_P D vC (F u) t.heap ∧ va_D A (F u)) ∨ (∃ (x : Nat) (ce : Cell), oc = .threw x ∧ bad ∧ va_P D vC W0 t.heap ∧ va_D A W0 ∧ t.heap[x]? = some ce ∧ st.vm.findClass cls = some ce.cls ∧ ce.vm = .none)) ∧ va_F A st t
theorem cE_ret {S : Type} {D : va_G} {A : Nat → Prop} {cls : String} {post : Option Value → S → Prop} {F : S → va_W} {bad : Prop} {W0 : va_W} {a : Array Value} {st t : State} {v : Option Value} (u : S) (hp : post v u) (hP : va_P D vC (F u) t.heap) (hD : va_D A (F u)) (hF : va_F A st t) : cE D A cls post F bad W0 a st (.returned v) t := ⟨Or.inl ⟨v, u, rfl, hp, hP, hD⟩, hF⟩
theorem cE_threw {S : Type} {D : va_G} {A : Nat → Prop} {cls : String} {post : Option Value → S → Prop} {F : S → va_W} {bad : Prop} {W0 : va_W} {a : Array Value} {s t : State} {ce : Cell} (hPs : va_P D vC W0 s.heap) (hD : va_D A W0) (hAx : A s.heap.size) (hbad : bad) (h1 : t.heap[s.heap.size]? = some ce) (h2 : s.vm.findClass cls = some ce.cls) (h3 : ce.vm = .none) (h5 : s.heap.size ≤ t.heap.size)
    (h6 : ∀ q : Nat, q < s.heap.size → t.heap[q]? = s.heap[q]?) : cE D A cls post F bad W0 a s (.threw s.heap.size) t :=
  ⟨Or.inr ⟨s.heap.size, ce, rfl, hbad, pm_mem.mpr fun q hq => (pm_mem.mp hPs q hq).kept (h6 _ (pm_mem.mp hPs q hq).lt), hD, h1, h2, h3⟩, h5, fun q h _ => h6 q h⟩
theorem zo_Ms_end {args : Array Value} {s : State} (hT : ∀ w ∈ wd_all, w.before args s = true) (hN : nw_all s) (hZ : zz s) : ∀ a ∈ Bundle.ownAtoms0 "MatrixScripts" 42 "java/lang/IllegalArgumentException" ["java/lang/RuntimeException", "java/lang/Exception"], a.before args s = true := zo_of (by decide +kernel) hT hN hZ
