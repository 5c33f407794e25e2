/-! CALLS THAT MAY THROW, IN WORLDS. -/
theorem vm_none {D : va_G} {q : Nat × va_E} {H : Heap} {cell : Cell} (h : va_at D vC q H) (hc : H[q.1]? = some cell) : cell.vm = .none := by
  obtain ⟨a, e⟩ := q
  cases e with
  | inl x =>
    have h1 : H[a]? = some (vp_cell x.1 x.2) := h
    cases h1.symm.trans hc
    obtain ⟨c, n, z⟩ := x
    rcases z with z | z | z | z | z <;> rfl
  | inr x =>
    obtain ⟨r, -, cell', h1, -, h3, -⟩ := h
    cases h1.symm.trans hc
    exact h3
theorem zq_kept {C n d : String} {D : va_G} {ws : va_W} {s U : State} {H : Heap} {locs : List Loc} (h : va_Zq C n d (fun q => s.heap.size ≤ q) s s.heap) (hP : va_P D vC ws s.heap) (hS : va_S (va_A ws s.heap.size) s.heap H locs) (hU : U.heap = H) (hW : s.WarmedH U.vm) : va_Zq C n d (fun q => U.heap.size ≤ q) U U.heap := by
  have key : ∀ v : Value, va_Z C n d v (fun q => s.heap.size ≤ q) s s.heap → va_Z C n d v (fun q => U.heap.size ≤ q) U U.heap := by
    intro v hz
    obtain ⟨cf, kf, fi, f, a, cell, h1, h2, h3, h4, h5, h6, h7, h8⟩ := hz
    have hlt : a < s.heap.size := Nat.not_le.mp h8
    have hn : ¬ va_A ws s.heap.size a := by
      intro hx
      rcases hx with ⟨k, e, hk⟩ | hx
      · have h9 := vm_none (hP k (a, e) hk) h5
        rw [h9] at h6
        cases h6
      · exact h8 hx
    have h5' : H[a]? = some cell := (hS.2.1 a hlt hn).trans h5
    have hz2 : va_Z C n d v (fun q => U.heap.size ≤ q) s H := ⟨cf, kf, fi, f, a, cell, h1, h2, h3, h4, h5', h6, h7, fun q => absurd (Nat.lt_of_lt_of_le hlt hS.1) (Nat.not_lt.mpr (by rw [hU] at q; exact q))⟩
    rw [hU] at hz2 ⊢
    exact va_Z.moved hW.alike hz2
  rcases h with h | ⟨t, h⟩
  · exact Or.inl (key _ h)
  · exact Or.inr ⟨t, key _ h⟩
theorem zl_kept {C n d : String} {D : va_G} {ws : va_W} {s U : State} {H : Heap} {locs : List Loc} (h : zl C n d s s.heap) (hP : va_P D vC ws s.heap) (hS : va_S (va_A ws s.heap.size) s.heap H locs) (hU : U.heap = H) (hW : s.WarmedH U.vm) : zl C n d U U.heap := by
  obtain ⟨c, k, i, f, a, cell, h1, h2, h3, h4, h5, h6, h7, h8, h9⟩ := h
  have hlt : a < s.heap.size := (Array.getElem?_eq_some_iff.mp h5).1
  have hn : ¬ va_A ws s.heap.size a := by
    intro hx
    rcases hx with ⟨k, e, hk⟩ | hx
    · have h9 := vm_none (hP k (a, e) hk) h5
      rw [h9] at h6
      cases h6
    · exact absurd hlt (Nat.not_lt.mpr hx)
  have h5' : U.heap[a]? = some cell := by rw [hU]; exact (hS.2.1 a hlt hn).trans h5
  exact zl.moved hW.alike ⟨c, k, i, f, a, cell, h1, h2, h3, h4, h5', h6, h7, h8, h9⟩
theorem zz_kept {D : va_G} {ws : va_W} {s U : State} {H : Heap} {locs : List Loc} (h : zz s) (hP : va_P D vC ws s.heap) (hS : va_S (va_A ws s.heap.size) s.heap H locs) (hU : U.heap = H) (hW : s.WarmedH U.vm) : zz U := ⟨zq_kept h.1 hP hS hU hW, zq_kept h.2.1 hP hS hU hW, zl_kept h.2.2.1 hP hS hU hW, zl_kept h.2.2.2 hP hS hU hW⟩
theorem zz_same {U V : State} (hh : U.heap = V.heap) (hv : U.vm = V.vm) (h : zz U) : zz V := by
  have key : ∀ {C n d : String}, va_Zq C n d (fun q => U.heap.size ≤ q) U U.heap → va_Zq C n d (fun q => V.heap.size ≤ q) V V.heap := by
    intro C n d h
    rw [hh] at h
    exact va_Zq.moved (hv ▸ Vm.Alike.refl U.vm) h
  have key2 : ∀ {C n d : String}, zl C n d U U.heap → zl C n d V V.heap := by
    intro C n d h
    rw [hh] at h
    exact zl.moved (hv ▸ Vm.Alike.refl U.vm) h
  exact ⟨key h.1, key h.2.1, key2 h.2.2.1, key2 h.2.2.2⟩
theorem cpz_blind {D : va_G} {g : Nat → ClassId} {av : List Value} {ws : va_W} {sz : Nat} : FrameBlind (cpz D g av ws sz) := fun a U gg mk q => by
  obtain ⟨q0, q1, qP, qK, qD, qN, qZ⟩ := q
  exact ⟨q0, q1, qP, va_K.moved (u := U) (U := U.calling gg mk a) (Vm.Alike.refl U.vm) qK, qD, nw_same (s := U) (U := U.calling gg mk a) rfl qN, zz_same (U := U) (V := U.calling gg mk a) rfl rfl qZ⟩
theorem cpz_V {D : va_G} {g : Nat → ClassId} {As : List Value} {ws wt wr : va_W} {s : State} {H : Heap} {locs : List Loc} {A : Nat → Prop} {C : String} {T : u_T} {N ci b : Nat} {fs : List Value} (hP : va_P D vC (((b, .inr (ci, fs)) :: wt) ++ wr) H) (hK : va_K D vC (tyL g) s) (hD : va_D A (((b, .inr (ci, fs)) :: wt) ++ wr)) (hN : nw_all s)
    (hZ : zz s) (hP0 : va_P D vC ws s.heap) (hS : va_S (va_A ws s.heap.size) s.heap H locs) (hc : vC[ci]? = some (C, T, N)) :
    PreV s H C b (cpz D g (.ref b :: As) ((b, .inr (ci, fs)) :: wt) H.size) As :=
  ⟨cpz_blind, va_recv (q0 := 0) hK hP hc rfl, fun U hU hW => ⟨rfl, by rw [hU], by rw [hU]; exact pm_P hP (fun x h => List.mem_append_left _ h), va_K.moved hW.alike hK, (pm_Dl hD).weaken (fun _ _ _ _ => trivial), nw_warm hW hN, zz_kept hZ hP0 hS hU hW⟩⟩
section CE
variable {p : Program} {l : Launch} {e : Env} {R : Room} {s : State} {m : MethodId} {args : Array Value} {below : List Frame} {meth : Method} {c : Code} {H H0 : Heap} {locs : List Loc} {cells slots : Nat} {Q : State → Prop}
theorem cE_callV {S : Type} {cc bytes : ByteArray} {nL maxL mc ms n index pc : Nat} {Ts ws : List Cond} {own C E K : String} {y : MethodName} {ret : Option FieldType} {rm : Room} {D : va_G} {g : Nat → ClassId} {A0 : Nat → Prop} {wc W0 : va_W} {post : Option Value → S → Prop} {F : S → va_W} {bad : Prop}
    {b : Addr} {As rest : List Value} {ls : Array Slot} {x : ExceptionTableEntry} (Sx : CallFix p m c cc nL s args Ts own) (hM : MetE l y ws rm (cpz D g (.ref b :: As) wc H.size) (cE D (va_A wc H.size) E post F bad W0) mc ms (va_A wc H.size)) (cw : CallW R s args own C index y bytes maxL ret ws rm mc ms n)
    (hp : PreV s H C b (cpz D g (.ref b :: As) wc H.size) As) (hn : As.length = n) (hsize : ls.size = nL) (hW : (rest.map fun v => v.category).sum ≤ 8) (hdg : decode cc pc = .ok (.invokevirtual index, 3)) (hf : cells + mc ≤ R.cells ∧ slots + ms ≤ R.slots)
    (ht : c.exceptionTable.toList = [x]) (hx : covers x pc = true) (h0 : x.catchType ≠ 0) (hlink : (Cond.classLink own x.catchType K).before args s = true) (hcast : (Cond.castable E K).before args s = true) (hS : va_S A0 H0 H locs) (hF : ∀ q, va_A wc H.size q → A0 q)
    (kr : ∀ (v : Option Value) (u : S) (H1 : Heap) (locs1 : List Loc), post v u → va_P D vC (F u) H1 → va_D (va_A wc H.size) (F u) → (∀ q : Nat, q < H.size → ¬ va_A wc H.size q → H1[q]? = H[q]?) → va_S A0 H0 H1 locs1 → W p l e R s m args below meth c H1 locs1 (cells + mc) (slots + ms) Q (F0 m (pc + 3) ls (v.toList ++ rest)))
    (kt : ∀ (a : Addr) (H1 : Heap) (locs1 : List Loc), bad → va_P D vC W0 H1 → va_D (va_A wc H.size) W0 → (∀ q : Nat, q < H.size → ¬ va_A wc H.size q → H1[q]? = H[q]?) → va_S A0 H0 H1 locs1 → W p l e R s m args below meth c H1 locs1 (cells + mc) (slots + ms) Q (F0 m x.handlerPc ls [.ref a])) :
    W p l e R s m args below meth c H locs cells slots Q (F0 m pc ls (As.reverse ++ .ref b :: rest)) := by
  have key : ∀ (st₀ t : State) (L : List Loc), st₀.heap = H → (∀ q ∈ L, va_A wc H.size q.base) → va_F (va_A wc H.size) st₀ t → (∀ q : Nat, q < H.size → ¬ va_A wc H.size q → t.heap[q]? = H[q]?) ∧ va_S A0 H0 t.heap (locs ++ L) := by
    intro st₀ t L hst hL hz
    obtain ⟨hz, hk⟩ := hz
    rw [hst] at hz hk
    refine ⟨hk, Nat.le_trans hS.1 hz, fun q h1 h2 => ?_, fun q hq => ?_⟩
    · rw [hk q (Nat.lt_of_lt_of_le h1 hS.1) (fun z => h2 (hF q z))]
      exact hS.2.1 q h1 h2
    · rcases List.mem_append.mp hq with h | h
      · exact hS.2.2 q h
      · exact hF _ (hL q h)
  refine ex_callV Sx hM cw hp hn hsize hW hdg hf ht hx h0 hlink hcast ?_ ?_ ?_
  · intro st₀ t a hq hW1
    obtain ⟨⟨v, u, h, -⟩ | ⟨x', ce, h, -, -, -, h1, h2, h3⟩, -⟩ := hq
    · cases h
    · cases h
      refine ⟨ce, h1, ?_, h3⟩
      rw [hW1.alike.findClass] at h2
      exact h2
  · intro v st₀ t L hst hwt hL hq
    obtain ⟨⟨v', u, h, hp1, hP1, hD1⟩ | ⟨x', ce, h, -⟩, hz⟩ := hq
    · cases h
      obtain ⟨k1, k2⟩ := key st₀ t L hst hL hz
      exact kr v u t.heap (locs ++ L) hp1 hP1 hD1 k1 k2
    · cases h
  · intro a st₀ t L hst hwt hL hq
    obtain ⟨⟨v', u, h, -⟩ | ⟨x', ce, h, hb, hP1, hD1, -⟩, hz⟩ := hq
    · cases h
    · cases h
      obtain ⟨k1, k2⟩ := key st₀ t L hst hL hz
      exact kt a t.heap (locs ++ L) hb hP1 hD1 k1 k2
end CE
