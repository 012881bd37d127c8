/-! Generic layer: the owned heap as a partial function g (address to cell), the judgement Go over it. -/
def gf (g : Nat → Option va_E) : Nat → va_E := fun a => (g a).getD (.inr (0, []))
theorem gf_some {g : Nat → Option va_E} {a : Nat} {e : va_E} (h : g a = some e) : gf g a = e := by simp [gf, h]
theorem gf_up (g : Nat → Option va_E) (a : Nat) (e : va_E) : gf (va_up g a (some e)) = va_up (gf g) a e := by
  funext j
  by_cases h : j = a <;> simp [gf, va_up, h]
def PW (D : va_G) (cl : List vw_C) (A : Nat → Prop) (g : Nat → Option va_E) (H : Heap) : Prop :=
  ∃ L : List Nat, (∀ a, a ∈ L ↔ ∃ e, g a = some e) ∧ va_P D cl (va_pl L (gf g)) H ∧ va_D A (va_pl L (gf g))
theorem PW.at {D : va_G} {cl : List vw_C} {A : Nat → Prop} {g : Nat → Option va_E} {H : Heap} {a : Nat} {e : va_E} (h : PW D cl A g H) (ha : g a = some e) :
    ∃ (L : List Nat) (k : Nat), (∀ a, a ∈ L ↔ ∃ e, g a = some e) ∧ va_P D cl (va_pl L (gf g)) H ∧ va_D A (va_pl L (gf g)) ∧ a ∈ L ∧ (va_pl L (gf g))[k]? = some (a, e) := by
  obtain ⟨L, hL, hP, hD⟩ := h
  have hm : a ∈ L := (hL a).mpr ⟨e, ha⟩
  obtain ⟨k, hk⟩ := va_pl_get (X := []) (f := gf g) hm
  rw [List.nil_append, gf_some ha] at hk
  exact ⟨L, k, hL, hP, hD, hm, hk⟩
theorem PW.set {D : va_G} {cl : List vw_C} {A : Nat → Prop} {g : Nat → Option va_E} {H1 : Heap} {a k : Nat} {e e1 : va_E} {L : List Nat} (ha : g a = some e) (hL : ∀ a, a ∈ L ↔ ∃ e, g a = some e) (hD : va_D A (va_pl L (gf g))) (hm : a ∈ L) (hk : (va_pl L (gf g))[k]? = some (a, e)) (hP1 : va_P D cl ((va_pl L (gf g)).set k (a, e1)) H1) (hD1 : va_D A ((va_pl L (gf g)).set k (a, e1))) : PW D cl A (va_up g a (some e1)) H1 := by
  have hs : (va_pl L (gf g)).set k (a, e1) = va_pl L (va_up (gf g) a e1) := by
    have := va_pl_set (A := A) (X := []) (L := L) (f := gf g) (a := a) (k := k) (e := e1) hD hm (by rw [List.nil_append, gf_some ha]; exact hk)
    simpa using this
  rw [hs, ← gf_up] at hP1 hD1
  refine ⟨L, fun b => ?_, hP1, hD1⟩
  by_cases hb : b = a
  · subst hb
    exact ⟨fun _ => ⟨e1, va_up_self _ _ _⟩, fun _ => hm⟩
  · rw [va_up_ne _ _ hb]
    exact hL b
theorem PW.push {D : va_G} {cl : List vw_C} {A : Nat → Prop} {g : Nat → Option va_E} {H1 : Heap} {a : Nat} {e : va_E} {L : List Nat} (hL : ∀ a, a ∈ L ↔ ∃ e, g a = some e) (hP1 : va_P D cl (va_pl L (gf g) ++ [(a, e)]) H1) (hD1 : va_D A (va_pl L (gf g) ++ [(a, e)])) : g a = none ∧ PW D cl A (va_up g a (some e)) H1 := by
  have hf : a ∉ L := va_pl_fresh2 (X := []) (by rw [List.nil_append]; exact hD1)
  have hg : g a = none := by
    cases h : g a with
    | none => rfl
    | some e0 => exact absurd ((hL a).mpr ⟨e0, h⟩) hf
  rw [va_pl_push hf, ← gf_up] at hP1 hD1
  refine ⟨hg, L ++ [a], fun b => ?_, hP1, hD1⟩
  rw [List.mem_append, List.mem_singleton]
  by_cases hb : b = a
  · subst hb
    exact ⟨fun _ => ⟨e, va_up_self _ _ _⟩, fun _ => Or.inr rfl⟩
  · rw [va_up_ne _ _ hb, hL b]
    exact ⟨fun h => h.elim id (fun q => absurd q hb), Or.inl⟩
theorem PW.weaken {D : va_G} {cl : List vw_C} {A B : Nat → Prop} {g : Nat → Option va_E} {H : Heap} (h : PW D cl A g H) (hAB : ∀ q e, g q = some e → A q → B q) : PW D cl B g H := by
  obtain ⟨L, hL, hP, hD⟩ := h
  refine ⟨L, hL, hP, hD.weaken fun k q hk hA => ?_⟩
  obtain ⟨b, hb, rfl⟩ := List.mem_map.mp (List.mem_of_getElem? hk)
  obtain ⟨e, he⟩ := (hL b).mp hb
  exact hAB b e he hA
theorem PW.inA {D : va_G} {cl : List vw_C} {A : Nat → Prop} {g : Nat → Option va_E} {H : Heap} {a : Nat} {e : va_E} (h : PW D cl A g H) (ha : g a = some e) : A a := by
  obtain ⟨L, k, -, -, hD, -, hk⟩ := h.at ha
  exact hD.2 k _ hk
theorem PW.lt {D : va_G} {cl : List vw_C} {A : Nat → Prop} {g : Nat → Option va_E} {H : Heap} {a : Nat} {e : va_E} (h : PW D cl A g H) (ha : g a = some e) : a < H.size := by
  obtain ⟨L, k, -, hP, -, -, hk⟩ := h.at ha
  exact (hP k _ hk).lt
def gA (g : Nat → Option va_E) (sz : Nat) : Nat → Prop := fun q => (∃ e, g q = some e) ∨ sz ≤ q
/-- what the tables say of the classes, the arrays, and the three words that don't go with a call -/
def Kx (D : va_G) (cl : List vw_C) (tys : List (ClassId × FieldType)) (U : State) : Prop := va_K D cl tys U ∧ va_AO "BeltSteps$Belt" U ∧ va_AO "BeltSteps$Item" U ∧ va_Nw (.methodLinkNest "BeltSteps" 30 y_E_init "BeltSteps") U
theorem Kx.warm {D : va_G} {cl : List vw_C} {tys : List (ClassId × FieldType)} {s U : State} (hW : s.WarmedH U.vm) (h : Kx D cl tys s) : Kx D cl tys U := ⟨va_K.moved hW.alike h.1, va_AO.moved hW.alike h.2.1, va_AO.moved hW.alike h.2.2.1, va_Nw.warmM hW h.2.2.2⟩
def Cx (p : Program) (s : State) (m : MethodId) (args : Array Value) (c : Code) (D : va_G) (cl : List vw_C) (A : Nat → Prop) (nL : Nat) (cc : ByteArray) (own : String) (Ts : List Cond) (tys : List (ClassId × FieldType)) : Prop :=
  CallFix p m c cc nL s args Ts own ∧ Kx D cl tys s ∧ ∀ q, s.heap.size ≤ q → A q
def Go (p : Program) (l : Launch) (e : Env) (R : Room) (s : State) (m : MethodId) (args : Array Value) (below : List Frame) (meth : Method) (c : Code) (D : va_G) (cl : List vw_C) (A : Nat → Prop) (nL : Nat) (Q : State → Prop) (g : Nat → Option va_E) (cells slots pc : Nat) (lv : List (Nat × Value)) (st : List Value) : Prop :=
  ∀ (H : Heap) (locs : List Loc) (ls : Array Slot), PW D cl A g H → va_S A s.heap H locs → lv_has ls nL lv → W p l e R s m args below meth c H locs cells slots Q (F0 m pc ls st)
section GO
variable {p : Program} {l : Launch} {e : Env} {R : Room} {s : State} {m : MethodId} {args : Array Value} {below : List Frame} {meth : Method} {c : Code} {D : va_G} {cl : List vw_C} {A : Nat → Prop} {nL : Nat} {Q : State → Prop} {g : Nat → Option va_E} {cells slots pc : Nat} {lv : List (Nat × Value)} {rest : List Value} {cc : ByteArray} {own : String} {Ts : List Cond} {tys : List (ClassId × FieldType)} {a : Nat}

theorem go_iconst (X : Cx p s m args c D cl A nL cc own Ts tys) {n : Int} {v : Int32} (hdg : decode cc pc = .ok (.iconst n, 1)) (hv : Int32.ofInt n = v) (k : Go p l e R s m args below meth c D cl A nL Q g cells slots (pc + 1) lv (.int v :: rest)) : Go p l e R s m args below meth c D cl A nL Q g cells slots pc lv (rest) :=
  fun H locs ls hP hS hl => lv_iconst X.1.1 X.1.2.1 hdg hv (k H locs ls hP hS hl)
theorem go_bipush (X : Cx p s m args c D cl A nL cc own Ts tys) {n : Int} {v : Int32} (hdg : decode cc pc = .ok (.bipush n, 2)) (hv : (Int8.ofInt n).toInt32 = v) (k : Go p l e R s m args below meth c D cl A nL Q g cells slots (pc + 2) lv (.int v :: rest)) : Go p l e R s m args below meth c D cl A nL Q g cells slots pc lv (rest) :=
  fun H locs ls hP hS hl => lv_bipush X.1.1 X.1.2.1 hdg hv (k H locs ls hP hS hl)
theorem go_sipush (X : Cx p s m args c D cl A nL cc own Ts tys) {n : Int} {v : Int32} (hdg : decode cc pc = .ok (.sipush n, 3)) (hv : (Int16.ofInt n).toInt32 = v) (k : Go p l e R s m args below meth c D cl A nL Q g cells slots (pc + 3) lv (.int v :: rest)) : Go p l e R s m args below meth c D cl A nL Q g cells slots pc lv (rest) :=
  fun H locs ls hP hS hl => lv_sipush X.1.1 X.1.2.1 hdg hv (k H locs ls hP hS hl)
theorem go_lconst (X : Cx p s m args c D cl A nL cc own Ts tys) {n : Fin 2} {v : Int64} (hdg : decode cc pc = .ok (.lconst n, 1)) (hv : Int64.ofNat (n : Nat) = v) (k : Go p l e R s m args below meth c D cl A nL Q g cells slots (pc + 1) lv (.long v :: rest)) : Go p l e R s m args below meth c D cl A nL Q g cells slots pc lv (rest) :=
  fun H locs ls hP hS hl => lv_lconst X.1.1 X.1.2.1 hdg hv (k H locs ls hP hS hl)
theorem go_null (X : Cx p s m args c D cl A nL cc own Ts tys)  (hdg : decode cc pc = .ok (.aconst_null, 1)) (k : Go p l e R s m args below meth c D cl A nL Q g cells slots (pc + 1) lv (.null :: rest)) : Go p l e R s m args below meth c D cl A nL Q g cells slots pc lv (rest) :=
  fun H locs ls hP hS hl => lv_null X.1.1 X.1.2.1 hdg (k H locs ls hP hS hl)
theorem go_ldc (X : Cx p s m args c D cl A nL cc own Ts tys) {index : Nat} {v : Int32} (hdg : decode cc pc = .ok (.ldc index, 2)) (hc : Cond.constant own index v ∈ Ts) (k : Go p l e R s m args below meth c D cl A nL Q g cells slots (pc + 2) lv (.int v :: rest)) : Go p l e R s m args below meth c D cl A nL Q g cells slots pc lv (rest) :=
  fun H locs ls hP hS hl => lv_ldc X.1.1 X.1.2.1 X.1.2.2.2.1 (X.1.2.2.2.2 _ hc) hdg (k H locs ls hP hS hl)
theorem go_ldc2 (X : Cx p s m args c D cl A nL cc own Ts tys) {index : Nat} {v : Int64} (hdg : decode cc pc = .ok (.ldc2_w index, 3)) (hc : Cond.constantLong own index v ∈ Ts) (k : Go p l e R s m args below meth c D cl A nL Q g cells slots (pc + 3) lv (.long v :: rest)) : Go p l e R s m args below meth c D cl A nL Q g cells slots pc lv (rest) :=
  fun H locs ls hP hS hl => lv_ldc2 X.1.1 X.1.2.1 X.1.2.2.2.1 (X.1.2.2.2.2 _ hc) hdg (k H locs ls hP hS hl)
theorem go_iload_n (X : Cx p s m args c D cl A nL cc own Ts tys) {j : Fin 4} {i z : Nat} {x : Int32} (hdg : decode cc pc = .ok (.iload_n j, 1)) (hi : (j : Nat) = i) (hk : lv[z]? = some (i, .int x)) (k : Go p l e R s m args below meth c D cl A nL Q g cells slots (pc + 1) lv (.int x :: rest)) : Go p l e R s m args below meth c D cl A nL Q g cells slots pc lv (rest) :=
  fun H locs ls hP hS hl => lv_iload_n X.1.1 X.1.2.1 hdg hi (lv_at hl z hk) (k H locs ls hP hS hl)
theorem go_iload (X : Cx p s m args c D cl A nL cc own Ts tys) {i z : Nat} {x : Int32} (hdg : decode cc pc = .ok (.iload i, 2)) (hk : lv[z]? = some (i, .int x)) (k : Go p l e R s m args below meth c D cl A nL Q g cells slots (pc + 2) lv (.int x :: rest)) : Go p l e R s m args below meth c D cl A nL Q g cells slots pc lv (rest) :=
  fun H locs ls hP hS hl => lv_iload X.1.1 X.1.2.1 hdg (lv_at hl z hk) (k H locs ls hP hS hl)
theorem go_istore_n (X : Cx p s m args c D cl A nL cc own Ts tys) {j : Fin 4} {i : Nat} {x : Int32} {lv' : List (Nat × Value)} (hdg : decode cc pc = .ok (.istore_n j, 1)) (hi : (j : Nat) = i) (hn : i < nL) (hl' : (i, Value.int x) :: lv.filter (fun q => !(q.1 == i) && !(q.1 + 1 == i && q.2.category == 2)) = lv') (k : Go p l e R s m args below meth c D cl A nL Q g cells slots (pc + 1) lv' rest) : Go p l e R s m args below meth c D cl A nL Q g cells slots pc lv (.int x :: rest) :=
  fun H locs ls hP hS hl => lv_istore_n X.1.1 X.1.2.1 hdg hi hl hn hl' (fun ls' hl2 => k H locs ls' hP hS hl2)
theorem go_istore (X : Cx p s m args c D cl A nL cc own Ts tys) {i : Nat} {x : Int32} {lv' : List (Nat × Value)} (hdg : decode cc pc = .ok (.istore i, 2)) (hn : i < nL) (hl' : (i, Value.int x) :: lv.filter (fun q => !(q.1 == i) && !(q.1 + 1 == i && q.2.category == 2)) = lv') (k : Go p l e R s m args below meth c D cl A nL Q g cells slots (pc + 2) lv' rest) : Go p l e R s m args below meth c D cl A nL Q g cells slots pc lv (.int x :: rest) :=
  fun H locs ls hP hS hl => lv_istore X.1.1 X.1.2.1 hdg hl hn hl' (fun ls' hl2 => k H locs ls' hP hS hl2)
theorem go_lload_n (X : Cx p s m args c D cl A nL cc own Ts tys) {j : Fin 4} {i z : Nat} {x : Int64} (hdg : decode cc pc = .ok (.lload_n j, 1)) (hi : (j : Nat) = i) (hk : lv[z]? = some (i, .long x)) (k : Go p l e R s m args below meth c D cl A nL Q g cells slots (pc + 1) lv (.long x :: rest)) : Go p l e R s m args below meth c D cl A nL Q g cells slots pc lv (rest) :=
  fun H locs ls hP hS hl => lv_lload_n X.1.1 X.1.2.1 hdg hi (lv_at hl z hk) (k H locs ls hP hS hl)
theorem go_lload (X : Cx p s m args c D cl A nL cc own Ts tys) {i z : Nat} {x : Int64} (hdg : decode cc pc = .ok (.lload i, 2)) (hk : lv[z]? = some (i, .long x)) (k : Go p l e R s m args below meth c D cl A nL Q g cells slots (pc + 2) lv (.long x :: rest)) : Go p l e R s m args below meth c D cl A nL Q g cells slots pc lv (rest) :=
  fun H locs ls hP hS hl => lv_lload X.1.1 X.1.2.1 hdg (lv_at hl z hk) (k H locs ls hP hS hl)
theorem go_lstore_n (X : Cx p s m args c D cl A nL cc own Ts tys) {j : Fin 4} {i : Nat} {x : Int64} {lv' : List (Nat × Value)} (hdg : decode cc pc = .ok (.lstore_n j, 1)) (hi : (j : Nat) = i) (hn : i + 1 < nL) (hl' : (i, Value.long x) :: lv.filter (fun q => !(q.1 == i) && (!(q.1 == i + 1) && !(q.1 + 1 == i && q.2.category == 2))) = lv') (k : Go p l e R s m args below meth c D cl A nL Q g cells slots (pc + 1) lv' rest) : Go p l e R s m args below meth c D cl A nL Q g cells slots pc lv (.long x :: rest) :=
  fun H locs ls hP hS hl => lv_lstore_n X.1.1 X.1.2.1 hdg hi hl hn hl' (fun ls' hl2 => k H locs ls' hP hS hl2)
theorem go_lstore (X : Cx p s m args c D cl A nL cc own Ts tys) {i : Nat} {x : Int64} {lv' : List (Nat × Value)} (hdg : decode cc pc = .ok (.lstore i, 2)) (hn : i + 1 < nL) (hl' : (i, Value.long x) :: lv.filter (fun q => !(q.1 == i) && (!(q.1 == i + 1) && !(q.1 + 1 == i && q.2.category == 2))) = lv') (k : Go p l e R s m args below meth c D cl A nL Q g cells slots (pc + 2) lv' rest) : Go p l e R s m args below meth c D cl A nL Q g cells slots pc lv (.long x :: rest) :=
  fun H locs ls hP hS hl => lv_lstore X.1.1 X.1.2.1 hdg hl hn hl' (fun ls' hl2 => k H locs ls' hP hS hl2)
theorem go_aload_n (X : Cx p s m args c D cl A nL cc own Ts tys) {j : Fin 4} {i z : Nat} {x : Nat} (hdg : decode cc pc = .ok (.aload_n j, 1)) (hi : (j : Nat) = i) (hk : lv[z]? = some (i, .ref x)) (k : Go p l e R s m args below meth c D cl A nL Q g cells slots (pc + 1) lv (.ref x :: rest)) : Go p l e R s m args below meth c D cl A nL Q g cells slots pc lv (rest) :=
  fun H locs ls hP hS hl => lv_aload_n X.1.1 X.1.2.1 hdg hi (lv_at hl z hk) (k H locs ls hP hS hl)
theorem go_aload (X : Cx p s m args c D cl A nL cc own Ts tys) {i z : Nat} {x : Nat} (hdg : decode cc pc = .ok (.aload i, 2)) (hk : lv[z]? = some (i, .ref x)) (k : Go p l e R s m args below meth c D cl A nL Q g cells slots (pc + 2) lv (.ref x :: rest)) : Go p l e R s m args below meth c D cl A nL Q g cells slots pc lv (rest) :=
  fun H locs ls hP hS hl => lv_aload X.1.1 X.1.2.1 hdg (lv_at hl z hk) (k H locs ls hP hS hl)
theorem go_astore_n (X : Cx p s m args c D cl A nL cc own Ts tys) {j : Fin 4} {i : Nat} {x : Nat} {lv' : List (Nat × Value)} (hdg : decode cc pc = .ok (.astore_n j, 1)) (hi : (j : Nat) = i) (hn : i < nL) (hl' : (i, Value.ref x) :: lv.filter (fun q => !(q.1 == i) && !(q.1 + 1 == i && q.2.category == 2)) = lv') (k : Go p l e R s m args below meth c D cl A nL Q g cells slots (pc + 1) lv' rest) : Go p l e R s m args below meth c D cl A nL Q g cells slots pc lv (.ref x :: rest) :=
  fun H locs ls hP hS hl => lv_astore_n X.1.1 X.1.2.1 hdg hi hl hn hl' (fun ls' hl2 => k H locs ls' hP hS hl2)
theorem go_astore (X : Cx p s m args c D cl A nL cc own Ts tys) {i : Nat} {x : Nat} {lv' : List (Nat × Value)} (hdg : decode cc pc = .ok (.astore i, 2)) (hn : i < nL) (hl' : (i, Value.ref x) :: lv.filter (fun q => !(q.1 == i) && !(q.1 + 1 == i && q.2.category == 2)) = lv') (k : Go p l e R s m args below meth c D cl A nL Q g cells slots (pc + 2) lv' rest) : Go p l e R s m args below meth c D cl A nL Q g cells slots pc lv (.ref x :: rest) :=
  fun H locs ls hP hS hl => lv_astore X.1.1 X.1.2.1 hdg hl hn hl' (fun ls' hl2 => k H locs ls' hP hS hl2)
theorem go_aload_nN (X : Cx p s m args c D cl A nL cc own Ts tys) {j : Fin 4} {i z : Nat} (hdg : decode cc pc = .ok (.aload_n j, 1)) (hi : (j : Nat) = i) (hk : lv[z]? = some (i, .null)) (k : Go p l e R s m args below meth c D cl A nL Q g cells slots (pc + 1) lv (.null :: rest)) : Go p l e R s m args below meth c D cl A nL Q g cells slots pc lv (rest) :=
  fun H locs ls hP hS hl => lv_aload_nN X.1.1 X.1.2.1 hdg hi (lv_at hl z hk) (k H locs ls hP hS hl)
theorem go_aloadN (X : Cx p s m args c D cl A nL cc own Ts tys) {i z : Nat} (hdg : decode cc pc = .ok (.aload i, 2)) (hk : lv[z]? = some (i, .null)) (k : Go p l e R s m args below meth c D cl A nL Q g cells slots (pc + 2) lv (.null :: rest)) : Go p l e R s m args below meth c D cl A nL Q g cells slots pc lv (rest) :=
  fun H locs ls hP hS hl => lv_aloadN X.1.1 X.1.2.1 hdg (lv_at hl z hk) (k H locs ls hP hS hl)
theorem go_astore_nN (X : Cx p s m args c D cl A nL cc own Ts tys) {j : Fin 4} {i : Nat} {lv' : List (Nat × Value)} (hdg : decode cc pc = .ok (.astore_n j, 1)) (hi : (j : Nat) = i) (hn : i < nL) (hl' : (i, Value.null) :: lv.filter (fun q => !(q.1 == i) && !(q.1 + 1 == i && q.2.category == 2)) = lv') (k : Go p l e R s m args below meth c D cl A nL Q g cells slots (pc + 1) lv' rest) : Go p l e R s m args below meth c D cl A nL Q g cells slots pc lv (.null :: rest) :=
  fun H locs ls hP hS hl => lv_astore_nN X.1.1 X.1.2.1 hdg hi hl hn hl' (fun ls' hl2 => k H locs ls' hP hS hl2)
theorem go_astoreN (X : Cx p s m args c D cl A nL cc own Ts tys) {i : Nat} {lv' : List (Nat × Value)} (hdg : decode cc pc = .ok (.astore i, 2)) (hn : i < nL) (hl' : (i, Value.null) :: lv.filter (fun q => !(q.1 == i) && !(q.1 + 1 == i && q.2.category == 2)) = lv') (k : Go p l e R s m args below meth c D cl A nL Q g cells slots (pc + 2) lv' rest) : Go p l e R s m args below meth c D cl A nL Q g cells slots pc lv (.null :: rest) :=
  fun H locs ls hP hS hl => lv_astoreN X.1.1 X.1.2.1 hdg hl hn hl' (fun ls' hl2 => k H locs ls' hP hS hl2)
theorem go_iinc (X : Cx p s m args c D cl A nL cc own Ts tys) {i j : Nat} {n : Int} {x v : Int32} {lv' : List (Nat × Value)} (hdg : decode cc pc = .ok (.iinc i n, 3)) (hk : lv[j]? = some (i, .int x)) (hv : x + Int32.ofInt n = v) (hn : i < nL) (hl' : (i, Value.int v) :: lv.filter (fun q => !(q.1 == i) && !(q.1 + 1 == i && q.2.category == 2)) = lv') (k : Go p l e R s m args below meth c D cl A nL Q g cells slots (pc + 3) lv' rest) : Go p l e R s m args below meth c D cl A nL Q g cells slots pc lv rest :=
  fun H locs ls hP hS hl => lv_iinc X.1.1 X.1.2.1 hdg hl hk hv hn hl' (fun ls' hl2 => k H locs ls' hP hS hl2)
theorem go_iadd (X : Cx p s m args c D cl A nL cc own Ts tys) {x y : Int32} (hdg : decode cc pc = .ok (.iadd, 1)) (k : Go p l e R s m args below meth c D cl A nL Q g cells slots (pc + 1) lv (.int (x + y) :: rest)) : Go p l e R s m args below meth c D cl A nL Q g cells slots pc lv (.int y :: .int x :: rest) :=
  fun H locs ls hP hS hl => lv_iadd X.1.1 X.1.2.1 hdg (k H locs ls hP hS hl)
theorem go_ladd (X : Cx p s m args c D cl A nL cc own Ts tys) {x y : Int64} (hdg : decode cc pc = .ok (.ladd, 1)) (k : Go p l e R s m args below meth c D cl A nL Q g cells slots (pc + 1) lv (.long (x + y) :: rest)) : Go p l e R s m args below meth c D cl A nL Q g cells slots pc lv (.long y :: .long x :: rest) :=
  fun H locs ls hP hS hl => lv_ladd X.1.1 X.1.2.1 hdg (k H locs ls hP hS hl)
theorem go_isub (X : Cx p s m args c D cl A nL cc own Ts tys) {x y : Int32} (hdg : decode cc pc = .ok (.isub, 1)) (k : Go p l e R s m args below meth c D cl A nL Q g cells slots (pc + 1) lv (.int (x - y) :: rest)) : Go p l e R s m args below meth c D cl A nL Q g cells slots pc lv (.int y :: .int x :: rest) :=
  fun H locs ls hP hS hl => lv_isub X.1.1 X.1.2.1 hdg (k H locs ls hP hS hl)
theorem go_lsub (X : Cx p s m args c D cl A nL cc own Ts tys) {x y : Int64} (hdg : decode cc pc = .ok (.lsub, 1)) (k : Go p l e R s m args below meth c D cl A nL Q g cells slots (pc + 1) lv (.long (x - y) :: rest)) : Go p l e R s m args below meth c D cl A nL Q g cells slots pc lv (.long y :: .long x :: rest) :=
  fun H locs ls hP hS hl => lv_lsub X.1.1 X.1.2.1 hdg (k H locs ls hP hS hl)
theorem go_imul (X : Cx p s m args c D cl A nL cc own Ts tys) {x y : Int32} (hdg : decode cc pc = .ok (.imul, 1)) (k : Go p l e R s m args below meth c D cl A nL Q g cells slots (pc + 1) lv (.int (x * y) :: rest)) : Go p l e R s m args below meth c D cl A nL Q g cells slots pc lv (.int y :: .int x :: rest) :=
  fun H locs ls hP hS hl => lv_imul X.1.1 X.1.2.1 hdg (k H locs ls hP hS hl)
theorem go_lmul (X : Cx p s m args c D cl A nL cc own Ts tys) {x y : Int64} (hdg : decode cc pc = .ok (.lmul, 1)) (k : Go p l e R s m args below meth c D cl A nL Q g cells slots (pc + 1) lv (.long (x * y) :: rest)) : Go p l e R s m args below meth c D cl A nL Q g cells slots pc lv (.long y :: .long x :: rest) :=
  fun H locs ls hP hS hl => lv_lmul X.1.1 X.1.2.1 hdg (k H locs ls hP hS hl)
theorem go_iand (X : Cx p s m args c D cl A nL cc own Ts tys) {x y : Int32} (hdg : decode cc pc = .ok (.iand, 1)) (k : Go p l e R s m args below meth c D cl A nL Q g cells slots (pc + 1) lv (.int (x &&& y) :: rest)) : Go p l e R s m args below meth c D cl A nL Q g cells slots pc lv (.int y :: .int x :: rest) :=
  fun H locs ls hP hS hl => lv_iand X.1.1 X.1.2.1 hdg (k H locs ls hP hS hl)
theorem go_land (X : Cx p s m args c D cl A nL cc own Ts tys) {x y : Int64} (hdg : decode cc pc = .ok (.land, 1)) (k : Go p l e R s m args below meth c D cl A nL Q g cells slots (pc + 1) lv (.long (x &&& y) :: rest)) : Go p l e R s m args below meth c D cl A nL Q g cells slots pc lv (.long y :: .long x :: rest) :=
  fun H locs ls hP hS hl => lv_land X.1.1 X.1.2.1 hdg (k H locs ls hP hS hl)
theorem go_ior (X : Cx p s m args c D cl A nL cc own Ts tys) {x y : Int32} (hdg : decode cc pc = .ok (.ior, 1)) (k : Go p l e R s m args below meth c D cl A nL Q g cells slots (pc + 1) lv (.int (x ||| y) :: rest)) : Go p l e R s m args below meth c D cl A nL Q g cells slots pc lv (.int y :: .int x :: rest) :=
  fun H locs ls hP hS hl => lv_ior X.1.1 X.1.2.1 hdg (k H locs ls hP hS hl)
theorem go_lor (X : Cx p s m args c D cl A nL cc own Ts tys) {x y : Int64} (hdg : decode cc pc = .ok (.lor, 1)) (k : Go p l e R s m args below meth c D cl A nL Q g cells slots (pc + 1) lv (.long (x ||| y) :: rest)) : Go p l e R s m args below meth c D cl A nL Q g cells slots pc lv (.long y :: .long x :: rest) :=
  fun H locs ls hP hS hl => lv_lor X.1.1 X.1.2.1 hdg (k H locs ls hP hS hl)
theorem go_ixor (X : Cx p s m args c D cl A nL cc own Ts tys) {x y : Int32} (hdg : decode cc pc = .ok (.ixor, 1)) (k : Go p l e R s m args below meth c D cl A nL Q g cells slots (pc + 1) lv (.int (x ^^^ y) :: rest)) : Go p l e R s m args below meth c D cl A nL Q g cells slots pc lv (.int y :: .int x :: rest) :=
  fun H locs ls hP hS hl => lv_ixor X.1.1 X.1.2.1 hdg (k H locs ls hP hS hl)
theorem go_lxor (X : Cx p s m args c D cl A nL cc own Ts tys) {x y : Int64} (hdg : decode cc pc = .ok (.lxor, 1)) (k : Go p l e R s m args below meth c D cl A nL Q g cells slots (pc + 1) lv (.long (x ^^^ y) :: rest)) : Go p l e R s m args below meth c D cl A nL Q g cells slots pc lv (.long y :: .long x :: rest) :=
  fun H locs ls hP hS hl => lv_lxor X.1.1 X.1.2.1 hdg (k H locs ls hP hS hl)
theorem go_idiv (X : Cx p s m args c D cl A nL cc own Ts tys) {x y : Int32} (hdg : decode cc pc = .ok (.idiv, 1)) (hne : ¬ y = 0) (k : Go p l e R s m args below meth c D cl A nL Q g cells slots (pc + 1) lv (.int (x / y) :: rest)) : Go p l e R s m args below meth c D cl A nL Q g cells slots pc lv (.int y :: .int x :: rest) :=
  fun H locs ls hP hS hl => lv_idiv X.1.1 X.1.2.1 hdg hne (k H locs ls hP hS hl)
theorem go_ldiv (X : Cx p s m args c D cl A nL cc own Ts tys) {x y : Int64} (hdg : decode cc pc = .ok (.ldiv, 1)) (hne : ¬ y = 0) (k : Go p l e R s m args below meth c D cl A nL Q g cells slots (pc + 1) lv (.long (x / y) :: rest)) : Go p l e R s m args below meth c D cl A nL Q g cells slots pc lv (.long y :: .long x :: rest) :=
  fun H locs ls hP hS hl => lv_ldiv X.1.1 X.1.2.1 hdg hne (k H locs ls hP hS hl)
theorem go_i2l (X : Cx p s m args c D cl A nL cc own Ts tys) {x : Int32} {v : Int64} (hdg : decode cc pc = .ok (.i2l, 1)) (hv : x.toInt64 = v) (k : Go p l e R s m args below meth c D cl A nL Q g cells slots (pc + 1) lv (.long v :: rest)) : Go p l e R s m args below meth c D cl A nL Q g cells slots pc lv (.int x :: rest) :=
  fun H locs ls hP hS hl => lv_i2l X.1.1 X.1.2.1 hdg hv (k H locs ls hP hS hl)
theorem go_l2i (X : Cx p s m args c D cl A nL cc own Ts tys) {x : Int64} {v : Int32} (hdg : decode cc pc = .ok (.l2i, 1)) (hv : x.toInt32 = v) (k : Go p l e R s m args below meth c D cl A nL Q g cells slots (pc + 1) lv (.int v :: rest)) : Go p l e R s m args below meth c D cl A nL Q g cells slots pc lv (.long x :: rest) :=
  fun H locs ls hP hS hl => lv_l2i X.1.1 X.1.2.1 hdg hv (k H locs ls hP hS hl)
theorem go_lcmp (X : Cx p s m args c D cl A nL cc own Ts tys) {x y : Int64} (hdg : decode cc pc = .ok (.lcmp, 1)) (k : Go p l e R s m args below meth c D cl A nL Q g cells slots (pc + 1) lv (.int (lg_cmp x y) :: rest)) : Go p l e R s m args below meth c D cl A nL Q g cells slots pc lv (.long y :: .long x :: rest) :=
  fun H locs ls hP hS hl => W.lcmp X.1.1 X.1.2.1 hdg (k H locs ls hP hS hl)
theorem go_dup (X : Cx p s m args c D cl A nL cc own Ts tys) {va : Value} (hdg : decode cc pc = .ok (.dup, 1)) (hva : va.category = 1) (k : Go p l e R s m args below meth c D cl A nL Q g cells slots (pc + 1) lv (va :: va :: rest)) : Go p l e R s m args below meth c D cl A nL Q g cells slots pc lv (va :: rest) :=
  fun H locs ls hP hS hl => lv_dup X.1.1 X.1.2.1 hdg hva (k H locs ls hP hS hl)
theorem go_dup_x1 (X : Cx p s m args c D cl A nL cc own Ts tys) {va vb : Value} (hdg : decode cc pc = .ok (.dup_x1, 1)) (hva : va.category = 1) (hvb : vb.category = 1) (k : Go p l e R s m args below meth c D cl A nL Q g cells slots (pc + 1) lv (va :: vb :: va :: rest)) : Go p l e R s m args below meth c D cl A nL Q g cells slots pc lv (va :: vb :: rest) :=
  fun H locs ls hP hS hl => lv_dup_x1 X.1.1 X.1.2.1 hdg hva hvb (k H locs ls hP hS hl)
theorem go_dup2 (X : Cx p s m args c D cl A nL cc own Ts tys) {va vb : Value} (hdg : decode cc pc = .ok (.dup2, 1)) (hva : va.category = 1) (hvb : vb.category = 1) (k : Go p l e R s m args below meth c D cl A nL Q g cells slots (pc + 1) lv (va :: vb :: va :: vb :: rest)) : Go p l e R s m args below meth c D cl A nL Q g cells slots pc lv (va :: vb :: rest) :=
  fun H locs ls hP hS hl => lv_dup2_11 X.1.1 X.1.2.1 hdg hva hvb (k H locs ls hP hS hl)
theorem go_pop (X : Cx p s m args c D cl A nL cc own Ts tys) {va : Value} (hdg : decode cc pc = .ok (.pop, 1)) (hva : va.category = 1) (k : Go p l e R s m args below meth c D cl A nL Q g cells slots (pc + 1) lv (rest)) : Go p l e R s m args below meth c D cl A nL Q g cells slots pc lv (va :: rest) :=
  fun H locs ls hP hS hl => lv_pop X.1.1 X.1.2.1 hdg hva (k H locs ls hP hS hl)
theorem go_if_eq (X : Cx p s m args c D cl A nL cc own Ts tys) {x : Int32} {off : Int} {tgt : Nat} (hdg : decode cc pc = .ok (.ifCond .eq off, 3)) (ht : (pc : Int) + off = (tgt : Int)) (kt : x = 0 → Go p l e R s m args below meth c D cl A nL Q g cells slots tgt lv rest) (kf : ¬ x = 0 → Go p l e R s m args below meth c D cl A nL Q g cells slots (pc + 3) lv rest) : Go p l e R s m args below meth c D cl A nL Q g cells slots pc lv (.int x :: rest) :=
  fun H locs ls hP hS hl => lv_if_eq X.1.1 X.1.2.1 hdg ht (fun q => kt q H locs ls hP hS hl) (fun q => kf q H locs ls hP hS hl)
theorem go_icmp_eq (X : Cx p s m args c D cl A nL cc own Ts tys) {x y : Int32} {off : Int} {tgt : Nat} (hdg : decode cc pc = .ok (.if_icmp .eq off, 3)) (ht : (pc : Int) + off = (tgt : Int)) (kt : x = y → Go p l e R s m args below meth c D cl A nL Q g cells slots tgt lv rest) (kf : ¬ x = y → Go p l e R s m args below meth c D cl A nL Q g cells slots (pc + 3) lv rest) : Go p l e R s m args below meth c D cl A nL Q g cells slots pc lv (.int y :: .int x :: rest) :=
  fun H locs ls hP hS hl => lv_icmp_eq X.1.1 X.1.2.1 hdg ht (fun q => kt q H locs ls hP hS hl) (fun q => kf q H locs ls hP hS hl)
theorem go_lif_eq (X : Cx p s m args c D cl A nL cc own Ts tys) {x y : Int64} {off : Int} {tgt : Nat} (hd1 : decode cc pc = .ok (.lcmp, 1)) (hdg : decode cc (pc + 1) = .ok (.ifCond .eq off, 3)) (ht : ((pc + 1 : Nat) : Int) + off = (tgt : Int)) (kt : x = y → Go p l e R s m args below meth c D cl A nL Q g cells slots tgt lv rest) (kf : ¬ x = y → Go p l e R s m args below meth c D cl A nL Q g cells slots (pc + 1 + 3) lv rest) : Go p l e R s m args below meth c D cl A nL Q g cells slots pc lv (.long y :: .long x :: rest) :=
  go_lcmp X hd1 (go_if_eq X hdg ht (fun q => kt ((lg_cmp_eq _ _).mp q)) (fun q => kf (fun w => q ((lg_cmp_eq _ _).mpr w))))
theorem go_if_ne (X : Cx p s m args c D cl A nL cc own Ts tys) {x : Int32} {off : Int} {tgt : Nat} (hdg : decode cc pc = .ok (.ifCond .ne off, 3)) (ht : (pc : Int) + off = (tgt : Int)) (kt : ¬ x = 0 → Go p l e R s m args below meth c D cl A nL Q g cells slots tgt lv rest) (kf : x = 0 → Go p l e R s m args below meth c D cl A nL Q g cells slots (pc + 3) lv rest) : Go p l e R s m args below meth c D cl A nL Q g cells slots pc lv (.int x :: rest) :=
  fun H locs ls hP hS hl => lv_if_ne X.1.1 X.1.2.1 hdg ht (fun q => kt q H locs ls hP hS hl) (fun q => kf q H locs ls hP hS hl)
theorem go_icmp_ne (X : Cx p s m args c D cl A nL cc own Ts tys) {x y : Int32} {off : Int} {tgt : Nat} (hdg : decode cc pc = .ok (.if_icmp .ne off, 3)) (ht : (pc : Int) + off = (tgt : Int)) (kt : ¬ x = y → Go p l e R s m args below meth c D cl A nL Q g cells slots tgt lv rest) (kf : x = y → Go p l e R s m args below meth c D cl A nL Q g cells slots (pc + 3) lv rest) : Go p l e R s m args below meth c D cl A nL Q g cells slots pc lv (.int y :: .int x :: rest) :=
  fun H locs ls hP hS hl => lv_icmp_ne X.1.1 X.1.2.1 hdg ht (fun q => kt q H locs ls hP hS hl) (fun q => kf q H locs ls hP hS hl)
theorem go_lif_ne (X : Cx p s m args c D cl A nL cc own Ts tys) {x y : Int64} {off : Int} {tgt : Nat} (hd1 : decode cc pc = .ok (.lcmp, 1)) (hdg : decode cc (pc + 1) = .ok (.ifCond .ne off, 3)) (ht : ((pc + 1 : Nat) : Int) + off = (tgt : Int)) (kt : ¬ x = y → Go p l e R s m args below meth c D cl A nL Q g cells slots tgt lv rest) (kf : x = y → Go p l e R s m args below meth c D cl A nL Q g cells slots (pc + 1 + 3) lv rest) : Go p l e R s m args below meth c D cl A nL Q g cells slots pc lv (.long y :: .long x :: rest) :=
  go_lcmp X hd1 (go_if_ne X hdg ht (fun q => kt (fun w => q ((lg_cmp_eq _ _).mpr w))) (fun q => kf ((lg_cmp_eq _ _).mp q)))
theorem go_if_lt (X : Cx p s m args c D cl A nL cc own Ts tys) {x : Int32} {off : Int} {tgt : Nat} (hdg : decode cc pc = .ok (.ifCond .lt off, 3)) (ht : (pc : Int) + off = (tgt : Int)) (kt : x < 0 → Go p l e R s m args below meth c D cl A nL Q g cells slots tgt lv rest) (kf : ¬ x < 0 → Go p l e R s m args below meth c D cl A nL Q g cells slots (pc + 3) lv rest) : Go p l e R s m args below meth c D cl A nL Q g cells slots pc lv (.int x :: rest) :=
  fun H locs ls hP hS hl => lv_if_lt X.1.1 X.1.2.1 hdg ht (fun q => kt q H locs ls hP hS hl) (fun q => kf q H locs ls hP hS hl)
theorem go_icmp_lt (X : Cx p s m args c D cl A nL cc own Ts tys) {x y : Int32} {off : Int} {tgt : Nat} (hdg : decode cc pc = .ok (.if_icmp .lt off, 3)) (ht : (pc : Int) + off = (tgt : Int)) (kt : x < y → Go p l e R s m args below meth c D cl A nL Q g cells slots tgt lv rest) (kf : ¬ x < y → Go p l e R s m args below meth c D cl A nL Q g cells slots (pc + 3) lv rest) : Go p l e R s m args below meth c D cl A nL Q g cells slots pc lv (.int y :: .int x :: rest) :=
  fun H locs ls hP hS hl => lv_icmp_lt X.1.1 X.1.2.1 hdg ht (fun q => kt q H locs ls hP hS hl) (fun q => kf q H locs ls hP hS hl)
theorem go_lif_lt (X : Cx p s m args c D cl A nL cc own Ts tys) {x y : Int64} {off : Int} {tgt : Nat} (hd1 : decode cc pc = .ok (.lcmp, 1)) (hdg : decode cc (pc + 1) = .ok (.ifCond .lt off, 3)) (ht : ((pc + 1 : Nat) : Int) + off = (tgt : Int)) (kt : x < y → Go p l e R s m args below meth c D cl A nL Q g cells slots tgt lv rest) (kf : ¬ x < y → Go p l e R s m args below meth c D cl A nL Q g cells slots (pc + 1 + 3) lv rest) : Go p l e R s m args below meth c D cl A nL Q g cells slots pc lv (.long y :: .long x :: rest) :=
  go_lcmp X hd1 (go_if_lt X hdg ht (fun q => kt ((lg_cmp_lt _ _).mp q)) (fun q => kf (fun w => q ((lg_cmp_lt _ _).mpr w))))
theorem go_if_ge (X : Cx p s m args c D cl A nL cc own Ts tys) {x : Int32} {off : Int} {tgt : Nat} (hdg : decode cc pc = .ok (.ifCond .ge off, 3)) (ht : (pc : Int) + off = (tgt : Int)) (kt : 0 ≤ x → Go p l e R s m args below meth c D cl A nL Q g cells slots tgt lv rest) (kf : ¬ 0 ≤ x → Go p l e R s m args below meth c D cl A nL Q g cells slots (pc + 3) lv rest) : Go p l e R s m args below meth c D cl A nL Q g cells slots pc lv (.int x :: rest) :=
  fun H locs ls hP hS hl => lv_if_ge X.1.1 X.1.2.1 hdg ht (fun q => kt q H locs ls hP hS hl) (fun q => kf q H locs ls hP hS hl)
theorem go_icmp_ge (X : Cx p s m args c D cl A nL cc own Ts tys) {x y : Int32} {off : Int} {tgt : Nat} (hdg : decode cc pc = .ok (.if_icmp .ge off, 3)) (ht : (pc : Int) + off = (tgt : Int)) (kt : y ≤ x → Go p l e R s m args below meth c D cl A nL Q g cells slots tgt lv rest) (kf : ¬ y ≤ x → Go p l e R s m args below meth c D cl A nL Q g cells slots (pc + 3) lv rest) : Go p l e R s m args below meth c D cl A nL Q g cells slots pc lv (.int y :: .int x :: rest) :=
  fun H locs ls hP hS hl => lv_icmp_ge X.1.1 X.1.2.1 hdg ht (fun q => kt q H locs ls hP hS hl) (fun q => kf q H locs ls hP hS hl)
theorem go_lif_ge (X : Cx p s m args c D cl A nL cc own Ts tys) {x y : Int64} {off : Int} {tgt : Nat} (hd1 : decode cc pc = .ok (.lcmp, 1)) (hdg : decode cc (pc + 1) = .ok (.ifCond .ge off, 3)) (ht : ((pc + 1 : Nat) : Int) + off = (tgt : Int)) (kt : y ≤ x → Go p l e R s m args below meth c D cl A nL Q g cells slots tgt lv rest) (kf : ¬ y ≤ x → Go p l e R s m args below meth c D cl A nL Q g cells slots (pc + 1 + 3) lv rest) : Go p l e R s m args below meth c D cl A nL Q g cells slots pc lv (.long y :: .long x :: rest) :=
  go_lcmp X hd1 (go_if_ge X hdg ht (fun q => kt ((lg_cmp_ge _ _).mp q)) (fun q => kf (fun w => q ((lg_cmp_ge _ _).mpr w))))
theorem go_if_gt (X : Cx p s m args c D cl A nL cc own Ts tys) {x : Int32} {off : Int} {tgt : Nat} (hdg : decode cc pc = .ok (.ifCond .gt off, 3)) (ht : (pc : Int) + off = (tgt : Int)) (kt : 0 < x → Go p l e R s m args below meth c D cl A nL Q g cells slots tgt lv rest) (kf : ¬ 0 < x → Go p l e R s m args below meth c D cl A nL Q g cells slots (pc + 3) lv rest) : Go p l e R s m args below meth c D cl A nL Q g cells slots pc lv (.int x :: rest) :=
  fun H locs ls hP hS hl => lv_if_gt X.1.1 X.1.2.1 hdg ht (fun q => kt q H locs ls hP hS hl) (fun q => kf q H locs ls hP hS hl)
theorem go_icmp_gt (X : Cx p s m args c D cl A nL cc own Ts tys) {x y : Int32} {off : Int} {tgt : Nat} (hdg : decode cc pc = .ok (.if_icmp .gt off, 3)) (ht : (pc : Int) + off = (tgt : Int)) (kt : y < x → Go p l e R s m args below meth c D cl A nL Q g cells slots tgt lv rest) (kf : ¬ y < x → Go p l e R s m args below meth c D cl A nL Q g cells slots (pc + 3) lv rest) : Go p l e R s m args below meth c D cl A nL Q g cells slots pc lv (.int y :: .int x :: rest) :=
  fun H locs ls hP hS hl => lv_icmp_gt X.1.1 X.1.2.1 hdg ht (fun q => kt q H locs ls hP hS hl) (fun q => kf q H locs ls hP hS hl)
theorem go_lif_gt (X : Cx p s m args c D cl A nL cc own Ts tys) {x y : Int64} {off : Int} {tgt : Nat} (hd1 : decode cc pc = .ok (.lcmp, 1)) (hdg : decode cc (pc + 1) = .ok (.ifCond .gt off, 3)) (ht : ((pc + 1 : Nat) : Int) + off = (tgt : Int)) (kt : y < x → Go p l e R s m args below meth c D cl A nL Q g cells slots tgt lv rest) (kf : ¬ y < x → Go p l e R s m args below meth c D cl A nL Q g cells slots (pc + 1 + 3) lv rest) : Go p l e R s m args below meth c D cl A nL Q g cells slots pc lv (.long y :: .long x :: rest) :=
  go_lcmp X hd1 (go_if_gt X hdg ht (fun q => kt ((lg_cmp_gt _ _).mp q)) (fun q => kf (fun w => q ((lg_cmp_gt _ _).mpr w))))
theorem go_if_le (X : Cx p s m args c D cl A nL cc own Ts tys) {x : Int32} {off : Int} {tgt : Nat} (hdg : decode cc pc = .ok (.ifCond .le off, 3)) (ht : (pc : Int) + off = (tgt : Int)) (kt : x ≤ 0 → Go p l e R s m args below meth c D cl A nL Q g cells slots tgt lv rest) (kf : ¬ x ≤ 0 → Go p l e R s m args below meth c D cl A nL Q g cells slots (pc + 3) lv rest) : Go p l e R s m args below meth c D cl A nL Q g cells slots pc lv (.int x :: rest) :=
  fun H locs ls hP hS hl => lv_if_le X.1.1 X.1.2.1 hdg ht (fun q => kt q H locs ls hP hS hl) (fun q => kf q H locs ls hP hS hl)
theorem go_icmp_le (X : Cx p s m args c D cl A nL cc own Ts tys) {x y : Int32} {off : Int} {tgt : Nat} (hdg : decode cc pc = .ok (.if_icmp .le off, 3)) (ht : (pc : Int) + off = (tgt : Int)) (kt : x ≤ y → Go p l e R s m args below meth c D cl A nL Q g cells slots tgt lv rest) (kf : ¬ x ≤ y → Go p l e R s m args below meth c D cl A nL Q g cells slots (pc + 3) lv rest) : Go p l e R s m args below meth c D cl A nL Q g cells slots pc lv (.int y :: .int x :: rest) :=
  fun H locs ls hP hS hl => lv_icmp_le X.1.1 X.1.2.1 hdg ht (fun q => kt q H locs ls hP hS hl) (fun q => kf q H locs ls hP hS hl)
theorem go_lif_le (X : Cx p s m args c D cl A nL cc own Ts tys) {x y : Int64} {off : Int} {tgt : Nat} (hd1 : decode cc pc = .ok (.lcmp, 1)) (hdg : decode cc (pc + 1) = .ok (.ifCond .le off, 3)) (ht : ((pc + 1 : Nat) : Int) + off = (tgt : Int)) (kt : x ≤ y → Go p l e R s m args below meth c D cl A nL Q g cells slots tgt lv rest) (kf : ¬ x ≤ y → Go p l e R s m args below meth c D cl A nL Q g cells slots (pc + 1 + 3) lv rest) : Go p l e R s m args below meth c D cl A nL Q g cells slots pc lv (.long y :: .long x :: rest) :=
  go_lcmp X hd1 (go_if_le X hdg ht (fun q => kt ((lg_cmp_le _ _).mp q)) (fun q => kf (fun w => q ((lg_cmp_le _ _).mpr w))))
theorem go_goto (X : Cx p s m args c D cl A nL cc own Ts tys) {off : Int} {tgt : Nat} (hdg : decode cc pc = .ok (.goto off, 3)) (ht : (pc : Int) + off = (tgt : Int)) (k : Go p l e R s m args below meth c D cl A nL Q g cells slots tgt lv rest) : Go p l e R s m args below meth c D cl A nL Q g cells slots pc lv rest :=
  fun H locs ls hP hS hl => lv_goto X.1.1 X.1.2.1 hdg ht (k H locs ls hP hS hl)
theorem go_ifnonnull (X : Cx p s m args c D cl A nL cc own Ts tys) {x : Nat} {off : Int} {tgt : Nat} (hdg : decode cc pc = .ok (.ifnonnull off, 3)) (ht : (pc : Int) + off = (tgt : Int)) (k : Go p l e R s m args below meth c D cl A nL Q g cells slots tgt lv rest) : Go p l e R s m args below meth c D cl A nL Q g cells slots pc lv (.ref x :: rest) :=
  fun H locs ls hP hS hl => lv_ifnonnull X.1.1 X.1.2.1 hdg ht (k H locs ls hP hS hl)
theorem go_ifnull (X : Cx p s m args c D cl A nL cc own Ts tys) {x : Nat} {off : Int} (hdg : decode cc pc = .ok (.ifnull off, 3)) (k : Go p l e R s m args below meth c D cl A nL Q g cells slots (pc + 3) lv rest) : Go p l e R s m args below meth c D cl A nL Q g cells slots pc lv (.ref x :: rest) :=
  fun H locs ls hP hS hl => lv_ifnull X.1.1 X.1.2.1 hdg (k H locs ls hP hS hl)
theorem go_ifnullN (X : Cx p s m args c D cl A nL cc own Ts tys) {off : Int} {tgt : Nat} (hdg : decode cc pc = .ok (.ifnull off, 3)) (ht : (pc : Int) + off = (tgt : Int)) (k : Go p l e R s m args below meth c D cl A nL Q g cells slots tgt lv rest) : Go p l e R s m args below meth c D cl A nL Q g cells slots pc lv (.null :: rest) :=
  fun H locs ls hP hS hl => lv_ifnullN X.1.1 X.1.2.1 hdg ht (k H locs ls hP hS hl)
theorem go_ifnonnullN (X : Cx p s m args c D cl A nL cc own Ts tys) {off : Int} (hdg : decode cc pc = .ok (.ifnonnull off, 3)) (k : Go p l e R s m args below meth c D cl A nL Q g cells slots (pc + 3) lv rest) : Go p l e R s m args below meth c D cl A nL Q g cells slots pc lv (.null :: rest) :=
  fun H locs ls hP hS hl => lv_ifnonnullN X.1.1 X.1.2.1 hdg (k H locs ls hP hS hl)
theorem go_acmp_eq (X : Cx p s m args c D cl A nL cc own Ts tys) {rx ry : Option Nat} {off : Int} {tgt : Nat} (hdg : decode cc pc = .ok (.if_acmp .eq off, 3)) (ht : (pc : Int) + off = (tgt : Int)) (kt : rx = ry → Go p l e R s m args below meth c D cl A nL Q g cells slots tgt lv rest) (kf : ¬ rx = ry → Go p l e R s m args below meth c D cl A nL Q g cells slots (pc + 3) lv rest) : Go p l e R s m args below meth c D cl A nL Q g cells slots pc lv (va_rf ry :: va_rf rx :: rest) :=
  fun H locs ls hP hS hl => lv_acmp_eq X.1.1 X.1.2.1 hdg ht (fun q => kt q H locs ls hP hS hl) (fun q => kf q H locs ls hP hS hl)
theorem go_acmp_ne (X : Cx p s m args c D cl A nL cc own Ts tys) {rx ry : Option Nat} {off : Int} {tgt : Nat} (hdg : decode cc pc = .ok (.if_acmp .ne off, 3)) (ht : (pc : Int) + off = (tgt : Int)) (kt : ¬ rx = ry → Go p l e R s m args below meth c D cl A nL Q g cells slots tgt lv rest) (kf : rx = ry → Go p l e R s m args below meth c D cl A nL Q g cells slots (pc + 3) lv rest) : Go p l e R s m args below meth c D cl A nL Q g cells slots pc lv (va_rf ry :: va_rf rx :: rest) :=
  fun H locs ls hP hS hl => lv_acmp_ne X.1.1 X.1.2.1 hdg ht (fun q => kt q H locs ls hP hS hl) (fun q => kf q H locs ls hP hS hl)
theorem go_get (X : Cx p s m args c D cl A nL cc own Ts tys) {ref C : String} {T : u_T} {N ci index : Nat} {fs : List Value} (hin : ∀ w ∈ u_ws C T N, w ∈ Ts) (hc : cl[ci]? = some (C, T, N)) (i : Nat) (hi : i < N) (hlink : Cond.fieldLink own index ref (T i).2.1 (T i).2.2.1 ∈ Ts) (hsame : (T i).1 = ref) {v : Value} (hdg : decode cc pc = .ok (.getfield index, 3)) (ha : g a = some (.inr (ci, fs))) (hv : fs[i]? = some v) (k : Go p l e R s m args below meth c D cl A nL Q g cells slots (pc + 3) lv (v :: rest)) : Go p l e R s m args below meth c D cl A nL Q g cells slots pc lv (.ref a :: rest) := by
  intro H locs ls hP hS hl
  obtain ⟨L, q0, hL, hP0, hD, hm, hk⟩ := hP.at ha
  exact va_get X.1.1 X.1.2.1 X.1.2.2.2.2 hin X.1.2.2.2.1 X.2.1.1 hP0 q0 hk hc i hi (X.1.2.2.2.2 _ hlink) (fun x h => by rw [← hsame]; exact h) hv hdg (k H locs ls hP hS hl)
theorem go_put (X : Cx p s m args c D cl A nL cc own Ts tys) {ref C : String} {T : u_T} {N ci index : Nat} {fs : List Value} (hin : ∀ w ∈ u_ws C T N, w ∈ Ts) (hc : cl[ci]? = some (C, T, N)) (i : Nat) (hi : i < N) (hlink : Cond.fieldLink own index ref (T i).2.1 (T i).2.2.1 ∈ Ts) (hsame : (T i).1 = ref) (ty0 : Nat → FieldType) (hty : ∀ k, k < N → parseFieldDescriptor (T k).2.2.1 = some (ty0 k)) (hnm : ∀ a, a < N → ∀ b, b < N → a ≠ b → (T a).2.1 ≠ (T b).2.1) (hfin : (T i).2.2.2 = false) {v : Value} (hn : narrow (ty0 i) v = v) (hfit : fits (ty0 i) v = true) (hdg : decode cc pc = .ok (.putfield index, 3)) (ha : g a = some (.inr (ci, fs))) (hl0 : i < fs.length) (k : Go p l e R s m args below meth c D cl A nL Q (va_up g a (some (.inr (ci, fs.set i v)))) cells slots (pc + 3) lv rest) : Go p l e R s m args below meth c D cl A nL Q g cells slots pc lv (v :: .ref a :: rest) := by
  intro H locs ls hP hS hl
  obtain ⟨L, q0, hL, hP0, hD, hm, hk⟩ := hP.at ha
  exact va_put X.1.1 X.1.2.1 X.1.2.2.2.2 hin ty0 hty hnm X.1.2.2.2.1 X.2.1.1 hP0 hD hS q0 hk hc i hi (X.1.2.2.2.2 _ hlink) (fun x h => by rw [← hsame]; exact h) hfin (hty i hi) hn hfit hl0 hdg (fun H1 locs1 hP1 hD1 hS1 => k H1 locs1 ls (PW.set ha hL hD hm hk hP1 hD1) hS1 hl)
theorem go_putF (X : Cx p s m args c D cl A nL cc own Ts tys) {ref C : String} {T : u_T} {N ci index : Nat} {fs : List Value} (hin : ∀ w ∈ u_ws C T N, w ∈ Ts) (hc : cl[ci]? = some (C, T, N)) (i : Nat) (hi : i < N) (hlink : Cond.fieldLink own index ref (T i).2.1 (T i).2.2.1 ∈ Ts) (hsame : (T i).1 = ref) (ty0 : Nat → FieldType) (hty : ∀ k, k < N → parseFieldDescriptor (T k).2.2.1 = some (ty0 k)) (hnm : ∀ a, a < N → ∀ b, b < N → a ≠ b → (T a).2.1 ≠ (T b).2.1) (hfin : (T i).2.2.2 = true) (hin2 : meth.name = "<init>") (hdecl : (T i).1 = own) {v : Value} (hn : narrow (ty0 i) v = v) (hfit : fits (ty0 i) v = true) (hdg : decode cc pc = .ok (.putfield index, 3)) (ha : g a = some (.inr (ci, fs))) (hl0 : i < fs.length) (k : Go p l e R s m args below meth c D cl A nL Q (va_up g a (some (.inr (ci, fs.set i v)))) cells slots (pc + 3) lv rest) : Go p l e R s m args below meth c D cl A nL Q g cells slots pc lv (v :: .ref a :: rest) := by
  intro H locs ls hP hS hl
  obtain ⟨L, q0, hL, hP0, hD, hm, hk⟩ := hP.at ha
  exact va_putF X.1.1 X.1.2.1 X.1.2.2.2.2 hin ty0 hty hnm X.1.2.2.2.1 X.2.1.1 hP0 hD hS q0 hk hc i hi (X.1.2.2.2.2 _ hlink) (fun x h => by rw [← hsame]; exact h) hfin hin2 hdecl (hty i hi) hn hfit hl0 hdg (fun H1 locs1 hP1 hD1 hS1 => k H1 locs1 ls (PW.set ha hL hD hm hk hP1 hD1) hS1 hl)
theorem go_getN (X : Cx p s m args c D cl A nL cc own Ts tys) {host : String} {ref C : String} {T : u_T} {N ci index : Nat} {fs : List Value} (hin : ∀ w ∈ u_ws C T N, w ∈ Ts) (hc : cl[ci]? = some (C, T, N)) (i : Nat) (hi : i < N) (hlink : Cond.fieldLinkNest own index ref (T i).2.1 (T i).2.2.1 host ∈ Ts) (hsame : (T i).1 = ref) {v : Value} (hdg : decode cc pc = .ok (.getfield index, 3)) (ha : g a = some (.inr (ci, fs))) (hv : fs[i]? = some v) (k : Go p l e R s m args below meth c D cl A nL Q g cells slots (pc + 3) lv (v :: rest)) : Go p l e R s m args below meth c D cl A nL Q g cells slots pc lv (.ref a :: rest) := by
  intro H locs ls hP hS hl
  obtain ⟨L, q0, hL, hP0, hD, hm, hk⟩ := hP.at ha
  exact va_getN X.1.1 X.1.2.1 X.1.2.2.2.2 hin X.1.2.2.2.1 X.2.1.1 hP0 q0 hk hc i hi (X.1.2.2.2.2 _ hlink) (fun x h => by rw [← hsame]; exact h) hv hdg (k H locs ls hP hS hl)
theorem go_putN (X : Cx p s m args c D cl A nL cc own Ts tys) {host : String} {ref C : String} {T : u_T} {N ci index : Nat} {fs : List Value} (hin : ∀ w ∈ u_ws C T N, w ∈ Ts) (hc : cl[ci]? = some (C, T, N)) (i : Nat) (hi : i < N) (hlink : Cond.fieldLinkNest own index ref (T i).2.1 (T i).2.2.1 host ∈ Ts) (hsame : (T i).1 = ref) (ty0 : Nat → FieldType) (hty : ∀ k, k < N → parseFieldDescriptor (T k).2.2.1 = some (ty0 k)) (hnm : ∀ a, a < N → ∀ b, b < N → a ≠ b → (T a).2.1 ≠ (T b).2.1) (hfin : (T i).2.2.2 = false) {v : Value} (hn : narrow (ty0 i) v = v) (hfit : fits (ty0 i) v = true) (hdg : decode cc pc = .ok (.putfield index, 3)) (ha : g a = some (.inr (ci, fs))) (hl0 : i < fs.length) (k : Go p l e R s m args below meth c D cl A nL Q (va_up g a (some (.inr (ci, fs.set i v)))) cells slots (pc + 3) lv rest) : Go p l e R s m args below meth c D cl A nL Q g cells slots pc lv (v :: .ref a :: rest) := by
  intro H locs ls hP hS hl
  obtain ⟨L, q0, hL, hP0, hD, hm, hk⟩ := hP.at ha
  exact va_putN X.1.1 X.1.2.1 X.1.2.2.2.2 hin ty0 hty hnm X.1.2.2.2.1 X.2.1.1 hP0 hD hS q0 hk hc i hi (X.1.2.2.2.2 _ hlink) (fun x h => by rw [← hsame]; exact h) hfin (hty i hi) hn hfit hl0 hdg (fun H1 locs1 hP1 hD1 hS1 => k H1 locs1 ls (PW.set ha hL hD hm hk hP1 hD1) hS1 hl)
theorem go_iald (X : Cx p s m args c D cl A nL cc own Ts tys) (t0 : Nat) {cA : ClassId} {n : Nat} {f : Nat → Int32} {i : Int32} (ht : tys[t0]? = some (cA, .int)) (hdg : decode cc pc = .ok (.iaload, 1)) (ha : g a = some (.inl (cA, n, .inl f))) (hin : vp_in i n) (k : Go p l e R s m args below meth c D cl A nL Q g cells slots (pc + 1) lv (.int (f i.toNatClampNeg) :: rest)) : Go p l e R s m args below meth c D cl A nL Q g cells slots pc lv (.int i :: .ref a :: rest) := by
  intro H locs ls hP hS hl
  obtain ⟨L, q0, hL, hP0, hD, hm, hk⟩ := hP.at ha
  exact va_iald X.1.1 X.1.2.1 X.2.1.1 hP0 q0 t0 hk ht hin hdg (k H locs ls hP hS hl)
theorem go_iast (X : Cx p s m args c D cl A nL cc own Ts tys) (t0 : Nat) {cA : ClassId} {n : Nat} {f : Nat → Int32} {i : Int32} {x : Int32} (ht : tys[t0]? = some (cA, .int)) (hdg : decode cc pc = .ok (.iastore, 1)) (ha : g a = some (.inl (cA, n, .inl f))) (hin : vp_in i n) (k : Go p l e R s m args below meth c D cl A nL Q (va_up g a (some (.inl (cA, n, .inl (upd f i.toNatClampNeg x))))) cells slots (pc + 1) lv rest) : Go p l e R s m args below meth c D cl A nL Q g cells slots pc lv (.int x :: .int i :: .ref a :: rest) := by
  intro H locs ls hP hS hl
  obtain ⟨L, q0, hL, hP0, hD, hm, hk⟩ := hP.at ha
  exact va_iast X.1.1 X.1.2.1 X.2.1.1 hP0 hD hS q0 t0 hk ht hin hdg (fun H1 locs1 hP1 hD1 hS1 => k H1 locs1 ls (PW.set ha hL hD hm hk hP1 hD1) hS1 hl)
theorem go_lald (X : Cx p s m args c D cl A nL cc own Ts tys) (t0 : Nat) {cA : ClassId} {n : Nat} {f : Nat → Int64} {i : Int32} (ht : tys[t0]? = some (cA, .long)) (hdg : decode cc pc = .ok (.laload, 1)) (ha : g a = some (.inl (cA, n, .inr (.inl f)))) (hin : vp_in i n) (k : Go p l e R s m args below meth c D cl A nL Q g cells slots (pc + 1) lv (.long (f i.toNatClampNeg) :: rest)) : Go p l e R s m args below meth c D cl A nL Q g cells slots pc lv (.int i :: .ref a :: rest) := by
  intro H locs ls hP hS hl
  obtain ⟨L, q0, hL, hP0, hD, hm, hk⟩ := hP.at ha
  exact va_lald X.1.1 X.1.2.1 X.2.1.1 hP0 q0 t0 hk ht hin hdg (k H locs ls hP hS hl)
theorem go_last (X : Cx p s m args c D cl A nL cc own Ts tys) (t0 : Nat) {cA : ClassId} {n : Nat} {f : Nat → Int64} {i : Int32} {x : Int64} (ht : tys[t0]? = some (cA, .long)) (hdg : decode cc pc = .ok (.lastore, 1)) (ha : g a = some (.inl (cA, n, .inr (.inl f)))) (hin : vp_in i n) (k : Go p l e R s m args below meth c D cl A nL Q (va_up g a (some (.inl (cA, n, .inr (.inl (vp_updL f i.toNatClampNeg x)))))) cells slots (pc + 1) lv rest) : Go p l e R s m args below meth c D cl A nL Q g cells slots pc lv (.long x :: .int i :: .ref a :: rest) := by
  intro H locs ls hP hS hl
  obtain ⟨L, q0, hL, hP0, hD, hm, hk⟩ := hP.at ha
  exact va_last X.1.1 X.1.2.1 X.2.1.1 hP0 hD hS q0 t0 hk ht hin hdg (fun H1 locs1 hP1 hD1 hS1 => k H1 locs1 ls (PW.set ha hL hD hm hk hP1 hD1) hS1 hl)
theorem go_zald (X : Cx p s m args c D cl A nL cc own Ts tys) (t0 : Nat) {cA : ClassId} {n : Nat} {f : Nat → Int32} {i : Int32} (ht : tys[t0]? = some (cA, .boolean)) (hdg : decode cc pc = .ok (.baload, 1)) (ha : g a = some (.inl (cA, n, .inl f))) (hin : vp_in i n) (k : Go p l e R s m args below meth c D cl A nL Q g cells slots (pc + 1) lv (.int (f i.toNatClampNeg) :: rest)) : Go p l e R s m args below meth c D cl A nL Q g cells slots pc lv (.int i :: .ref a :: rest) := by
  intro H locs ls hP hS hl
  obtain ⟨L, q0, hL, hP0, hD, hm, hk⟩ := hP.at ha
  exact va_zald X.1.1 X.1.2.1 X.2.1.1 hP0 q0 t0 hk ht hin hdg (k H locs ls hP hS hl)
theorem go_zast (X : Cx p s m args c D cl A nL cc own Ts tys) (t0 : Nat) {cA : ClassId} {n : Nat} {f : Nat → Int32} {i : Int32} {x : Int32} (ht : tys[t0]? = some (cA, .boolean)) (hdg : decode cc pc = .ok (.bastore, 1)) (ha : g a = some (.inl (cA, n, .inl f))) (hin : vp_in i n) (k : Go p l e R s m args below meth c D cl A nL Q (va_up g a (some (.inl (cA, n, .inl (upd f i.toNatClampNeg (vp_nar .boolean x)))))) cells slots (pc + 1) lv rest) : Go p l e R s m args below meth c D cl A nL Q g cells slots pc lv (.int x :: .int i :: .ref a :: rest) := by
  intro H locs ls hP hS hl
  obtain ⟨L, q0, hL, hP0, hD, hm, hk⟩ := hP.at ha
  exact va_zast X.1.1 X.1.2.1 X.2.1.1 hP0 hD hS q0 t0 hk ht hin hdg (fun H1 locs1 hP1 hD1 hS1 => k H1 locs1 ls (PW.set ha hL hD hm hk hP1 hD1) hS1 hl)
theorem go_aald (X : Cx p s m args c D cl A nL cc own Ts tys) (t0 : Nat) {cA : ClassId} {C : String} {n : Nat} {f : Nat → Option Nat} {i : Int32} (ht : tys[t0]? = some (cA, .object C)) (hdg : decode cc pc = .ok (.aaload, 1)) (ha : g a = some (.inl (cA, n, .inr (.inr (.inr (.inr f)))))) (hin : vp_in i n) (k : Go p l e R s m args below meth c D cl A nL Q g cells slots (pc + 1) lv (va_rf (f i.toNatClampNeg) :: rest)) : Go p l e R s m args below meth c D cl A nL Q g cells slots pc lv (.int i :: .ref a :: rest) := by
  intro H locs ls hP hS hl
  obtain ⟨L, q0, hL, hP0, hD, hm, hk⟩ := hP.at ha
  exact va_aldq X.1.1 X.1.2.1 X.2.1.1 hP0 q0 t0 hk ht hin hdg (k H locs ls hP hS hl)
theorem go_aast (X : Cx p s m args c D cl A nL cc own Ts tys) (t0 ci : Nat) {cA : ClassId} {r : vw_C} {n v : Nat} {vs : List Value} {f : Nat → Option Nat} {i : Int32} (ht : tys[t0]? = some (cA, .object r.1)) (hc : cl[ci]? = some r) (hdg : decode cc pc = .ok (.aastore, 1)) (ha : g a = some (.inl (cA, n, .inr (.inr (.inr (.inr f)))))) (hv : g v = some (.inr (ci, vs))) (hin : vp_in i n) (k : Go p l e R s m args below meth c D cl A nL Q (va_up g a (some (.inl (cA, n, .inr (.inr (.inr (.inr (va_up f i.toNatClampNeg (some v))))))))) cells slots (pc + 1) lv rest) : Go p l e R s m args below meth c D cl A nL Q g cells slots pc lv (.ref v :: .int i :: .ref a :: rest) := by
  intro H locs ls hP hS hl
  obtain ⟨L, q0, hL, hP0, hD, hm, hk⟩ := hP.at ha
  obtain ⟨qk, hqk⟩ := va_pl_get (X := []) (f := gf g) ((hL v).mpr ⟨_, hv⟩)
  rw [List.nil_append, gf_some hv] at hqk
  exact va_astq X.1.1 X.1.2.1 X.2.1.1 hP0 hD hS q0 t0 qk ci hk ht hqk hc hin hdg (fun H1 locs1 hP1 hD1 hS1 => k H1 locs1 ls (PW.set ha hL hD hm hk hP1 hD1) hS1 hl)
theorem go_alen (X : Cx p s m args c D cl A nL cc own Ts tys) (t0 : Nat) {cA : ClassId} {x : vp_A} {ty : FieldType} {v : Int32} (ht : tys[t0]? = some (cA, ty)) (hdg : decode cc pc = .ok (.arraylength, 1)) (ha : g a = some (.inl (cA, x))) (hv : Int32.ofNat x.1 = v) (k : Go p l e R s m args below meth c D cl A nL Q g cells slots (pc + 1) lv (.int v :: rest)) : Go p l e R s m args below meth c D cl A nL Q g cells slots pc lv (.ref a :: rest) := by
  intro H locs ls hP hS hl
  obtain ⟨L, q0, hL, hP0, hD, hm, hk⟩ := hP.at ha
  exact va_alen X.1.1 X.1.2.1 X.2.1.1 hP0 q0 t0 hk ht hv hdg (k H locs ls hP hS hl)
theorem go_newa (X : Cx p s m args c D cl A nL cc own Ts tys) (t0 : Nat) {atype : ArrayType} {ty : FieldType} {cA : ClassId} {n : Int32} {N : Nat} {a0 : vp_A} (ht : tys[t0]? = some (cA, ty)) (hty : newarray.typeOf atype = ty) (hrf : ∀ C, ty ≠ .object C) (harr : Cond.arrayClass (newarray.typeOf atype) ∈ Ts) (ha0 : ∀ cA : ClassId, vp_cell cA a0 = arrV cA N (fun _ => defaultValue ty)) (hn : ¬ n < 0) (hN : n.toNatClampNeg = N) (hbytes : N * componentBytes ty ≤ 536870912) (hcells : cells + 1 ≤ R.cells) (hslots : slots + N ≤ R.slots) (hdg : decode cc pc = .ok (.newarray atype, 2)) (k : ∀ q : Nat, g q = none → Go p l e R s m args below meth c D cl A nL Q (va_up g q (some (.inl (cA, a0)))) (cells + 1) (slots + N) (pc + 2) lv (.ref q :: rest)) : Go p l e R s m args below meth c D cl A nL Q g cells slots pc lv (.int n :: rest) := by
  intro H locs ls hP hS hl
  obtain ⟨L, hL, hP0, hD⟩ := hP
  refine va_newa X.1.1 X.1.2.1 (X.1.2.2.2.2 _ harr) hty X.2.1.1 hP0 hD hS X.2.2 ha0 hn hN hbytes hcells hslots hdg (fun q cB H1 hK1 hP1 hD1 hS1 => ?_)
  have hB := (hK1.2 tys.length (cB, ty) (by simp)).2
  have hA := (X.2.1.1.2 t0 (cA, ty) ht).2
  have hAB : cB = cA := by
    cases ty with
    | object C => exact absurd rfl (hrf C)
    | _ => exact Option.some.inj (hB.symm.trans hA)
  subst hAB
  obtain ⟨hq, hP2⟩ := PW.push hL hP1 hD1
  exact k q hq H1 locs ls hP2 hS1 hl
theorem go_newq (X : Cx p s m args c D cl A nL cc own Ts tys) (t0 : Nat) {C : String} {index : Nat} {cA : ClassId} {n : Int32} {N : Nat} (ht : tys[t0]? = some (cA, .object C)) (hclink : Cond.classLink own index C ∈ Ts) (hover : va_AO C s) (hn : ¬ n < 0) (hN : n.toNatClampNeg = N) (hbytes : N * 4 ≤ 536870912) (hcells : cells + 1 ≤ R.cells) (hslots : slots + N ≤ R.slots) (hdg : decode cc pc = .ok (.anewarray index, 3)) (k : ∀ q : Nat, g q = none → Go p l e R s m args below meth c D cl A nL Q (va_up g q (some (.inl (cA, N, .inr (.inr (.inr (.inr (fun _ => none)))))))) (cells + 1) (slots + N) (pc + 3) lv (.ref q :: rest)) : Go p l e R s m args below meth c D cl A nL Q g cells slots pc lv (.int n :: rest) := by
  intro H locs ls hP hS hl
  obtain ⟨L, hL, hP0, hD⟩ := hP
  refine va_newq X.1.1 X.1.2.1 X.1.2.2.2.1 (X.1.2.2.2.2 _ hclink) hover X.2.1.1 hP0 hD hS X.2.2 hn hN hbytes hcells hslots hdg (fun q cB H1 hK1 hP1 hD1 hS1 => ?_)
  obtain ⟨_, _, _, _, _, hB⟩ := (hK1.2 tys.length (cB, .object C) (by simp)).2
  obtain ⟨_, _, _, _, _, hA⟩ := (X.2.1.1.2 t0 (cA, .object C) ht).2
  have hAB : cB = cA := Option.some.inj (hB.symm.trans hA)
  subst hAB
  obtain ⟨hq, hP2⟩ := PW.push hL hP1 hD1
  exact k q hq H1 locs ls hP2 hS1 hl
theorem go_new (X : Cx p s m args c D cl A nL cc own Ts tys) {C : String} {T : u_T} {N ci index : Nat} {fs : List Value} (hin : ∀ w ∈ u_ws C T N, w ∈ Ts) (ty0 : Nat → FieldType) (hty : ∀ k, k < N → parseFieldDescriptor (T k).2.2.1 = some (ty0 k)) (hcl : Cond.classLink own index C ∈ Ts) (hinst : Cond.instantiable C N ∈ Ts) (hini : Cond.initialized C ∈ Ts) (hc : cl[ci]? = some (C, T, N)) (hfs : ∀ j, j < N → defaultValue (ty0 j) = vp_V fs j) (hcells : cells + 1 ≤ R.cells) (hslots : slots + N ≤ R.slots) (hdg : decode cc pc = .ok (.new index, 3)) (k : ∀ q : Nat, g q = none → Go p l e R s m args below meth c D cl A nL Q (va_up g q (some (.inr (ci, fs)))) (cells + 1) (slots + N) (pc + 3) lv (.ref q :: rest)) : Go p l e R s m args below meth c D cl A nL Q g cells slots pc lv rest := by
  intro H locs ls hP hS hl
  obtain ⟨L, hL, hP0, hD⟩ := hP
  refine va_new X.1.1 X.1.2.1 X.1.2.2.2.2 hin ty0 hty X.1.2.2.2.1 (X.1.2.2.2.2 _ hcl) (X.1.2.2.2.2 _ hinst) (X.1.2.2.2.2 _ hini) X.2.1.1 hP0 hD hS X.2.2 hc hfs hcells hslots hdg (fun q H1 hP1 hD1 hS1 => ?_)
  obtain ⟨hq, hP2⟩ := PW.push hL hP1 hD1
  exact k q hq H1 locs ls hP2 hS1 hl
theorem go_widen {k n : Nat} (h1 : cells ≤ k) (h2 : slots ≤ n) (kk : Go p l e R s m args below meth c D cl A nL Q g k n pc lv rest) : Go p l e R s m args below meth c D cl A nL Q g cells slots pc lv rest :=
  fun H locs ls hP hS hl => W.widen h1 h2 (kk H locs ls hP hS hl)
theorem go_sub {lv' : List (Nat × Value)} (ks : List Nat) (h : lv_pick lv ks = lv') (k : Go p l e R s m args below meth c D cl A nL Q g cells slots pc lv' rest) : Go p l e R s m args below meth c D cl A nL Q g cells slots pc lv rest :=
  fun H locs ls hP hS hl => k H locs ls hP hS (lv_sub hl ks h)
theorem go_objInit (X : Cx p s m args c D cl A nL cc own Ts tys) {idx : Nat} (hlink : Cond.methodLink own idx objectInit ∈ Ts) (hinst : Cond.instanceMethod objectInit ∈ Ts) (hcode : Cond.code objectInit ⟨#[0xb1]⟩ 1 none ∈ Ts) (hd : decode cc pc = .ok (.invokespecial idx, 3)) (hframes : 1 ≤ R.frames) (hlocals : (rest.map fun v => v.category).sum + 12 ≤ R.locals) (k : Go p l e R s m args below meth c D cl A nL Q g cells slots (pc + 3) lv rest) : Go p l e R s m args below meth c D cl A nL Q g cells slots pc lv (.ref a :: rest) := by
  intro H locs ls hP hS hl
  refine W.objInit X.1.1 X.1.2.1 X.1.2.2.2.1 (X.1.2.2.2.2 _ hlink) (X.1.2.2.2.2 _ hinst) (X.1.2.2.2.2 _ hcode) rfl (by rw [X.1.2.2.1]; exact hl.1) rfl hd hframes (by show 2 * 0 + _ + 12 ≤ _; omega) ?_
  exact k H locs ls hP hS hl
def CtI (l : Launch) (D : va_G) (cl : List vw_C) (tys : List (ClassId × FieldType)) (y : MethodName) (b : ByteArray) (nM : Nat) (ret : Option FieldType) (rm : Room) (av : List Value) (g : Nat → Option va_E) (post : Int32 → (Nat → Option va_E) → Prop) : Prop :=
  ∀ sz : Nat, Met l y (Cond.code y b nM ret :: gtb) rm (va_Pc av (fun U => U.heap.size = sz ∧ PW D cl (fun _ => True) g U.heap ∧ Kx D cl tys U)) (va_Qi post (fun (g' : Nat → Option va_E) (t : State) => PW D cl (gA g sz) g' t.heap) (gA g sz)) rm.cells rm.slots (gA g sz)
def CtL (l : Launch) (D : va_G) (cl : List vw_C) (tys : List (ClassId × FieldType)) (y : MethodName) (b : ByteArray) (nM : Nat) (ret : Option FieldType) (rm : Room) (av : List Value) (g : Nat → Option va_E) (post : Int64 → (Nat → Option va_E) → Prop) : Prop :=
  ∀ sz : Nat, Met l y (Cond.code y b nM ret :: gtb) rm (va_Pc av (fun U => U.heap.size = sz ∧ PW D cl (fun _ => True) g U.heap ∧ Kx D cl tys U)) (va_Ql post (fun (g' : Nat → Option va_E) (t : State) => PW D cl (gA g sz) g' t.heap) (gA g sz)) rm.cells rm.slots (gA g sz)
def CtV (l : Launch) (D : va_G) (cl : List vw_C) (tys : List (ClassId × FieldType)) (y : MethodName) (b : ByteArray) (nM : Nat) (ret : Option FieldType) (rm : Room) (av : List Value) (g : Nat → Option va_E) (post : (Nat → Option va_E) → Prop) : Prop :=
  ∀ sz : Nat, Met l y (Cond.code y b nM ret :: gtb) rm (va_Pc av (fun U => U.heap.size = sz ∧ PW D cl (fun _ => True) g U.heap ∧ Kx D cl tys U)) (va_Qv post (fun (g' : Nat → Option va_E) (t : State) => PW D cl (gA g sz) g' t.heap) (gA g sz)) rm.cells rm.slots (gA g sz)
def CtR (l : Launch) (D : va_G) (cl : List vw_C) (tys : List (ClassId × FieldType)) (y : MethodName) (b : ByteArray) (nM : Nat) (ret : Option FieldType) (rm : Room) (av : List Value) (g : Nat → Option va_E) (post : Option Nat → (Nat → Option va_E) → Prop) : Prop :=
  ∀ sz : Nat, Met l y (Cond.code y b nM ret :: gtb) rm (va_Pc av (fun U => U.heap.size = sz ∧ PW D cl (fun _ => True) g U.heap ∧ Kx D cl tys U)) (va_Qq post (fun (g' : Nat → Option va_E) (t : State) => PW D cl (gA g sz) g' t.heap) (gA g sz)) rm.cells rm.slots (gA g sz)
theorem gA_in {s : State} {H : Heap} {locs : List Loc} {D : va_G} {cl : List vw_C} {A : Nat → Prop} {g : Nat → Option va_E} (hP : PW D cl A g H) (hS : va_S A s.heap H locs) (hA : ∀ q, s.heap.size ≤ q → A q) : ∀ q, gA g H.size q → A q := by
  intro q h
  rcases h with ⟨e, h⟩ | h
  · exact hP.inA h
  · exact hA q (Nat.le_trans hS.1 h)
theorem pw_blind {D : va_G} {cl : List vw_C} {tys : List (ClassId × FieldType)} {g : Nat → Option va_E} {av : List Value} {sz : Nat} : FrameBlind (va_Pc av (fun U => U.heap.size = sz ∧ PW D cl (fun _ => True) g U.heap ∧ Kx D cl tys U)) := by
  intro b U f mk q
  obtain ⟨q0, q1, qP, qK⟩ := q
  exact ⟨q0, q1, qP, ⟨va_K.moved (u := U) (U := U.calling f mk b) (Vm.Alike.refl U.vm) qK.1, va_AO.moved (u := U) (U := U.calling f mk b) (Vm.Alike.refl U.vm) qK.2.1, va_AO.moved (u := U) (U := U.calling f mk b) (Vm.Alike.refl U.vm) qK.2.2.1, va_Nw.same rfl rfl qK.2.2.2⟩⟩
theorem pw_preS {s : State} {H : Heap} {D : va_G} {cl : List vw_C} {tys : List (ClassId × FieldType)} {A : Nat → Prop} {g : Nat → Option va_E} {av : List Value} (hK : Kx D cl tys s) (hP : PW D cl A g H) : PreS s H (va_Pc av (fun U => U.heap.size = H.size ∧ PW D cl (fun _ => True) g U.heap ∧ Kx D cl tys U)) av :=
  ⟨pw_blind, fun U hU hW => ⟨rfl, by rw [hU], by rw [hU]; exact hP.weaken (fun _ _ _ _ => trivial), hK.warm hW⟩⟩
theorem pw_preV {s : State} {H : Heap} {D : va_G} {cl : List vw_C} {tys : List (ClassId × FieldType)} {A : Nat → Prop} {g : Nat → Option va_E} {As : List Value} {b ci : Nat} {r : vw_C} {fs : List Value} (hK : Kx D cl tys s) (hP : PW D cl A g H) (hc : cl[ci]? = some r) (hb : g b = some (.inr (ci, fs))) : PreV s H r.1 b (va_Pc (.ref b :: As) (fun U => U.heap.size = H.size ∧ PW D cl (fun _ => True) g U.heap ∧ Kx D cl tys U)) As := by
  obtain ⟨L, q0, hL, hP0, hD, hm, hk⟩ := hP.at hb
  exact ⟨pw_blind, va_recv hK.1 hP0 hc hk, fun U hU hW => ⟨rfl, by rw [hU], by rw [hU]; exact hP.weaken (fun _ _ _ _ => trivial), hK.warm hW⟩⟩
theorem gd_all {w : Cond} (h : w ∈ gtb) : w ∈ gtb ∧ ((w.onTables && w.keeps) = true ∨ ∃ ty, w = .arrayClass ty) := ⟨h, good_of_word (List.mem_filter.mp h).2⟩
/-- what a method's call needs of the tables, once for each method -/
def CwV (C : String) (y : MethodName) (b : ByteArray) (nM : Nat) (ret : Option FieldType) (n : Nat) : Prop := Cond.instanceMethod y ∈ gtb ∧ Cond.selects C y y ∈ gtb ∧ Cond.initialized C ∈ gtb ∧ Cond.code y b nM ret ∈ gtb ∧ y.cls = C ∧ y.cls ≠ "java/lang/invoke/MethodHandle" ∧ y.cls ≠ "java/lang/invoke/VarHandle" ∧ (parseMethodDescriptor y.desc).map (fun d => d.parameters.length) = some n
def CwS (own : String) (y : MethodName) (b : ByteArray) (nM : Nat) (ret : Option FieldType) (n : Nat) : Prop := Cond.static y ∈ gtb ∧ Cond.initialized own ∈ gtb ∧ Cond.code y b nM ret ∈ gtb ∧ y.cls = own ∧ y.cls ≠ "java/lang/invoke/MethodHandle" ∧ y.cls ≠ "java/lang/invoke/VarHandle" ∧ (parseMethodDescriptor y.desc).map (fun d => d.parameters.length) = some n
def CwI (y : MethodName) (b : ByteArray) (nM : Nat) (n : Nat) : Prop := Cond.instanceMethod y ∈ gtb ∧ Cond.initialized y.cls ∈ gtb ∧ Cond.code y b nM none ∈ gtb ∧ y.name = "<init>" ∧ y.cls ≠ "java/lang/invoke/MethodHandle" ∧ y.cls ≠ "java/lang/invoke/VarHandle" ∧ (parseMethodDescriptor y.desc).map (fun d => d.parameters.length) = some n
theorem gd_code {y : MethodName} {b : ByteArray} {nM : Nat} {ret : Option FieldType} (hc : Cond.code y b nM ret ∈ gtb) : GoodIn gtb (Cond.code y b nM ret :: gtb) := fun w hw => gd_all ((List.mem_cons.mp hw).elim (fun h => by rw [h]; exact hc) id)
theorem gd_V {own C : String} {index : Nat} {y : MethodName} {b : ByteArray} {nM n : Nat} {ret : Option FieldType} (hml : Cond.methodLink own index y ∈ gtb) (h : CwV C y b nM ret n) : GoodIn gtb (wsV own index C y (Cond.code y b nM ret :: gtb)) := by
  intro w hw
  obtain ⟨h1, h2, h3, h4, -⟩ := h
  refine gd_all ?_
  rcases List.mem_append.mp hw with hw | hw
  · simp only [List.mem_cons, List.not_mem_nil, or_false] at hw
    rcases hw with rfl | rfl | rfl | rfl <;> assumption
  · exact (List.mem_cons.mp hw).elim (fun h => by rw [h]; exact h4) id
theorem gd_S {own : String} {index : Nat} {y : MethodName} {b : ByteArray} {nM n : Nat} {ret : Option FieldType} (hml : Cond.methodLink own index y ∈ gtb) (h : CwS own y b nM ret n) : GoodIn gtb (wsS own index y (Cond.code y b nM ret :: gtb)) := by
  intro w hw
  obtain ⟨h1, h2, h3, -⟩ := h
  refine gd_all ?_
  rcases List.mem_append.mp hw with hw | hw
  · simp only [List.mem_cons, List.not_mem_nil, or_false] at hw
    rcases hw with rfl | rfl | rfl <;> assumption
  · exact (List.mem_cons.mp hw).elim (fun h => by rw [h]; exact h3) id
theorem go_callI_V (X : Cx p s m args c D cl A nL cc own gtb tys) {y : MethodName} {bytes : ByteArray} {nM n index : Nat} {ret : Option FieldType} {rm : Room} {b ci : Nat} {r0 : vw_C} {fs : List Value} {As st0 : List Value} {post : Int32 → (Nat → Option va_E) → Prop} (hM : CtI l D cl tys y bytes nM ret rm (.ref b :: As) g post) (hml : Cond.methodLink own index y ∈ gtb) (hw : CwV r0.1 y bytes nM ret n) (hR : rm.frames + 1 ≤ R.frames ∧ 8 + (nM + 11) + rm.locals ≤ R.locals) (hc : cl[ci]? = some r0) (hb : g b = some (.inr (ci, fs))) (hn : As.length = n) (hst : st0 = As.reverse ++ .ref b :: rest) (hW : (rest.map fun v => v.category).sum ≤ 8) (hdg : decode cc pc = .ok (.invokevirtual index, 3)) (hf : cells + rm.cells ≤ R.cells ∧ slots + rm.slots ≤ R.slots) (k : ∀ (r : Int32) (g' : Nat → Option va_E), post r g' → Go p l e R s m args below meth c D cl A nL Q g' (cells + rm.cells) (slots + rm.slots) (pc + 3) lv (.int r :: rest)) : Go p l e R s m args below meth c D cl A nL Q g cells slots pc lv st0 := by
  intro H locs ls hP hS hl
  refine va_calli (va_runV (rest := rest) X.1 (hM H.size) (cwV n X.1.2.2.2.2 (gd_V hml hw) rfl rfl rfl hw.2.2.2.2 hR) (pw_preV X.2.1 hP hc hb) rfl hn hl.1 hst (lv_room hW) hdg hf) hS (fun q _ h => gA_in hP hS X.2.2 q h) (fun q h => gA_in hP hS X.2.2 q h) (fun r u t H1 locs1 ht hvm hw hB hz1 hk1 hS1 => ?_)
  have hP1 : PW D cl (gA g H.size) u t.heap := hB
  rw [ht] at hP1
  exact k r u hw H1 locs1 ls (hP1.weaken (fun q _ _ h => gA_in hP hS X.2.2 q h)) hS1 hl
theorem go_callI_S (X : Cx p s m args c D cl A nL cc own gtb tys) {y : MethodName} {bytes : ByteArray} {nM n index : Nat} {ret : Option FieldType} {rm : Room} {As st0 : List Value} {post : Int32 → (Nat → Option va_E) → Prop} (hM : CtI l D cl tys y bytes nM ret rm As g post) (hml : Cond.methodLink own index y ∈ gtb) (hw : CwS own y bytes nM ret n) (hR : rm.frames + 1 ≤ R.frames ∧ 8 + (nM + 11) + rm.locals ≤ R.locals)  (hn : As.length = n) (hst : st0 = As.reverse ++ rest) (hW : (rest.map fun v => v.category).sum ≤ 8) (hdg : decode cc pc = .ok (.invokestatic index, 3)) (hf : cells + rm.cells ≤ R.cells ∧ slots + rm.slots ≤ R.slots) (k : ∀ (r : Int32) (g' : Nat → Option va_E), post r g' → Go p l e R s m args below meth c D cl A nL Q g' (cells + rm.cells) (slots + rm.slots) (pc + 3) lv (.int r :: rest)) : Go p l e R s m args below meth c D cl A nL Q g cells slots pc lv st0 := by
  intro H locs ls hP hS hl
  refine va_calli (va_runS (rest := rest) X.1 (hM H.size) (cwS n X.1.2.2.2.2 (gd_S hml hw) rfl rfl rfl hw.2.2.2 hR) (pw_preS X.2.1 hP) rfl hn hl.1 hst (lv_room hW) hdg hf) hS (fun q _ h => gA_in hP hS X.2.2 q h) (fun q h => gA_in hP hS X.2.2 q h) (fun r u t H1 locs1 ht hvm hw hB hz1 hk1 hS1 => ?_)
  have hP1 : PW D cl (gA g H.size) u t.heap := hB
  rw [ht] at hP1
  exact k r u hw H1 locs1 ls (hP1.weaken (fun q _ _ h => gA_in hP hS X.2.2 q h)) hS1 hl
theorem go_callL_V (X : Cx p s m args c D cl A nL cc own gtb tys) {y : MethodName} {bytes : ByteArray} {nM n index : Nat} {ret : Option FieldType} {rm : Room} {b ci : Nat} {r0 : vw_C} {fs : List Value} {As st0 : List Value} {post : Int64 → (Nat → Option va_E) → Prop} (hM : CtL l D cl tys y bytes nM ret rm (.ref b :: As) g post) (hml : Cond.methodLink own index y ∈ gtb) (hw : CwV r0.1 y bytes nM ret n) (hR : rm.frames + 1 ≤ R.frames ∧ 8 + (nM + 11) + rm.locals ≤ R.locals) (hc : cl[ci]? = some r0) (hb : g b = some (.inr (ci, fs))) (hn : As.length = n) (hst : st0 = As.reverse ++ .ref b :: rest) (hW : (rest.map fun v => v.category).sum ≤ 8) (hdg : decode cc pc = .ok (.invokevirtual index, 3)) (hf : cells + rm.cells ≤ R.cells ∧ slots + rm.slots ≤ R.slots) (k : ∀ (r : Int64) (g' : Nat → Option va_E), post r g' → Go p l e R s m args below meth c D cl A nL Q g' (cells + rm.cells) (slots + rm.slots) (pc + 3) lv (.long r :: rest)) : Go p l e R s m args below meth c D cl A nL Q g cells slots pc lv st0 := by
  intro H locs ls hP hS hl
  refine va_calll (va_runV (rest := rest) X.1 (hM H.size) (cwV n X.1.2.2.2.2 (gd_V hml hw) rfl rfl rfl hw.2.2.2.2 hR) (pw_preV X.2.1 hP hc hb) rfl hn hl.1 hst (lv_room hW) hdg hf) hS (fun q _ h => gA_in hP hS X.2.2 q h) (fun q h => gA_in hP hS X.2.2 q h) (fun r u t H1 locs1 ht hvm hw hB hz1 hk1 hS1 => ?_)
  have hP1 : PW D cl (gA g H.size) u t.heap := hB
  rw [ht] at hP1
  exact k r u hw H1 locs1 ls (hP1.weaken (fun q _ _ h => gA_in hP hS X.2.2 q h)) hS1 hl
theorem go_callL_S (X : Cx p s m args c D cl A nL cc own gtb tys) {y : MethodName} {bytes : ByteArray} {nM n index : Nat} {ret : Option FieldType} {rm : Room} {As st0 : List Value} {post : Int64 → (Nat → Option va_E) → Prop} (hM : CtL l D cl tys y bytes nM ret rm As g post) (hml : Cond.methodLink own index y ∈ gtb) (hw : CwS own y bytes nM ret n) (hR : rm.frames + 1 ≤ R.frames ∧ 8 + (nM + 11) + rm.locals ≤ R.locals)  (hn : As.length = n) (hst : st0 = As.reverse ++ rest) (hW : (rest.map fun v => v.category).sum ≤ 8) (hdg : decode cc pc = .ok (.invokestatic index, 3)) (hf : cells + rm.cells ≤ R.cells ∧ slots + rm.slots ≤ R.slots) (k : ∀ (r : Int64) (g' : Nat → Option va_E), post r g' → Go p l e R s m args below meth c D cl A nL Q g' (cells + rm.cells) (slots + rm.slots) (pc + 3) lv (.long r :: rest)) : Go p l e R s m args below meth c D cl A nL Q g cells slots pc lv st0 := by
  intro H locs ls hP hS hl
  refine va_calll (va_runS (rest := rest) X.1 (hM H.size) (cwS n X.1.2.2.2.2 (gd_S hml hw) rfl rfl rfl hw.2.2.2 hR) (pw_preS X.2.1 hP) rfl hn hl.1 hst (lv_room hW) hdg hf) hS (fun q _ h => gA_in hP hS X.2.2 q h) (fun q h => gA_in hP hS X.2.2 q h) (fun r u t H1 locs1 ht hvm hw hB hz1 hk1 hS1 => ?_)
  have hP1 : PW D cl (gA g H.size) u t.heap := hB
  rw [ht] at hP1
  exact k r u hw H1 locs1 ls (hP1.weaken (fun q _ _ h => gA_in hP hS X.2.2 q h)) hS1 hl
theorem go_callV_V (X : Cx p s m args c D cl A nL cc own gtb tys) {y : MethodName} {bytes : ByteArray} {nM n index : Nat} {ret : Option FieldType} {rm : Room} {b ci : Nat} {r0 : vw_C} {fs : List Value} {As st0 : List Value} {post : (Nat → Option va_E) → Prop} (hM : CtV l D cl tys y bytes nM ret rm (.ref b :: As) g post) (hml : Cond.methodLink own index y ∈ gtb) (hw : CwV r0.1 y bytes nM ret n) (hR : rm.frames + 1 ≤ R.frames ∧ 8 + (nM + 11) + rm.locals ≤ R.locals) (hc : cl[ci]? = some r0) (hb : g b = some (.inr (ci, fs))) (hn : As.length = n) (hst : st0 = As.reverse ++ .ref b :: rest) (hW : (rest.map fun v => v.category).sum ≤ 8) (hdg : decode cc pc = .ok (.invokevirtual index, 3)) (hf : cells + rm.cells ≤ R.cells ∧ slots + rm.slots ≤ R.slots) (k : ∀ (g' : Nat → Option va_E), post g' → Go p l e R s m args below meth c D cl A nL Q g' (cells + rm.cells) (slots + rm.slots) (pc + 3) lv (rest)) : Go p l e R s m args below meth c D cl A nL Q g cells slots pc lv st0 := by
  intro H locs ls hP hS hl
  refine va_callv (va_runV (rest := rest) X.1 (hM H.size) (cwV n X.1.2.2.2.2 (gd_V hml hw) rfl rfl rfl hw.2.2.2.2 hR) (pw_preV X.2.1 hP hc hb) rfl hn hl.1 hst (lv_room hW) hdg hf) hS (fun q _ h => gA_in hP hS X.2.2 q h) (fun q h => gA_in hP hS X.2.2 q h) (fun u t H1 locs1 ht hvm hw hB hz1 hk1 hS1 => ?_)
  have hP1 : PW D cl (gA g H.size) u t.heap := hB
  rw [ht] at hP1
  exact k u hw H1 locs1 ls (hP1.weaken (fun q _ _ h => gA_in hP hS X.2.2 q h)) hS1 hl
theorem go_callV_S (X : Cx p s m args c D cl A nL cc own gtb tys) {y : MethodName} {bytes : ByteArray} {nM n index : Nat} {ret : Option FieldType} {rm : Room} {As st0 : List Value} {post : (Nat → Option va_E) → Prop} (hM : CtV l D cl tys y bytes nM ret rm As g post) (hml : Cond.methodLink own index y ∈ gtb) (hw : CwS own y bytes nM ret n) (hR : rm.frames + 1 ≤ R.frames ∧ 8 + (nM + 11) + rm.locals ≤ R.locals)  (hn : As.length = n) (hst : st0 = As.reverse ++ rest) (hW : (rest.map fun v => v.category).sum ≤ 8) (hdg : decode cc pc = .ok (.invokestatic index, 3)) (hf : cells + rm.cells ≤ R.cells ∧ slots + rm.slots ≤ R.slots) (k : ∀ (g' : Nat → Option va_E), post g' → Go p l e R s m args below meth c D cl A nL Q g' (cells + rm.cells) (slots + rm.slots) (pc + 3) lv (rest)) : Go p l e R s m args below meth c D cl A nL Q g cells slots pc lv st0 := by
  intro H locs ls hP hS hl
  refine va_callv (va_runS (rest := rest) X.1 (hM H.size) (cwS n X.1.2.2.2.2 (gd_S hml hw) rfl rfl rfl hw.2.2.2 hR) (pw_preS X.2.1 hP) rfl hn hl.1 hst (lv_room hW) hdg hf) hS (fun q _ h => gA_in hP hS X.2.2 q h) (fun q h => gA_in hP hS X.2.2 q h) (fun u t H1 locs1 ht hvm hw hB hz1 hk1 hS1 => ?_)
  have hP1 : PW D cl (gA g H.size) u t.heap := hB
  rw [ht] at hP1
  exact k u hw H1 locs1 ls (hP1.weaken (fun q _ _ h => gA_in hP hS X.2.2 q h)) hS1 hl
theorem go_callV_I (X : Cx p s m args c D cl A nL cc own gtb tys) {y : MethodName} {bytes : ByteArray} {nM n index : Nat} {rm : Room} {b : Nat} {As st0 : List Value} {post : (Nat → Option va_E) → Prop} (hM : CtV l D cl tys y bytes nM none rm (.ref b :: As) g post) (hml : Cond.methodLink own index y ∈ gtb) (hw : CwI y bytes nM n) (hR : rm.frames + 1 ≤ R.frames ∧ 8 + (nM + 11) + rm.locals ≤ R.locals)  (hn : As.length = n) (hst : st0 = As.reverse ++ .ref b :: rest) (hW : (rest.map fun v => v.category).sum ≤ 8) (hdg : decode cc pc = .ok (.invokespecial index, 3)) (hf : cells + rm.cells ≤ R.cells ∧ slots + rm.slots ≤ R.slots) (k : ∀ (g' : Nat → Option va_E), post g' → Go p l e R s m args below meth c D cl A nL Q g' (cells + rm.cells) (slots + rm.slots) (pc + 3) lv (rest)) : Go p l e R s m args below meth c D cl A nL Q g cells slots pc lv st0 := by
  intro H locs ls hP hS hl
  refine va_callv (va_runI (rest := rest) X.1 (hM H.size) (cwI n X.1.2.2.2.2 (gd_code hw.2.2.1) rfl rfl rfl (X.1.2.2.2.2 _ hw.2.1) (X.1.2.2.2.2 _ hml) (X.1.2.2.2.2 _ hw.1) hw.2.2.2.1 hw.2.2.2.2 hR) (pw_preS X.2.1 hP) rfl hn hl.1 hst (lv_room hW) hdg hf) hS (fun q _ h => gA_in hP hS X.2.2 q h) (fun q h => gA_in hP hS X.2.2 q h) (fun u t H1 locs1 ht hvm hw hB hz1 hk1 hS1 => ?_)
  have hP1 : PW D cl (gA g H.size) u t.heap := hB
  rw [ht] at hP1
  exact k u hw H1 locs1 ls (hP1.weaken (fun q _ _ h => gA_in hP hS X.2.2 q h)) hS1 hl
theorem go_callV_IN (X : Cx p s m args c D cl A nL cc own gtb tys) {y : MethodName} {bytes : ByteArray} {nM n index : Nat} {rm : Room} {b : Nat} {As st0 : List Value} {post : (Nat → Option va_E) → Prop} (hM : CtV l D cl tys y bytes nM none rm (.ref b :: As) g post) {host : String} (hml : va_Nw (.methodLinkNest own index y host) s) (hw : CwI y bytes nM n) (hR : rm.frames + 1 ≤ R.frames ∧ 8 + (nM + 11) + rm.locals ≤ R.locals)  (hn : As.length = n) (hst : st0 = As.reverse ++ .ref b :: rest) (hW : (rest.map fun v => v.category).sum ≤ 8) (hdg : decode cc pc = .ok (.invokespecial index, 3)) (hf : cells + rm.cells ≤ R.cells ∧ slots + rm.slots ≤ R.slots) (k : ∀ (g' : Nat → Option va_E), post g' → Go p l e R s m args below meth c D cl A nL Q g' (cells + rm.cells) (slots + rm.slots) (pc + 3) lv (rest)) : Go p l e R s m args below meth c D cl A nL Q g cells slots pc lv st0 := by
  intro H locs ls hP hS hl
  refine va_callv (va_runIN (rest := rest) X.1 (hM H.size) (⟨va_cnB n X.1.2.2.2.2 (gd_code hw.2.2.1) rfl rfl rfl hml (X.1.2.2.2.2 _ hw.2.1) hw.2.2.2.2 hR, hw.2.2.2.1, X.1.2.2.2.2 _ hw.1⟩) (pw_preS X.2.1 hP) rfl hn hl.1 hst (lv_room hW) hdg hf) hS (fun q _ h => gA_in hP hS X.2.2 q h) (fun q h => gA_in hP hS X.2.2 q h) (fun u t H1 locs1 ht hvm hw hB hz1 hk1 hS1 => ?_)
  have hP1 : PW D cl (gA g H.size) u t.heap := hB
  rw [ht] at hP1
  exact k u hw H1 locs1 ls (hP1.weaken (fun q _ _ h => gA_in hP hS X.2.2 q h)) hS1 hl
theorem go_callR_V (X : Cx p s m args c D cl A nL cc own gtb tys) {y : MethodName} {bytes : ByteArray} {nM n index : Nat} {ret : Option FieldType} {rm : Room} {b ci : Nat} {r0 : vw_C} {fs : List Value} {As st0 : List Value} {post : Option Nat → (Nat → Option va_E) → Prop} (hM : CtR l D cl tys y bytes nM ret rm (.ref b :: As) g post) (hml : Cond.methodLink own index y ∈ gtb) (hw : CwV r0.1 y bytes nM ret n) (hR : rm.frames + 1 ≤ R.frames ∧ 8 + (nM + 11) + rm.locals ≤ R.locals) (hc : cl[ci]? = some r0) (hb : g b = some (.inr (ci, fs))) (hn : As.length = n) (hst : st0 = As.reverse ++ .ref b :: rest) (hW : (rest.map fun v => v.category).sum ≤ 8) (hdg : decode cc pc = .ok (.invokevirtual index, 3)) (hf : cells + rm.cells ≤ R.cells ∧ slots + rm.slots ≤ R.slots) (k : ∀ (r : Option Nat) (g' : Nat → Option va_E), post r g' → Go p l e R s m args below meth c D cl A nL Q g' (cells + rm.cells) (slots + rm.slots) (pc + 3) lv (va_rf r :: rest)) : Go p l e R s m args below meth c D cl A nL Q g cells slots pc lv st0 := by
  intro H locs ls hP hS hl
  refine va_callq (va_runV (rest := rest) X.1 (hM H.size) (cwV n X.1.2.2.2.2 (gd_V hml hw) rfl rfl rfl hw.2.2.2.2 hR) (pw_preV X.2.1 hP hc hb) rfl hn hl.1 hst (lv_room hW) hdg hf) hS (fun q _ h => gA_in hP hS X.2.2 q h) (fun q h => gA_in hP hS X.2.2 q h) (fun r u t H1 locs1 ht hvm hw hB hz1 hk1 hS1 => ?_)
  have hP1 : PW D cl (gA g H.size) u t.heap := hB
  rw [ht] at hP1
  exact k r u hw H1 locs1 ls (hP1.weaken (fun q _ _ h => gA_in hP hS X.2.2 q h)) hS1 hl
theorem go_callR_S (X : Cx p s m args c D cl A nL cc own gtb tys) {y : MethodName} {bytes : ByteArray} {nM n index : Nat} {ret : Option FieldType} {rm : Room} {As st0 : List Value} {post : Option Nat → (Nat → Option va_E) → Prop} (hM : CtR l D cl tys y bytes nM ret rm As g post) (hml : Cond.methodLink own index y ∈ gtb) (hw : CwS own y bytes nM ret n) (hR : rm.frames + 1 ≤ R.frames ∧ 8 + (nM + 11) + rm.locals ≤ R.locals)  (hn : As.length = n) (hst : st0 = As.reverse ++ rest) (hW : (rest.map fun v => v.category).sum ≤ 8) (hdg : decode cc pc = .ok (.invokestatic index, 3)) (hf : cells + rm.cells ≤ R.cells ∧ slots + rm.slots ≤ R.slots) (k : ∀ (r : Option Nat) (g' : Nat → Option va_E), post r g' → Go p l e R s m args below meth c D cl A nL Q g' (cells + rm.cells) (slots + rm.slots) (pc + 3) lv (va_rf r :: rest)) : Go p l e R s m args below meth c D cl A nL Q g cells slots pc lv st0 := by
  intro H locs ls hP hS hl
  refine va_callq (va_runS (rest := rest) X.1 (hM H.size) (cwS n X.1.2.2.2.2 (gd_S hml hw) rfl rfl rfl hw.2.2.2 hR) (pw_preS X.2.1 hP) rfl hn hl.1 hst (lv_room hW) hdg hf) hS (fun q _ h => gA_in hP hS X.2.2 q h) (fun q h => gA_in hP hS X.2.2 q h) (fun r u t H1 locs1 ht hvm hw hB hz1 hk1 hS1 => ?_)
  have hP1 : PW D cl (gA g H.size) u t.heap := hB
  rw [ht] at hP1
  exact k r u hw H1 locs1 ls (hP1.weaken (fun q _ _ h => gA_in hP hS X.2.2 q h)) hS1 hl
theorem go_retI {g0 : Nat → Option va_E} (X : Cx p s m args c D cl (gA g0 s.heap.size) nL cc own Ts tys) {v : Int32} {post : Int32 → (Nat → Option va_E) → Prop} (hr : meth.sig.returnType = some .int) (hlocks : meth.locks = false) (hdg : decode cc pc = .ok (.ireturn, 1)) (hp : post v g) : Go p l e R s m args below meth c D cl (gA g0 s.heap.size) nL (MQ below (va_Qi post (fun (g' : Nat → Option va_E) (t : State) => PW D cl (gA g0 s.heap.size) g' t.heap) (gA g0 s.heap.size)) args s cells slots (gA g0 s.heap.size)) g cells slots pc lv [.int v] :=
  fun H locs ls hP hS hl => W.iret X.1.1 X.1.2.1 hr (fun t ht hW => ⟨⟨v, g, rfl, hp, by show PW _ _ _ _ t.heap; rw [ht]; exact hP⟩, hS.F ht⟩) hS.2.2 hdg hlocks
theorem go_retZ {g0 : Nat → Option va_E} (X : Cx p s m args c D cl (gA g0 s.heap.size) nL cc own Ts tys) {v : Int32} {ty : FieldType} {post : Int32 → (Nat → Option va_E) → Prop} (hr : meth.sig.returnType = some ty) (hn : narrow ty (.int v) = .int v) (hlocks : meth.locks = false) (hdg : decode cc pc = .ok (.ireturn, 1)) (hp : post v g) : Go p l e R s m args below meth c D cl (gA g0 s.heap.size) nL (MQ below (va_Qi post (fun (g' : Nat → Option va_E) (t : State) => PW D cl (gA g0 s.heap.size) g' t.heap) (gA g0 s.heap.size)) args s cells slots (gA g0 s.heap.size)) g cells slots pc lv [.int v] :=
  fun H locs ls hP hS hl => W.zret X.1.1 X.1.2.1 hr hn (fun t ht hW => ⟨⟨v, g, rfl, hp, by show PW _ _ _ _ t.heap; rw [ht]; exact hP⟩, hS.F ht⟩) hS.2.2 hdg hlocks
theorem go_retL {g0 : Nat → Option va_E} (X : Cx p s m args c D cl (gA g0 s.heap.size) nL cc own Ts tys) {v : Int64} {post : Int64 → (Nat → Option va_E) → Prop} (hr : meth.sig.returnType = some .long) (hlocks : meth.locks = false) (hdg : decode cc pc = .ok (.lreturn, 1)) (hp : post v g) : Go p l e R s m args below meth c D cl (gA g0 s.heap.size) nL (MQ below (va_Ql post (fun (g' : Nat → Option va_E) (t : State) => PW D cl (gA g0 s.heap.size) g' t.heap) (gA g0 s.heap.size)) args s cells slots (gA g0 s.heap.size)) g cells slots pc lv [.long v] :=
  fun H locs ls hP hS hl => W.lret X.1.1 X.1.2.1 hr (fun t ht hW => ⟨⟨v, g, rfl, hp, by show PW _ _ _ _ t.heap; rw [ht]; exact hP⟩, hS.F ht⟩) hS.2.2 hdg hlocks
theorem go_retV {g0 : Nat → Option va_E} (X : Cx p s m args c D cl (gA g0 s.heap.size) nL cc own Ts tys) {post : (Nat → Option va_E) → Prop} (hr : meth.sig.returnType = none) (hlocks : meth.locks = false) (hdg : decode cc pc = .ok (.return_, 1)) (hp : post g) : Go p l e R s m args below meth c D cl (gA g0 s.heap.size) nL (MQ below (va_Qv post (fun (g' : Nat → Option va_E) (t : State) => PW D cl (gA g0 s.heap.size) g' t.heap) (gA g0 s.heap.size)) args s cells slots (gA g0 s.heap.size)) g cells slots pc lv [] :=
  fun H locs ls hP hS hl => W.vret X.1.1 X.1.2.1 hr (fun t ht hW => ⟨⟨g, rfl, hp, by show PW _ _ _ _ t.heap; rw [ht]; exact hP⟩, hS.F ht⟩) hS.2.2 hdg hlocks
theorem go_retR {g0 : Nat → Option va_E} (X : Cx p s m args c D cl (gA g0 s.heap.size) nL cc own Ts tys) {v : Option Nat} {rc : String} {post : Option Nat → (Nat → Option va_E) → Prop} (hr : meth.sig.returnType = some (.object rc)) (hlocks : meth.locks = false) (hdg : decode cc pc = .ok (.areturn, 1)) (hp : post v g) : Go p l e R s m args below meth c D cl (gA g0 s.heap.size) nL (MQ below (va_Qq post (fun (g' : Nat → Option va_E) (t : State) => PW D cl (gA g0 s.heap.size) g' t.heap) (gA g0 s.heap.size)) args s cells slots (gA g0 s.heap.size)) g cells slots pc lv [va_rf v] :=
  fun H locs ls hP hS hl => W.aret X.1.1 X.1.2.1 hr (Or.inl ⟨rc, rfl⟩) (by cases v with | none => exact Or.inl rfl | some b => exact Or.inr ⟨b, rfl⟩) (fun t ht hW => ⟨⟨v, g, rfl, hp, by show PW _ _ _ _ t.heap; rw [ht]; exact hP⟩, hS.F ht⟩) hS.2.2 hdg hlocks
theorem CtI.of {l : Launch} {D : va_G} {cl : List vw_C} {tys : List (ClassId × FieldType)} {y : MethodName} {rm : Room} {av : List Value} {g : Nat → Option va_E} {post : Int32 → (Nat → Option va_E) → Prop} {cc : ByteArray} {nL : Nat} {ret : Option FieldType} (hy : plainName y.cls = true) (hlen : (lg_sl av).length ≤ nL)
    (body : ∀ (p : Program) (e : Env) (s : State) (m : MethodId) (below : List Frame) (meth : Method) (c : Code), Cx p s m av.toArray c D cl (gA g s.heap.size) nL cc y.cls gtb tys → meth.sig.returnType = ret → meth.locks = false → meth.name = y.name →
      Go p l e rm s m av.toArray below meth c D cl (gA g s.heap.size) nL (MQ below (va_Qi post (fun (g' : Nat → Option va_E) (t : State) => PW D cl (gA g s.heap.size) g' t.heap) (gA g s.heap.size)) av.toArray s rm.cells rm.slots (gA g s.heap.size)) g 0 0 0 (lv_args 0 av) []) : CtI l D cl tys y cc nL ret rm av g post := by
  intro sz
  refine Met.ofW (cc := cc) (maxL := nL) (ret := ret) hy rfl ?_
  intro p e s m args below meth c s₁ B hml hv
  obtain ⟨rfl, hsz, hP, hK⟩ := hv
  subst hsz
  have hts := atoms_spec (ws := Cond.code y cc nL ret :: gtb) B.pre
  have hown : s.vm.findClass y.cls = some m.cls := findClass_of_methodNamed B.named
  have hl := lv_entry av (n := nL) hlen
  rw [lg_entry_eq]
  exact body p e s m below meth c ⟨⟨B.exec, B.bytes, hml, hown, fun w h => hts w (List.mem_cons_of_mem _ h)⟩, hK, fun q h => Or.inr h⟩ B.returns B.notSynchronized (name_of_methodNamed B.named B.method).1 s.heap [] _ (hP.weaken (fun q e h _ => Or.inl ⟨e, h⟩)) va_S.rf hl
theorem CtL.of {l : Launch} {D : va_G} {cl : List vw_C} {tys : List (ClassId × FieldType)} {y : MethodName} {rm : Room} {av : List Value} {g : Nat → Option va_E} {post : Int64 → (Nat → Option va_E) → Prop} {cc : ByteArray} {nL : Nat} {ret : Option FieldType} (hy : plainName y.cls = true) (hlen : (lg_sl av).length ≤ nL)
    (body : ∀ (p : Program) (e : Env) (s : State) (m : MethodId) (below : List Frame) (meth : Method) (c : Code), Cx p s m av.toArray c D cl (gA g s.heap.size) nL cc y.cls gtb tys → meth.sig.returnType = ret → meth.locks = false → meth.name = y.name →
      Go p l e rm s m av.toArray below meth c D cl (gA g s.heap.size) nL (MQ below (va_Ql post (fun (g' : Nat → Option va_E) (t : State) => PW D cl (gA g s.heap.size) g' t.heap) (gA g s.heap.size)) av.toArray s rm.cells rm.slots (gA g s.heap.size)) g 0 0 0 (lv_args 0 av) []) : CtL l D cl tys y cc nL ret rm av g post := by
  intro sz
  refine Met.ofW (cc := cc) (maxL := nL) (ret := ret) hy rfl ?_
  intro p e s m args below meth c s₁ B hml hv
  obtain ⟨rfl, hsz, hP, hK⟩ := hv
  subst hsz
  have hts := atoms_spec (ws := Cond.code y cc nL ret :: gtb) B.pre
  have hown : s.vm.findClass y.cls = some m.cls := findClass_of_methodNamed B.named
  have hl := lv_entry av (n := nL) hlen
  rw [lg_entry_eq]
  exact body p e s m below meth c ⟨⟨B.exec, B.bytes, hml, hown, fun w h => hts w (List.mem_cons_of_mem _ h)⟩, hK, fun q h => Or.inr h⟩ B.returns B.notSynchronized (name_of_methodNamed B.named B.method).1 s.heap [] _ (hP.weaken (fun q e h _ => Or.inl ⟨e, h⟩)) va_S.rf hl
theorem CtV.of {l : Launch} {D : va_G} {cl : List vw_C} {tys : List (ClassId × FieldType)} {y : MethodName} {rm : Room} {av : List Value} {g : Nat → Option va_E} {post : (Nat → Option va_E) → Prop} {cc : ByteArray} {nL : Nat} {ret : Option FieldType} (hy : plainName y.cls = true) (hlen : (lg_sl av).length ≤ nL)
    (body : ∀ (p : Program) (e : Env) (s : State) (m : MethodId) (below : List Frame) (meth : Method) (c : Code), Cx p s m av.toArray c D cl (gA g s.heap.size) nL cc y.cls gtb tys → meth.sig.returnType = ret → meth.locks = false → meth.name = y.name →
      Go p l e rm s m av.toArray below meth c D cl (gA g s.heap.size) nL (MQ below (va_Qv post (fun (g' : Nat → Option va_E) (t : State) => PW D cl (gA g s.heap.size) g' t.heap) (gA g s.heap.size)) av.toArray s rm.cells rm.slots (gA g s.heap.size)) g 0 0 0 (lv_args 0 av) []) : CtV l D cl tys y cc nL ret rm av g post := by
  intro sz
  refine Met.ofW (cc := cc) (maxL := nL) (ret := ret) hy rfl ?_
  intro p e s m args below meth c s₁ B hml hv
  obtain ⟨rfl, hsz, hP, hK⟩ := hv
  subst hsz
  have hts := atoms_spec (ws := Cond.code y cc nL ret :: gtb) B.pre
  have hown : s.vm.findClass y.cls = some m.cls := findClass_of_methodNamed B.named
  have hl := lv_entry av (n := nL) hlen
  rw [lg_entry_eq]
  exact body p e s m below meth c ⟨⟨B.exec, B.bytes, hml, hown, fun w h => hts w (List.mem_cons_of_mem _ h)⟩, hK, fun q h => Or.inr h⟩ B.returns B.notSynchronized (name_of_methodNamed B.named B.method).1 s.heap [] _ (hP.weaken (fun q e h _ => Or.inl ⟨e, h⟩)) va_S.rf hl
theorem CtR.of {l : Launch} {D : va_G} {cl : List vw_C} {tys : List (ClassId × FieldType)} {y : MethodName} {rm : Room} {av : List Value} {g : Nat → Option va_E} {post : Option Nat → (Nat → Option va_E) → Prop} {cc : ByteArray} {nL : Nat} {ret : Option FieldType} (hy : plainName y.cls = true) (hlen : (lg_sl av).length ≤ nL)
    (body : ∀ (p : Program) (e : Env) (s : State) (m : MethodId) (below : List Frame) (meth : Method) (c : Code), Cx p s m av.toArray c D cl (gA g s.heap.size) nL cc y.cls gtb tys → meth.sig.returnType = ret → meth.locks = false → meth.name = y.name →
      Go p l e rm s m av.toArray below meth c D cl (gA g s.heap.size) nL (MQ below (va_Qq post (fun (g' : Nat → Option va_E) (t : State) => PW D cl (gA g s.heap.size) g' t.heap) (gA g s.heap.size)) av.toArray s rm.cells rm.slots (gA g s.heap.size)) g 0 0 0 (lv_args 0 av) []) : CtR l D cl tys y cc nL ret rm av g post := by
  intro sz
  refine Met.ofW (cc := cc) (maxL := nL) (ret := ret) hy rfl ?_
  intro p e s m args below meth c s₁ B hml hv
  obtain ⟨rfl, hsz, hP, hK⟩ := hv
  subst hsz
  have hts := atoms_spec (ws := Cond.code y cc nL ret :: gtb) B.pre
  have hown : s.vm.findClass y.cls = some m.cls := findClass_of_methodNamed B.named
  have hl := lv_entry av (n := nL) hlen
  rw [lg_entry_eq]
  exact body p e s m below meth c ⟨⟨B.exec, B.bytes, hml, hown, fun w h => hts w (List.mem_cons_of_mem _ h)⟩, hK, fun q h => Or.inr h⟩ B.returns B.notSynchronized (name_of_methodNamed B.named B.method).1 s.heap [] _ (hP.weaken (fun q e h _ => Or.inl ⟨e, h⟩)) va_S.rf hl
theorem go_topi {x : Int32} (k : ∀ y : Int32, y = x → Go p l e R s m args below meth c D cl A nL Q g cells slots pc lv (.int y :: rest)) : Go p l e R s m args below meth c D cl A nL Q g cells slots pc lv (.int x :: rest) := k x rfl
theorem go_topl {x : Int64} (k : ∀ y : Int64, y = x → Go p l e R s m args below meth c D cl A nL Q g cells slots pc lv (.long y :: rest)) : Go p l e R s m args below meth c D cl A nL Q g cells slots pc lv (.long x :: rest) := k x rfl
theorem go_gen {g1 : Nat → Option va_E} (k : ∀ g2 : Nat → Option va_E, g2 = g1 → Go p l e R s m args below meth c D cl A nL Q g2 cells slots pc lv rest) : Go p l e R s m args below meth c D cl A nL Q g1 cells slots pc lv rest := k g1 rfl
theorem go_mmin (X : Cx p s m args c D cl A nL cc own Ts tys) {index : Nat} {x y : Int32} (hlink : Cond.methodLink own index Lib.Math.min.name ∈ Ts) (hstat : Cond.static Lib.Math.min.name ∈ Ts) (hini : Cond.initialized "java/lang/Math" ∈ Ts) (hcode : Cond.code Lib.Math.min.name Lib.Math.min.code 2 (some .int) ∈ Ts) (hdg : decode cc pc = .ok (.invokestatic index, 3)) (hframes : 1 ≤ R.frames) (hlocals : (rest.map fun v => v.category).sum + 13 ≤ R.locals) (hc : cells ≤ R.cells) (hs : slots ≤ R.slots) (k : Go p l e R s m args below meth c D cl A nL Q g cells slots (pc + 3) lv (.int (if y < x then y else x) :: rest)) : Go p l e R s m args below meth c D cl A nL Q g cells slots pc lv (.int y :: .int x :: rest) := by
  intro H locs ls hP hS hl
  exact va_mmin X.1.1 X.1.2.1 (X.1.2.2.1.trans hl.1.symm) X.1.2.2.2.1 (X.1.2.2.2.2 _ hlink) (X.1.2.2.2.2 _ hstat) (X.1.2.2.2.2 _ hini) (X.1.2.2.2.2 _ hcode) hframes hlocals hc hs hdg (k H locs ls hP hS hl)
theorem go_mmax (X : Cx p s m args c D cl A nL cc own Ts tys) {index : Nat} {x y : Int32} (hlink : Cond.methodLink own index Lib.Math.max.name ∈ Ts) (hstat : Cond.static Lib.Math.max.name ∈ Ts) (hini : Cond.initialized "java/lang/Math" ∈ Ts) (hcode : Cond.code Lib.Math.max.name Lib.Math.max.code 2 (some .int) ∈ Ts) (hdg : decode cc pc = .ok (.invokestatic index, 3)) (hframes : 1 ≤ R.frames) (hlocals : (rest.map fun v => v.category).sum + 13 ≤ R.locals) (hc : cells ≤ R.cells) (hs : slots ≤ R.slots) (k : Go p l e R s m args below meth c D cl A nL Q g cells slots (pc + 3) lv (.int (if x < y then y else x) :: rest)) : Go p l e R s m args below meth c D cl A nL Q g cells slots pc lv (.int y :: .int x :: rest) := by
  intro H locs ls hP hS hl
  exact va_mmax X.1.1 X.1.2.1 (X.1.2.2.1.trans hl.1.symm) X.1.2.2.2.1 (X.1.2.2.2.2 _ hlink) (X.1.2.2.2.2 _ hstat) (X.1.2.2.2.2 _ hini) (X.1.2.2.2.2 _ hcode) hframes hlocals hc hs hdg (k H locs ls hP hS hl)
theorem go_mmin_long (X : Cx p s m args c D cl A nL cc own Ts tys) {index : Nat} {x y : Int64} (hlink : Cond.methodLink own index Lib.MathLoose.min_long.x ∈ Ts) (hstat : Cond.static Lib.MathLoose.min_long.x ∈ Ts) (hini : Cond.initialized "java/lang/Math" ∈ Ts) (hcode : Cond.code Lib.MathLoose.min_long.x Lib.MathLoose.min_long.code 4 (some .long) ∈ Ts) (hdg : decode cc pc = .ok (.invokestatic index, 3)) (hframes : 1 ≤ R.frames) (hlocals : (rest.map fun v => v.category).sum + 15 ≤ R.locals) (hc : cells ≤ R.cells) (hs : slots ≤ R.slots) (k : Go p l e R s m args below meth c D cl A nL Q g cells slots (pc + 3) lv (.long (if y < x then y else x) :: rest)) : Go p l e R s m args below meth c D cl A nL Q g cells slots pc lv (.long y :: .long x :: rest) := by
  intro H locs ls hP hS hl
  exact va_mmin_long X.1.1 X.1.2.1 (X.1.2.2.1.trans hl.1.symm) X.1.2.2.2.1 (X.1.2.2.2.2 _ hlink) (X.1.2.2.2.2 _ hstat) (X.1.2.2.2.2 _ hini) (X.1.2.2.2.2 _ hcode) hframes hlocals hc hs hdg (k H locs ls hP hS hl)
end GO
