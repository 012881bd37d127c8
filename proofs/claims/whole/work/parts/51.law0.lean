/-! The law's own rows: its script, its longs, its switch. -/
/-! The claim's room, as far as the proof needs it: its own numbers are TURN's, and not the same at each. -/
theorem rm1_cells : 50000 ≤ room_1.cells := Nat.le_of_ble_eq_true rfl
theorem rm1_slots : 50000 ≤ room_1.slots := Nat.le_of_ble_eq_true rfl
/-- the law's script -/
def Scr (s : State) (A : Nat → Prop) (b L : Nat) (xs : Nat → Int32) : Prop := va_X b L xs s s.heap ∧ b < s.heap.size ∧ ¬ A b ∧ L ≤ 3072
def lawJ (x y : Int32) : Int64 := (x.toInt64 <<< ((32 : Int32).toInt64 &&& 63)) ||| (y.toInt64 &&& 4294967295)
abbrev lvL (i b q0 q1 : Nat) : List (Nat × Value) := [(3, .int (nI i)), (2, .ref q1), (1, .ref q0), (0, .ref b)]
section LAW0
variable {p : Program} {l : Launch} {e : Env} {R : Room} {s : State} {m : MethodId} {args : Array Value} {below : List Frame} {meth : Method} {c : Code} {D : va_G} {cl : List vw_C} {A : Nat → Prop} {nL : Nat} {Q : State → Prop} {g : Nat → Option va_E} {cells slots pc : Nat} {lv : List (Nat × Value)} {rest : List Value} {cc : ByteArray} {own : String} {Ts : List Cond} {tys : List (ClassId × FieldType)} {b L i q0 q1 : Nat} {xs : Nat → Int32}
theorem go_sld (X : Cx p s m args c D cl A nL cc own Ts tys) (hX : Scr s A b L xs) {j : Nat} (hin : j < L) (hdg : decode cc pc = .ok (.iaload, 1)) (k : Go p l e R s m args below meth c D cl A nL Q g cells slots (pc + 1) lv (.int (xs j) :: rest)) : Go p l e R s m args below meth c D cl A nL Q g cells slots pc lv (.int (nI j) :: .ref b :: rest) := by
  intro H locs ls hP hS hl
  have hL := hX.2.2.2
  refine va_sld X.1.1 X.1.2.1 hX.1 hX.2.1 hX.2.2.1 hS (i := nI j) (vp_in_nI hin (by omega)) hdg ?_
  rw [nI_clamp (by omega)]
  exact k H locs ls hP hS hl
theorem go_slen (X : Cx p s m args c D cl A nL cc own Ts tys) (hX : Scr s A b L xs) (hdg : decode cc pc = .ok (.arraylength, 1)) (k : Go p l e R s m args below meth c D cl A nL Q g cells slots (pc + 1) lv (.int (nI L) :: rest)) : Go p l e R s m args below meth c D cl A nL Q g cells slots pc lv (.ref b :: rest) := by
  intro H locs ls hP hS hl
  exact va_slen X.1.1 X.1.2.1 hX.1 hX.2.1 hX.2.2.1 hS hdg (k H locs ls hP hS hl)
theorem go_lshl (X : Cx p s m args c D cl A nL cc own Ts tys) {x v : Int64} {y : Int32} (hdg : decode cc pc = .ok (.lshl, 1)) (hv : x <<< (y.toInt64 &&& 63) = v) (k : Go p l e R s m args below meth c D cl A nL Q g cells slots (pc + 1) lv (.long v :: rest)) : Go p l e R s m args below meth c D cl A nL Q g cells slots pc lv (.int y :: .long x :: rest) :=
  fun H locs ls hP hS hl => lv_lshl X.1.1 X.1.2.1 hdg hv (k H locs ls hP hS hl)
theorem go_tabOut (X : Cx p s m args c D cl A nL cc own Ts tys) {dflt lo hi : Int} {offs : Array Int} {len : Nat} {x : Int32} {tgt : Nat} (hdg : decode cc pc = .ok (.tableswitch dflt lo hi offs, len)) (h : x.toInt < lo ∨ hi < x.toInt) (ht : (pc : Int) + dflt = (tgt : Int)) (k : Go p l e R s m args below meth c D cl A nL Q g cells slots tgt lv rest) : Go p l e R s m args below meth c D cl A nL Q g cells slots pc lv (.int x :: rest) :=
  fun H locs ls hP hS hl => lv_tableOut X.1.1 X.1.2.1 hdg h ht (k H locs ls hP hS hl)
theorem go_tabIn (X : Cx p s m args c D cl A nL cc own Ts tys) {dflt lo hi : Int} {offs : Array Int} {len : Nat} {x : Int32} {off : Int} {tgt : Nat} (hdg : decode cc pc = .ok (.tableswitch dflt lo hi offs, len)) (h1 : ¬ x.toInt < lo) (h2 : ¬ hi < x.toInt) (ho : offs[(x.toInt - lo).toNat]? = some off) (ht : (pc : Int) + off = (tgt : Int)) (k : Go p l e R s m args below meth c D cl A nL Q g cells slots tgt lv rest) : Go p l e R s m args below meth c D cl A nL Q g cells slots pc lv (.int x :: rest) :=
  fun H locs ls hP hS hl => lv_tableIn X.1.1 X.1.2.1 hdg h1 h2 ho ht (k H locs ls hP hS hl)
theorem go_cell (X : Cx p s m args c D cl A nL cc own Ts tys) (hX : Scr s A b L xs) (n : Nat) (hi : i + n < L) (d0 : decode cc pc = .ok (.aload_n 0, 1)) (d1 : decode cc (pc + 1) = .ok (.iload_n 3, 1)) (d2 : decode cc (pc + 2) = .ok (.iconst (n : Int), 1)) (d3 : decode cc (pc + 3) = .ok (.iadd, 1)) (d4 : decode cc (pc + 4) = .ok (.iaload, 1)) (k : Go p l e R s m args below meth c D cl A nL Q g cells slots (pc + 5) (lvL i b q0 q1) (.int (xs (i + n)) :: rest)) : Go p l e R s m args below meth c D cl A nL Q g cells slots pc (lvL i b q0 q1) rest := by
  refine go_aload_n X d0 rfl (z := 3) rfl ?_
  refine go_iload_n X d1 rfl (z := 0) rfl ?_
  refine go_iconst X (v := nI n) d2 (Int32.toInt_inj.mp (by rw [Int32.toInt_ofInt]; exact (Int32.toInt_ofNat' ).symm)) ?_
  refine go_iadd X d3 ?_
  rw [nI_add]
  exact go_sld X hX hi d4 k
theorem go_long (X : Cx p s m args c D cl A nL cc R_L gtb tys) (hX : Scr s A b L xs) (n : Nat) (hi : i + (n + 1) < L) (d0 : decode cc pc = .ok (.aload_n 0, 1)) (d1 : decode cc (pc + 1) = .ok (.iload_n 3, 1)) (d2 : decode cc (pc + 2) = .ok (.iconst (n : Int), 1)) (d3 : decode cc (pc + 3) = .ok (.iadd, 1)) (d4 : decode cc (pc + 4) = .ok (.iaload, 1)) (d5 : decode cc (pc + 5) = .ok (.i2l, 1)) (d6 : decode cc (pc + 6) = .ok (.bipush 32, 2)) (d8 : decode cc (pc + 8) = .ok (.lshl, 1)) (d9 : decode cc (pc + 9) = .ok (.aload_n 0, 1)) (d10 : decode cc (pc + 10) = .ok (.iload_n 3, 1)) (d11 : decode cc (pc + 11) = .ok (.iconst ((n + 1 : Nat) : Int), 1)) (d12 : decode cc (pc + 12) = .ok (.iadd, 1)) (d13 : decode cc (pc + 13) = .ok (.iaload, 1)) (d14 : decode cc (pc + 14) = .ok (.i2l, 1)) (d15 : decode cc (pc + 15) = .ok (.ldc2_w 13, 3)) (d18 : decode cc (pc + 18) = .ok (.land, 1)) (d19 : decode cc (pc + 19) = .ok (.lor, 1)) (k : Go p l e R s m args below meth c D cl A nL Q g cells slots (pc + 20) (lvL i b q0 q1) (.long (lawJ (xs (i + n)) (xs (i + (n + 1)))) :: rest)) : Go p l e R s m args below meth c D cl A nL Q g cells slots pc (lvL i b q0 q1) rest := by
  refine go_cell X hX n (by omega) d0 d1 d2 d3 d4 ?_
  refine go_i2l X d5 rfl ?_
  refine go_bipush X (v := 32) d6 (by decide) ?_
  refine go_lshl X d8 rfl ?_
  refine go_cell X hX (n + 1) hi d9 d10 d11 d12 d13 ?_
  refine go_i2l X d14 rfl ?_
  refine go_ldc2 X d15 gm_k_L_13 ?_
  refine go_land X d18 ?_
  refine go_lor X d19 ?_
  exact k
theorem go_bool (X : Cx p s m args c D cl A nL cc own Ts tys) {x : Int32} (d0 : decode cc pc = .ok (.ifCond .eq 7, 3)) (d3 : decode cc (pc + 3) = .ok (.iconst 1, 1)) (d4 : decode cc (pc + 4) = .ok (.goto 4, 3)) (d7 : decode cc (pc + 7) = .ok (.iconst 0, 1)) (k : Go p l e R s m args below meth c D cl A nL Q g cells slots (pc + 8) lv (.int (if x = 0 then 0 else 1) :: rest)) : Go p l e R s m args below meth c D cl A nL Q g cells slots pc lv (.int x :: rest) := by
  refine go_if_eq X d0 (tgt := pc + 7) (by omega) (fun h => ?_) (fun h => ?_)
  · refine go_iconst X (v := 0) d7 (by decide) ?_
    rw [if_pos h] at k
    exact k
  · refine go_iconst X (v := 1) d3 (by decide) ?_
    refine go_goto X d4 (tgt := pc + 8) (by omega) ?_
    rw [if_neg h] at k
    exact k
end LAW0
