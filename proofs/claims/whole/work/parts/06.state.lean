/-! The classes whose objects the worlds hold, the array types, a room and the call's words for each method. -/
abbrev classes : List vw_C := [(R_B, F_B, 13), (R_E, F_E, 3), (R_I, F_I, 8), (R_S, F_S, 6), (R_M, F_M, 25)]
abbrev tyL (dA : Nat → ClassId) : List (ClassId × FieldType) := [(dA 0, .int), (dA 1, .long), (dA 2, .boolean), (dA 3, .object "BeltSteps$Belt"), (dA 4, .object "BeltSteps$Item")]
theorem ne_fresh {g : Nat → Option va_E} {a b : Nat} {e : va_E} (h : g a = some e) (hb : g b = none) : a ≠ b := by
  intro q
  rw [q, hb] at h
  cases h
theorem ne_kind1 {g : Nat → Option va_E} {a b : Nat} {o : Nat × List Value} {x : ClassId × vp_A} (h : g a = some (.inr o)) (h2 : g b = some (.inl x)) : a ≠ b := by
  intro q
  rw [q, h2] at h
  cases h
theorem ne_kind2 {g : Nat → Option va_E} {a b : Nat} {o : Nat × List Value} {x : ClassId × vp_A} (h : g a = some (.inl x)) (h2 : g b = some (.inr o)) : a ≠ b := by
  intro q
  rw [q, h2] at h
  cases h
theorem ne_cls {g : Nat → Option va_E} {a b c1 c2 : Nat} {f1 f2 : List Value} (h : g a = some (.inr (c1, f1))) (h2 : g b = some (.inr (c2, f2))) (hc : c1 ≠ c2) : a ≠ b := by
  intro q
  rw [q, h2] at h
  cases h
  exact hc rfl
theorem ne_arr01 {g : Nat → Option va_E} {a b : Nat} {c1 c2 : ClassId} {n1 n2 : Nat} {f : Nat → Int32} {x : (Nat → Int64) ⊕ (Nat → UInt32) ⊕ (Nat → UInt64) ⊕ (Nat → Option Nat)} (h : g a = some (.inl (c1, n1, .inl f))) (h2 : g b = some (.inl (c2, n2, .inr x))) : a ≠ b := by
  intro q
  rw [q, h2] at h
  cases h
theorem ne_arr10 {g : Nat → Option va_E} {a b : Nat} {c1 c2 : ClassId} {n1 n2 : Nat} {f : Nat → Int32} {x : (Nat → Int64) ⊕ (Nat → UInt32) ⊕ (Nat → UInt64) ⊕ (Nat → Option Nat)} (h : g a = some (.inl (c2, n2, .inr x))) (h2 : g b = some (.inl (c1, n1, .inl f))) : a ≠ b := (ne_arr01 h2 h).symm
theorem ne_arr02 {g : Nat → Option va_E} {a b : Nat} {c1 c2 : ClassId} {n1 n2 : Nat} {f : Nat → Int32} {x : (Nat → Int64) ⊕ (Nat → UInt32) ⊕ (Nat → UInt64) ⊕ (Nat → Option Nat)} (h : g a = some (.inl (c1, n1, .inl f))) (h2 : g b = some (.inl (c2, n2, .inr x))) : a ≠ b := ne_arr01 h h2
theorem ne_arr20 {g : Nat → Option va_E} {a b : Nat} {c1 c2 : ClassId} {n1 n2 : Nat} {f : Nat → Int32} {x : (Nat → Int64) ⊕ (Nat → UInt32) ⊕ (Nat → UInt64) ⊕ (Nat → Option Nat)} (h : g a = some (.inl (c2, n2, .inr x))) (h2 : g b = some (.inl (c1, n1, .inl f))) : a ≠ b := ne_arr10 h h2
theorem ne_arr12 {g : Nat → Option va_E} {a b : Nat} {c1 c2 : ClassId} {n1 n2 : Nat} {f : Nat → Int64} {x : (Nat → UInt32) ⊕ (Nat → UInt64) ⊕ (Nat → Option Nat)} (h : g a = some (.inl (c1, n1, .inr (.inl f)))) (h2 : g b = some (.inl (c2, n2, .inr (.inr x)))) : a ≠ b := by
  intro q
  rw [q, h2] at h
  cases h
theorem ne_arr21 {g : Nat → Option va_E} {a b : Nat} {c1 c2 : ClassId} {n1 n2 : Nat} {f : Nat → Int64} {x : (Nat → UInt32) ⊕ (Nat → UInt64) ⊕ (Nat → Option Nat)} (h : g a = some (.inl (c2, n2, .inr (.inr x)))) (h2 : g b = some (.inl (c1, n1, .inr (.inl f)))) : a ≠ b := (ne_arr12 h2 h).symm
section GOQ
variable {p : Program} {l : Launch} {e : Env} {R : Room} {s : State} {m : MethodId} {args : Array Value} {below : List Frame} {meth : Method} {c : Code} {D : va_G} {cl : List vw_C} {A : Nat → Prop} {nL : Nat} {Q : State → Prop} {g : Nat → Option va_E} {cells slots pc : Nat} {lv : List (Nat × Value)} {rest : List Value} {cc : ByteArray} {own : String} {Ts : List Cond} {tys : List (ClassId × FieldType)} {a : Nat}
theorem go_aload_nQ (X : Cx p s m args c D cl A nL cc own Ts tys) {j : Fin 4} {i z : Nat} {r : Option Nat} (hdg : decode cc pc = .ok (.aload_n j, 1)) (hi : (j : Nat) = i) (hk : lv[z]? = some (i, va_rf r)) (k : Go p l e R s m args below meth c D cl A nL Q g cells slots (pc + 1) lv (va_rf r :: rest)) : Go p l e R s m args below meth c D cl A nL Q g cells slots pc lv rest := by
  cases r with
  | none => exact go_aload_nN X hdg hi hk k
  | some b => exact go_aload_n X hdg hi hk k
theorem go_aloadQ (X : Cx p s m args c D cl A nL cc own Ts tys) {i z : Nat} {r : Option Nat} (hdg : decode cc pc = .ok (.aload i, 2)) (hk : lv[z]? = some (i, va_rf r)) (k : Go p l e R s m args below meth c D cl A nL Q g cells slots (pc + 2) lv (va_rf r :: rest)) : Go p l e R s m args below meth c D cl A nL Q g cells slots pc lv rest := by
  cases r with
  | none => exact go_aloadN X hdg hk k
  | some b => exact go_aload X hdg hk k
theorem go_astore_nQ (X : Cx p s m args c D cl A nL cc own Ts tys) {j : Fin 4} {i : Nat} {r : Option Nat} {lv' : List (Nat × Value)} (hdg : decode cc pc = .ok (.astore_n j, 1)) (hi : (j : Nat) = i) (hn : i < nL) (hl' : (i, va_rf r) :: lv.filter (fun q => !(q.1 == i) && !(q.1 + 1 == i && q.2.category == 2)) = lv') (k : Go p l e R s m args below meth c D cl A nL Q g cells slots (pc + 1) lv' rest) : Go p l e R s m args below meth c D cl A nL Q g cells slots pc lv (va_rf r :: rest) := by
  cases r with
  | none => exact go_astore_nN X hdg hi hn hl' k
  | some b => exact go_astore_n X hdg hi hn hl' k
theorem go_astoreQ (X : Cx p s m args c D cl A nL cc own Ts tys) {i : Nat} {r : Option Nat} {lv' : List (Nat × Value)} (hdg : decode cc pc = .ok (.astore i, 2)) (hn : i < nL) (hl' : (i, va_rf r) :: lv.filter (fun q => !(q.1 == i) && !(q.1 + 1 == i && q.2.category == 2)) = lv') (k : Go p l e R s m args below meth c D cl A nL Q g cells slots (pc + 2) lv' rest) : Go p l e R s m args below meth c D cl A nL Q g cells slots pc lv (va_rf r :: rest) := by
  cases r with
  | none => exact go_astoreN X hdg hn hl' k
  | some b => exact go_astore X hdg hn hl' k
end GOQ
abbrev rm_S_init : Room := { frames := 2, cells := 4, slots := 1675, locals := 40 }
theorem cw_S_init : CwI y_S_init b_S_init 1 0 := ⟨gm_im_S_init, gm_ini_S, gm_code_S_init, rfl, by decide +kernel⟩
abbrev rm_E_init : Room := { frames := 1, cells := 1, slots := 1600, locals := 20 }
theorem cw_E_init : CwI y_E_init b_E_init 1 0 := ⟨gm_im_E_init, gm_ini_E, gm_code_E_init, rfl, by decide +kernel⟩
abbrev rm_S_belt : Room := { frames := 2, cells := 4, slots := 37, locals := 47 }
theorem cw_S_belt : CwV R_S y_S_belt b_S_belt 6 (some .int) 2 := ⟨gm_im_S_belt, gm_sel_S_belt, gm_ini_S, gm_code_S_belt, by decide +kernel⟩
abbrev rm_B_init : Room := { frames := 1, cells := 3, slots := 24, locals := 20 }
theorem cw_B_init : CwI y_B_init b_B_init 6 3 := ⟨gm_im_B_init, gm_ini_B, gm_code_B_init, rfl, by decide +kernel⟩
abbrev rm_B_layStages : Room := { frames := 1, cells := 0, slots := 0, locals := 23 }
theorem cw_B_layStages : CwV R_B y_B_layStages b_B_layStages 5 none 0 := ⟨gm_im_B_layStages, gm_sel_B_layStages, gm_ini_B, gm_code_B_layStages, by decide +kernel⟩
abbrev rm_S_join : Room := { frames := 1, cells := 0, slots := 0, locals := 21 }
theorem cw_S_join : CwV R_S y_S_join b_S_join 6 (some .int) 2 := ⟨gm_im_S_join, gm_sel_S_join, gm_ini_S, gm_code_S_join, by decide +kernel⟩
abbrev rm_S_beltNumbered : Room := { frames := 0, cells := 0, slots := 0, locals := 0 }
theorem cw_S_beltNumbered : CwV R_S y_S_beltNumbered b_S_beltNumbered 2 (some (.object "BeltSteps$Belt")) 1 := ⟨gm_im_S_beltNumbered, gm_sel_S_beltNumbered, gm_ini_S, gm_code_S_beltNumbered, by decide +kernel⟩
abbrev rm_S_feed : Room := { frames := 3, cells := 1, slots := 8, locals := 76 }
theorem cw_S_feed : CwV R_S y_S_feed b_S_feed 8 (some .int) 3 := ⟨gm_im_S_feed, gm_sel_S_feed, gm_ini_S, gm_code_S_feed, by decide +kernel⟩
abbrev rm_S_isNowOrLater : Room := { frames := 0, cells := 0, slots := 0, locals := 0 }
theorem cw_S_isNowOrLater : CwV R_S y_S_isNowOrLater b_S_isNowOrLater 3 (some .boolean) 1 := ⟨gm_im_S_isNowOrLater, gm_sel_S_isNowOrLater, gm_ini_S, gm_code_S_isNowOrLater, by decide +kernel⟩
abbrev rm_I_init : Room := { frames := 1, cells := 0, slots := 0, locals := 20 }
theorem cw_I_init : CwI y_I_init b_I_init 7 4 := ⟨gm_im_I_init, gm_ini_I, gm_code_I_init, rfl, by decide +kernel⟩
abbrev rm_I_comeOnto : Room := { frames := 2, cells := 0, slots := 0, locals := 51 }
theorem cw_I_comeOnto : CwV R_I y_I_comeOnto b_I_comeOnto 6 none 3 := ⟨gm_im_I_comeOnto, gm_sel_I_comeOnto, gm_ini_I, gm_code_I_comeOnto, by decide +kernel⟩
abbrev rm_B_wayAt : Room := { frames := 1, cells := 0, slots := 0, locals := 24 }
theorem cw_B_wayAt : CwV R_B y_B_wayAt b_B_wayAt 4 (some .long) 1 := ⟨gm_im_B_wayAt, gm_sel_B_wayAt, gm_ini_B, gm_code_B_wayAt, by decide +kernel⟩
abbrev rm_B_stageAt : Room := { frames := 0, cells := 0, slots := 0, locals := 0 }
theorem cw_B_stageAt : CwV R_B y_B_stageAt b_B_stageAt 5 (some .int) 1 := ⟨gm_im_B_stageAt, gm_sel_B_stageAt, gm_ini_B, gm_code_B_stageAt, by decide +kernel⟩
abbrev rm_I_aim : Room := { frames := 1, cells := 0, slots := 0, locals := 29 }
theorem cw_I_aim : CwV R_I y_I_aim b_I_aim 3 none 0 := ⟨gm_im_I_aim, gm_sel_I_aim, gm_ini_I, gm_code_I_aim, by decide +kernel⟩
abbrev rm_B_timeOfWay : Room := { frames := 0, cells := 0, slots := 0, locals := 0 }
theorem cw_B_timeOfWay : CwV R_B y_B_timeOfWay b_B_timeOfWay 10 (some .long) 1 := ⟨gm_im_B_timeOfWay, gm_sel_B_timeOfWay, gm_ini_B, gm_code_B_timeOfWay, by decide +kernel⟩
abbrev rm_S_step : Room := { frames := 6, cells := 0, slots := 0, locals := 148 }
theorem cw_S_step : CwV R_S y_S_step b_S_step 3 (some .int) 1 := ⟨gm_im_S_step, gm_sel_S_step, gm_ini_S, gm_code_S_step, by decide +kernel⟩
abbrev rm_S_passTo : Room := { frames := 5, cells := 0, slots := 0, locals := 123 }
theorem cw_S_passTo : CwV R_S y_S_passTo b_S_passTo 6 none 1 := ⟨gm_im_S_passTo, gm_sel_S_passTo, gm_ini_S, gm_code_S_passTo, by decide +kernel⟩
abbrev rm_S_nextTurn : Room := { frames := 0, cells := 0, slots := 0, locals := 0 }
theorem cw_S_nextTurn : CwV R_S y_S_nextTurn b_S_nextTurn 4 (some .long) 0 := ⟨gm_im_S_nextTurn, gm_sel_S_nextTurn, gm_ini_S, gm_code_S_nextTurn, by decide +kernel⟩
abbrev rm_S_moveItems : Room := { frames := 4, cells := 0, slots := 0, locals := 100 }
theorem cw_S_moveItems : CwV R_S y_S_moveItems b_S_moveItems 4 none 1 := ⟨gm_im_S_moveItems, gm_sel_S_moveItems, gm_ini_S, gm_code_S_moveItems, by decide +kernel⟩
abbrev rm_I_moveOver : Room := { frames := 3, cells := 0, slots := 0, locals := 76 }
theorem cw_I_moveOver : CwV R_I y_I_moveOver b_I_moveOver 5 none 1 := ⟨gm_im_I_moveOver, gm_sel_I_moveOver, gm_ini_I, gm_code_I_moveOver, by decide +kernel⟩
abbrev rm_S_tellEdges : Room := { frames := 3, cells := 0, slots := 0, locals := 80 }
theorem cw_S_tellEdges : CwV R_S y_S_tellEdges b_S_tellEdges 4 none 1 := ⟨gm_im_S_tellEdges, gm_sel_S_tellEdges, gm_ini_S, gm_code_S_tellEdges, by decide +kernel⟩
abbrev rm_S_tellEdgesOf : Room := { frames := 2, cells := 0, slots := 0, locals := 51 }
theorem cw_S_tellEdgesOf : CwV R_S y_S_tellEdgesOf b_S_tellEdgesOf 10 none 2 := ⟨gm_im_S_tellEdgesOf, gm_sel_S_tellEdgesOf, gm_ini_S, gm_code_S_tellEdgesOf, by decide +kernel⟩
abbrev rm_S_isShort : Room := { frames := 1, cells := 0, slots := 0, locals := 21 }
theorem cw_S_isShort : CwV R_S y_S_isShort b_S_isShort 11 (some .boolean) 2 := ⟨gm_im_S_isShort, gm_sel_S_isShort, gm_ini_S, gm_code_S_isShort, by decide +kernel⟩
abbrev rm_I_isOn : Room := { frames := 0, cells := 0, slots := 0, locals := 0 }
theorem cw_I_isOn : CwV R_I y_I_isOn b_I_isOn 2 (some .boolean) 1 := ⟨gm_im_I_isOn, gm_sel_I_isOn, gm_ini_I, gm_code_I_isOn, by decide +kernel⟩
abbrev rm_E_add : Room := { frames := 0, cells := 0, slots := 0, locals := 0 }
theorem cw_E_add : CwV R_E y_E_add b_E_add 7 none 4 := ⟨gm_im_E_add, gm_sel_E_add, gm_ini_E, gm_code_E_add, by decide +kernel⟩
abbrev rm_E_takeNew : Room := { frames := 0, cells := 0, slots := 0, locals := 0 }
theorem cw_E_takeNew : CwV R_E y_E_takeNew b_E_takeNew 2 (some .int) 0 := ⟨gm_im_E_takeNew, gm_sel_E_takeNew, gm_ini_E, gm_code_E_takeNew, by decide +kernel⟩
abbrev rm_S_edge : Room := { frames := 1, cells := 0, slots := 0, locals := 22 }
theorem cw_S_edge : CwV R_S y_S_edge b_S_edge 3 (some .int) 2 := ⟨gm_im_S_edge, gm_sel_S_edge, gm_ini_S, gm_code_S_edge, by decide +kernel⟩
abbrev rm_E_read : Room := { frames := 0, cells := 0, slots := 0, locals := 0 }
theorem cw_E_read : CwV R_E y_E_read b_E_read 3 (some .int) 2 := ⟨gm_im_E_read, gm_sel_E_read, gm_ini_E, gm_code_E_read, by decide +kernel⟩
abbrev rm_S_stop : Room := { frames := 6, cells := 0, slots := 0, locals := 148 }
theorem cw_S_stop : CwV R_S y_S_stop b_S_stop 7 (some .int) 3 := ⟨gm_im_S_stop, gm_sel_S_stop, gm_ini_S, gm_code_S_stop, by decide +kernel⟩
abbrev rm_B_tell : Room := { frames := 2, cells := 0, slots := 0, locals := 47 }
theorem cw_B_tell : CwV R_B y_B_tell b_B_tell 4 none 2 := ⟨gm_im_B_tell, gm_sel_B_tell, gm_ini_B, gm_code_B_tell, by decide +kernel⟩
abbrev rm_B_gearAt : Room := { frames := 1, cells := 0, slots := 0, locals := 24 }
theorem cw_B_gearAt : CwV R_B y_B_gearAt b_B_gearAt 3 (some .int) 1 := ⟨gm_im_B_gearAt, gm_sel_B_gearAt, gm_ini_B, gm_code_B_gearAt, by decide +kernel⟩
abbrev rm_S_aimItemsOn : Room := { frames := 2, cells := 0, slots := 0, locals := 51 }
theorem cw_S_aimItemsOn : CwV R_S y_S_aimItemsOn b_S_aimItemsOn 3 none 1 := ⟨gm_im_S_aimItemsOn, gm_sel_S_aimItemsOn, gm_ini_S, gm_code_S_aimItemsOn, by decide +kernel⟩
abbrev rm_S_slip : Room := { frames := 3, cells := 0, slots := 0, locals := 69 }
theorem cw_S_slip : CwV R_S y_S_slip b_S_slip 7 (some .int) 2 := ⟨gm_im_S_slip, gm_sel_S_slip, gm_ini_S, gm_code_S_slip, by decide +kernel⟩
abbrev rm_S_itemNumbered : Room := { frames := 0, cells := 0, slots := 0, locals := 0 }
theorem cw_S_itemNumbered : CwV R_S y_S_itemNumbered b_S_itemNumbered 2 (some (.object "BeltSteps$Item")) 1 := ⟨gm_im_S_itemNumbered, gm_sel_S_itemNumbered, gm_ini_S, gm_code_S_itemNumbered, by decide +kernel⟩
abbrev rm_I_isOnABelt : Room := { frames := 0, cells := 0, slots := 0, locals := 0 }
theorem cw_I_isOnABelt : CwV R_I y_I_isOnABelt b_I_isOnABelt 1 (some .boolean) 0 := ⟨gm_im_I_isOnABelt, gm_sel_I_isOnABelt, gm_ini_I, gm_code_I_isOnABelt, by decide +kernel⟩
abbrev rm_I_placeAt : Room := { frames := 2, cells := 0, slots := 0, locals := 47 }
theorem cw_I_placeAt : CwV R_I y_I_placeAt b_I_placeAt 3 (some .long) 1 := ⟨gm_im_I_placeAt, gm_sel_I_placeAt, gm_ini_I, gm_code_I_placeAt, by decide +kernel⟩
abbrev rm_S_place : Room := { frames := 3, cells := 0, slots := 0, locals := 78 }
theorem cw_S_place : CwV R_S y_S_place b_S_place 5 (some .long) 2 := ⟨gm_im_S_place, gm_sel_S_place, gm_ini_S, gm_code_S_place, by decide +kernel⟩
abbrev rm_S_placeAhead : Room := { frames := 2, cells := 0, slots := 0, locals := 47 }
theorem cw_S_placeAhead : CwS R_S y_S_placeAhead b_S_placeAhead 12 (some .long) 2 := ⟨gm_st_S_placeAhead, gm_ini_S, gm_code_S_placeAhead, by decide +kernel⟩
abbrev rm_S_gap : Room := { frames := 3, cells := 0, slots := 0, locals := 69 }
theorem cw_S_gap : CwV R_S y_S_gap b_S_gap 5 (some .int) 2 := ⟨gm_im_S_gap, gm_sel_S_gap, gm_ini_S, gm_code_S_gap, by decide +kernel⟩
abbrev rm_S_count : Room := { frames := 1, cells := 0, slots := 0, locals := 21 }
theorem cw_S_count : CwV R_S y_S_count b_S_count 5 (some .int) 1 := ⟨gm_im_S_count, gm_sel_S_count, gm_ini_S, gm_code_S_count, by decide +kernel⟩
abbrev rm_S_gear : Room := { frames := 2, cells := 0, slots := 0, locals := 46 }
theorem cw_S_gear : CwV R_S y_S_gear b_S_gear 5 (some .int) 2 := ⟨gm_im_S_gear, gm_sel_S_gear, gm_ini_S, gm_code_S_gear, by decide +kernel⟩
abbrev rm_M_init : Room := { frames := 1, cells := 19, slots := 2123, locals := 20 }
theorem cw_M_init : CwI y_M_init b_M_init 1 0 := ⟨gm_im_M_init, gm_ini_M, gm_code_M_init, rfl, by decide +kernel⟩
abbrev rm_M_belt : Room := { frames := 1, cells := 0, slots := 0, locals := 25 }
theorem cw_M_belt : CwV R_M y_M_belt b_M_belt 5 (some .int) 2 := ⟨gm_im_M_belt, gm_sel_M_belt, gm_ini_M, gm_code_M_belt, by decide +kernel⟩
abbrev rm_M_in : Room := { frames := 0, cells := 0, slots := 0, locals := 0 }
theorem cw_M_in : CwS R_M y_M_in b_M_in 6 (some .boolean) 3 := ⟨gm_st_M_in, gm_ini_M, gm_code_M_in, by decide +kernel⟩
abbrev rm_M_join : Room := { frames := 1, cells := 0, slots := 0, locals := 21 }
theorem cw_M_join : CwV R_M y_M_join b_M_join 4 (some .int) 2 := ⟨gm_im_M_join, gm_sel_M_join, gm_ini_M, gm_code_M_join, by decide +kernel⟩
abbrev rm_M_isBelt : Room := { frames := 0, cells := 0, slots := 0, locals := 0 }
theorem cw_M_isBelt : CwV R_M y_M_isBelt b_M_isBelt 2 (some .boolean) 1 := ⟨gm_im_M_isBelt, gm_sel_M_isBelt, gm_ini_M, gm_code_M_isBelt, by decide +kernel⟩
abbrev rm_M_feed : Room := { frames := 2, cells := 0, slots := 0, locals := 47 }
theorem cw_M_feed : CwV R_M y_M_feed b_M_feed 6 (some .int) 3 := ⟨gm_im_M_feed, gm_sel_M_feed, gm_ini_M, gm_code_M_feed, by decide +kernel⟩
abbrev rm_M_isTime : Room := { frames := 1, cells := 0, slots := 0, locals := 25 }
theorem cw_M_isTime : CwV R_M y_M_isTime b_M_isTime 3 (some .boolean) 1 := ⟨gm_im_M_isTime, gm_sel_M_isTime, gm_ini_M, gm_code_M_isTime, by decide +kernel⟩
abbrev rm_M_step : Room := { frames := 4, cells := 0, slots := 0, locals := 91 }
theorem cw_M_step : CwV R_M y_M_step b_M_step 4 (some .int) 1 := ⟨gm_im_M_step, gm_sel_M_step, gm_ini_M, gm_code_M_step, by decide +kernel⟩
abbrev rm_M_pass : Room := { frames := 3, cells := 0, slots := 0, locals := 68 }
theorem cw_M_pass : CwV R_M y_M_pass b_M_pass 4 none 1 := ⟨gm_im_M_pass, gm_sel_M_pass, gm_ini_M, gm_code_M_pass, by decide +kernel⟩
abbrev rm_M_rateAt : Room := { frames := 1, cells := 0, slots := 0, locals := 27 }
theorem cw_M_rateAt : CwV R_M y_M_rateAt b_M_rateAt 4 (some .long) 2 := ⟨gm_im_M_rateAt, gm_sel_M_rateAt, gm_ini_M, gm_code_M_rateAt, by decide +kernel⟩
abbrev rm_M_gearAt : Room := { frames := 0, cells := 0, slots := 0, locals := 0 }
theorem cw_M_gearAt : CwV R_M y_M_gearAt b_M_gearAt 8 (some .int) 2 := ⟨gm_im_M_gearAt, gm_sel_M_gearAt, gm_ini_M, gm_code_M_gearAt, by decide +kernel⟩
abbrev rm_M_isThere : Room := { frames := 0, cells := 0, slots := 0, locals := 0 }
theorem cw_M_isThere : CwV R_M y_M_isThere b_M_isThere 2 (some .boolean) 1 := ⟨gm_im_M_isThere, gm_sel_M_isThere, gm_ini_M, gm_code_M_isThere, by decide +kernel⟩
abbrev rm_M_goOver : Room := { frames := 1, cells := 0, slots := 0, locals := 21 }
theorem cw_M_goOver : CwV R_M y_M_goOver b_M_goOver 3 none 0 := ⟨gm_im_M_goOver, gm_sel_M_goOver, gm_ini_M, gm_code_M_goOver, by decide +kernel⟩
abbrev rm_M_look : Room := { frames := 2, cells := 0, slots := 0, locals := 45 }
theorem cw_M_look : CwV R_M y_M_look b_M_look 4 none 0 := ⟨gm_im_M_look, gm_sel_M_look, gm_ini_M, gm_code_M_look, by decide +kernel⟩
abbrev rm_M_isShort : Room := { frames := 1, cells := 0, slots := 0, locals := 21 }
theorem cw_M_isShort : CwV R_M y_M_isShort b_M_isShort 5 (some .boolean) 1 := ⟨gm_im_M_isShort, gm_sel_M_isShort, gm_ini_M, gm_code_M_isShort, by decide +kernel⟩
abbrev rm_M_tell : Room := { frames := 0, cells := 0, slots := 0, locals := 0 }
theorem cw_M_tell : CwV R_M y_M_tell b_M_tell 3 none 2 := ⟨gm_im_M_tell, gm_sel_M_tell, gm_ini_M, gm_code_M_tell, by decide +kernel⟩
abbrev rm_M_edge : Room := { frames := 0, cells := 0, slots := 0, locals := 0 }
theorem cw_M_edge : CwV R_M y_M_edge b_M_edge 3 (some .int) 2 := ⟨gm_im_M_edge, gm_sel_M_edge, gm_ini_M, gm_code_M_edge, by decide +kernel⟩
abbrev rm_M_stop : Room := { frames := 4, cells := 0, slots := 0, locals := 91 }
theorem cw_M_stop : CwV R_M y_M_stop b_M_stop 5 (some .int) 3 := ⟨gm_im_M_stop, gm_sel_M_stop, gm_ini_M, gm_code_M_stop, by decide +kernel⟩
abbrev rm_M_slip : Room := { frames := 1, cells := 0, slots := 0, locals := 25 }
theorem cw_M_slip : CwV R_M y_M_slip b_M_slip 6 (some .int) 2 := ⟨gm_im_M_slip, gm_sel_M_slip, gm_ini_M, gm_code_M_slip, by decide +kernel⟩
abbrev rm_M_isItem : Room := { frames := 0, cells := 0, slots := 0, locals := 0 }
theorem cw_M_isItem : CwV R_M y_M_isItem b_M_isItem 2 (some .boolean) 1 := ⟨gm_im_M_isItem, gm_sel_M_isItem, gm_ini_M, gm_code_M_isItem, by decide +kernel⟩
abbrev rm_M_place : Room := { frames := 2, cells := 0, slots := 0, locals := 50 }
theorem cw_M_place : CwV R_M y_M_place b_M_place 9 (some .long) 2 := ⟨gm_im_M_place, gm_sel_M_place, gm_ini_M, gm_code_M_place, by decide +kernel⟩
abbrev rm_M_gap : Room := { frames := 1, cells := 0, slots := 0, locals := 21 }
theorem cw_M_gap : CwV R_M y_M_gap b_M_gap 3 (some .int) 2 := ⟨gm_im_M_gap, gm_sel_M_gap, gm_ini_M, gm_code_M_gap, by decide +kernel⟩
abbrev rm_M_count : Room := { frames := 1, cells := 0, slots := 0, locals := 21 }
theorem cw_M_count : CwV R_M y_M_count b_M_count 4 (some .int) 1 := ⟨gm_im_M_count, gm_sel_M_count, gm_ini_M, gm_code_M_count, by decide +kernel⟩
abbrev rm_M_gear : Room := { frames := 2, cells := 0, slots := 0, locals := 47 }
theorem cw_M_gear : CwV R_M y_M_gear b_M_gear 4 (some .int) 2 := ⟨gm_im_M_gear, gm_sel_M_gear, gm_ini_M, gm_code_M_gear, by decide +kernel⟩
