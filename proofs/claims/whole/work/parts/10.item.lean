/-! Item: pictures and contracts. -/
def aimF (blen sen len : Int64) (ft et : Int32) : Int64 := if ft = 0 then sen else if et = 0 then (if blen < sen + len then blen else sen + len) else blen
def comeE (num : Int32) (len : Int64) (b : Nat) (sen told : Int64) (fp fw : Nat → Int64) (t pl : Int64) : va_E := itemE num len (some b) 0 (towF told fp fw (wayF told fp fw t - pl + sen)) (wayF told fp fw t - pl) 0 0
section ITEM
variable {i b : Nat} {num : Int32} {len : Int64} {bt : Option Nat} {wt : Int32} {turn start : Int64} {ft et : Int32}
variable {bnum : Int32} {blen spd sen : Int64} {onto : Option Nat} {run tel : Int32} {told : Int64} {gb : Int32} {wat : Int64} {ag ap aw : Nat} {fp fw : Nat → Int64}
variable {b2 : Nat} {bnum2 : Int32} {blen2 spd2 sen2 : Int64} {onto2 : Option Nat} {run2 tel2 : Int32} {told2 : Int64} {gb2 : Int32} {wat2 : Int64} {ag2 ap2 aw2 : Nat} {fp2 fw2 : Nat → Int64}
set_option maxHeartbeats 4000000 in
set_option maxRecDepth 100000 in
theorem c_I_isOnABelt_n {l : Launch} {D : va_G} {dA : Nat → ClassId} {g : Nat → Option va_E}  (hI : g i = some (itemE num len none wt turn start ft et)) : CtI l D classes (tyL dA) y_I_isOnABelt b_I_isOnABelt 1 (some .boolean) rm_I_isOnABelt [.ref i] g (fun r g' => g = g' ∧ r = 0) := by
  refine CtI.of (by decide) (Nat.le_of_ble_eq_true rfl) ?_
  intro p e s m below meth c X hr hlk hnm
  refine go_aload_n X (z := 0) d_I_isOnABelt_0 rfl rfl ?_
  refine go_get X u_I rfl 2 (by decide) gm_fl_I_32 rfl d_I_isOnABelt_1 hI rfl ?_
  refine go_ifnullN X (tgt := 18) d_I_isOnABelt_4 rfl ?_
  refine go_iconst X (v := 0) d_I_isOnABelt_18 (by decide) ?_
  exact go_retZ X hr rfl hlk d_I_isOnABelt_19 ⟨rfl, rfl⟩
set_option maxHeartbeats 4000000 in
set_option maxRecDepth 100000 in
theorem c_I_isOnABelt_s {l : Launch} {D : va_G} {dA : Nat → ClassId} {g : Nat → Option va_E}  (hI : g i = some (itemE num len (some b) wt turn start ft et)) : CtI l D classes (tyL dA) y_I_isOnABelt b_I_isOnABelt 1 (some .boolean) rm_I_isOnABelt [.ref i] g (fun r g' => g = g' ∧ r = if wt = 0 then 1 else 0) := by
  refine CtI.of (by decide) (Nat.le_of_ble_eq_true rfl) ?_
  intro p e s m below meth c X hr hlk hnm
  refine go_aload_n X (z := 0) d_I_isOnABelt_0 rfl rfl ?_
  refine go_get X u_I rfl 2 (by decide) gm_fl_I_32 rfl d_I_isOnABelt_1 hI rfl ?_
  refine go_ifnull X d_I_isOnABelt_4 ?_
  refine go_aload_n X (z := 0) d_I_isOnABelt_7 rfl rfl ?_
  refine go_get X u_I rfl 3 (by decide) gm_fl_I_9 rfl d_I_isOnABelt_8 hI rfl ?_
  refine go_if_ne X (tgt := 18) d_I_isOnABelt_11 rfl (fun c1 => ?_) (fun c1 => ?_)
  · refine go_iconst X (v := 0) d_I_isOnABelt_18 (by decide) ?_
    exact go_retZ X hr rfl hlk d_I_isOnABelt_19 ⟨rfl, by simp only [if_neg c1]⟩
  · refine go_iconst X (v := 1) d_I_isOnABelt_14 (by decide) ?_
    refine go_goto X (tgt := 19) d_I_isOnABelt_15 rfl ?_
    exact go_retZ X hr rfl hlk d_I_isOnABelt_19 ⟨rfl, by simp only [if_pos c1]⟩
set_option maxHeartbeats 4000000 in
set_option maxRecDepth 100000 in
theorem c_I_isOn {l : Launch} {D : va_G} {dA : Nat → ClassId} {g : Nat → Option va_E}  (hI : g i = some (itemE num len bt wt turn start ft et)) (b : Nat) : CtI l D classes (tyL dA) y_I_isOn b_I_isOn 2 (some .boolean) rm_I_isOn [.ref i, .ref b] g (fun r g' => g = g' ∧ r = if bt = some b then (if wt = 0 then 1 else 0) else 0) := by
  refine CtI.of (by decide) (Nat.le_of_ble_eq_true rfl) ?_
  intro p e s m below meth c X hr hlk hnm
  refine go_aload_n X (z := 0) d_I_isOn_0 rfl rfl ?_
  refine go_get X u_I rfl 2 (by decide) gm_fl_I_32 rfl d_I_isOn_1 hI rfl ?_
  refine go_aload_n X (z := 1) d_I_isOn_4 rfl rfl ?_
  refine go_acmp_ne X (ry := (some b)) (rx := bt) (tgt := 19) d_I_isOn_5 rfl (fun c1 => ?_) (fun c1 => ?_)
  · refine go_iconst X (v := 0) d_I_isOn_19 (by decide) ?_
    exact go_retZ X hr rfl hlk d_I_isOn_20 ⟨rfl, by simp only [if_neg c1]⟩
  · refine go_aload_n X (z := 0) d_I_isOn_8 rfl rfl ?_
    refine go_get X u_I rfl 3 (by decide) gm_fl_I_9 rfl d_I_isOn_9 hI rfl ?_
    refine go_if_ne X (tgt := 19) d_I_isOn_12 rfl (fun c2 => ?_) (fun c2 => ?_)
    · refine go_iconst X (v := 0) d_I_isOn_19 (by decide) ?_
      exact go_retZ X hr rfl hlk d_I_isOn_20 ⟨rfl, by simp only [if_pos c1, if_neg c2]⟩
    · refine go_iconst X (v := 1) d_I_isOn_15 (by decide) ?_
      refine go_goto X (tgt := 20) d_I_isOn_16 rfl ?_
      exact go_retZ X hr rfl hlk d_I_isOn_20 ⟨rfl, by simp only [if_pos c1, if_pos c2]⟩
set_option maxHeartbeats 4000000 in
set_option maxRecDepth 100000 in
theorem c_I_placeAt {l : Launch} {D : va_G} {dA : Nat → ClassId} {g : Nat → Option va_E}  (hI : g i = some (itemE num len (some b) wt turn start ft et)) (hB : g b = some (beltE bnum blen spd sen onto run tel told gb wat ag ap aw)) (hP : g ap = some (lonE dA 8 fp)) (hW : g aw = some (lonE dA 8 fw)) (t : Int64) : CtL l D classes (tyL dA) y_I_placeAt b_I_placeAt 3 (some .long) rm_I_placeAt [.ref i, .long t] g (fun r g' => g = g' ∧ r = wayF told fp fw t - start) := by
  refine CtL.of (by decide) (Nat.le_of_ble_eq_true rfl) ?_
  intro p e s m below meth c X hr hlk hnm
  refine go_aload_n X (z := 0) d_I_placeAt_0 rfl rfl ?_
  refine go_get X u_I rfl 2 (by decide) gm_fl_I_32 rfl d_I_placeAt_1 hI rfl ?_
  refine go_ifnonnull X (tgt := 11) d_I_placeAt_4 rfl ?_
  refine go_aload_n X (z := 0) d_I_placeAt_11 rfl rfl ?_
  refine go_get X u_I rfl 2 (by decide) gm_fl_I_32 rfl d_I_placeAt_12 hI rfl ?_
  refine go_lload_n X (z := 1) d_I_placeAt_15 rfl rfl ?_
  refine go_callL_V X (As := [.long t]) (rest := []) (c_B_wayAt hB hP hW t) gm_ml_I_39 cw_B_wayAt ⟨by decide, by decide⟩ rfl hB rfl rfl (Nat.le_of_ble_eq_true rfl) d_I_placeAt_16 ⟨by decide, by decide⟩ (fun ru1 gu1 hu1 => ?_)
  obtain ⟨rfl, rfl⟩ := hu1
  refine go_aload_n X (z := 0) d_I_placeAt_19 rfl rfl ?_
  refine go_get X u_I rfl 5 (by decide) gm_fl_I_15 rfl d_I_placeAt_20 hI rfl ?_
  refine go_lsub X d_I_placeAt_23 ?_
  exact go_retL X hr hlk d_I_placeAt_24 ⟨rfl, rfl⟩
set_option maxHeartbeats 4000000 in
set_option maxRecDepth 100000 in
theorem c_I_aim_n {l : Launch} {D : va_G} {dA : Nat → ClassId} {g : Nat → Option va_E}  (hI : g i = some (itemE num len none wt turn start ft et)) : CtV l D classes (tyL dA) y_I_aim b_I_aim 3 none rm_I_aim [.ref i] g (fun g' => g = g') := by
  refine CtV.of (by decide) (Nat.le_of_ble_eq_true rfl) ?_
  intro p e s m below meth c X hr hlk hnm
  refine go_aload_n X (z := 0) d_I_aim_0 rfl rfl ?_
  refine go_get X u_I rfl 2 (by decide) gm_fl_I_32 rfl d_I_aim_1 hI rfl ?_
  refine go_ifnonnullN X d_I_aim_4 ?_
  exact go_retV X hr hlk d_I_aim_7 rfl
set_option maxHeartbeats 4000000 in
set_option maxRecDepth 100000 in
theorem c_I_aim {l : Launch} {D : va_G} {dA : Nat → ClassId} {g : Nat → Option va_E}  (hI : g i = some (itemE num len (some b) wt turn start ft et)) (hB : g b = some (beltE bnum blen spd sen onto run tel told gb wat ag ap aw)) (hP : g ap = some (lonE dA 8 fp)) (hW : g aw = some (lonE dA 8 fw)) : CtV l D classes (tyL dA) y_I_aim b_I_aim 3 none rm_I_aim [.ref i] g (fun g' => g' = va_up g i (some (itemE num len (some b) wt (towF told fp fw (start + aimF blen sen len ft et)) start ft et))) := by
  refine CtV.of (by decide) (Nat.le_of_ble_eq_true rfl) ?_
  intro p e s m below meth c X hr hlk hnm
  refine go_aload_n X (z := 0) d_I_aim_0 rfl rfl ?_
  refine go_get X u_I rfl 2 (by decide) gm_fl_I_32 rfl d_I_aim_1 hI rfl ?_
  refine go_ifnonnull X (tgt := 8) d_I_aim_4 rfl ?_
  refine go_aload_n X (z := 0) d_I_aim_8 rfl rfl ?_
  refine go_get X u_I rfl 2 (by decide) gm_fl_I_32 rfl d_I_aim_9 hI rfl ?_
  refine go_get X u_B rfl 1 (by decide) gm_fl_I_52 rfl d_I_aim_12 hB rfl ?_
  refine go_lstore_n X (lv' := [(1, .long blen), (0, .ref i)]) d_I_aim_15 rfl (by decide) rfl ?_
  refine go_aload_n X (z := 1) d_I_aim_16 rfl rfl ?_
  refine go_get X u_I rfl 6 (by decide) gm_fl_I_19 rfl d_I_aim_17 hI rfl ?_
  refine go_if_ne X (tgt := 34) d_I_aim_20 rfl (fun c1 => ?_) (fun c1 => ?_)
  · refine go_aload_n X (z := 1) d_I_aim_34 rfl rfl ?_
    refine go_get X u_I rfl 7 (by decide) gm_fl_I_22 rfl d_I_aim_35 hI rfl ?_
    refine go_if_ne X (tgt := 64) d_I_aim_38 rfl (fun c2 => ?_) (fun c2 => ?_)
    · refine go_aload_n X (z := 1) d_I_aim_64 rfl rfl ?_
      refine go_aload_n X (z := 1) d_I_aim_65 rfl rfl ?_
      refine go_get X u_I rfl 2 (by decide) gm_fl_I_32 rfl d_I_aim_66 hI rfl ?_
      refine go_aload_n X (z := 1) d_I_aim_69 rfl rfl ?_
      refine go_get X u_I rfl 5 (by decide) gm_fl_I_15 rfl d_I_aim_70 hI rfl ?_
      refine go_lload_n X (z := 0) d_I_aim_73 rfl rfl ?_
      refine go_ladd X d_I_aim_74 ?_
      refine go_callL_V X (As := [.long (start + blen)]) (rest := [.ref i]) (c_B_timeOfWay hB hP hW (start + blen)) gm_ml_I_67 cw_B_timeOfWay ⟨by decide, by decide⟩ rfl hB rfl rfl (Nat.le_of_ble_eq_true rfl) d_I_aim_75 ⟨by decide, by decide⟩ (fun ru3 gu3 hu3 => ?_)
      obtain ⟨rfl, rfl⟩ := hu3
      refine go_topl (fun x4 ex4 => ?_)
      refine go_put X u_I rfl 4 (by decide) gm_fl_I_36 rfl t_I t_I_ok n_I rfl rfl rfl d_I_aim_78 hI (Nat.le_of_ble_eq_true rfl) ?_
      refine go_gen (fun g5 eg5 => ?_)
      have eg5 : g5 = va_up g i (some (.inr (2, [.int num, .long len, .ref b, .int wt, .long x4, .long start, .int ft, .int et]))) := eg5
      have h6 : g5 b = some (.inr (0, [.int bnum, .long blen, .long spd, .long sen, va_rf onto, .int run, .int tel, .long told, .int gb, .long wat, .ref ag, .ref ap, .ref aw])) := by rw [eg5, va_up_ne _ _ (ne_cls hB hI (by decide))]; exact hB
      have h7 : g5 ap = some (.inl (dA 1, 8, .inr (.inl fp))) := by rw [eg5, va_up_ne _ _ (ne_kind2 hP hI)]; exact hP
      have h8 : g5 aw = some (.inl (dA 1, 8, .inr (.inl fw))) := by rw [eg5, va_up_ne _ _ (ne_kind2 hW hI)]; exact hW
      have h9 : g5 i = some (.inr (2, [.int num, .long len, .ref b, .int wt, .long x4, .long start, .int ft, .int et])) := by rw [eg5]; exact va_up_self _ _ _
      exact go_retV X hr hlk d_I_aim_81 (by rw [eg5]; subst ex4; simp only [aimF, if_neg c1, if_neg c2] <;> rfl)
    · refine go_aload_n X (z := 1) d_I_aim_41 rfl rfl ?_
      refine go_get X u_I rfl 2 (by decide) gm_fl_I_32 rfl d_I_aim_42 hI rfl ?_
      refine go_get X u_B rfl 3 (by decide) gm_fl_I_58 rfl d_I_aim_45 hB rfl ?_
      refine go_aload_n X (z := 1) d_I_aim_48 rfl rfl ?_
      refine go_get X u_I rfl 1 (by decide) gm_fl_I_29 rfl d_I_aim_49 hI rfl ?_
      refine go_ladd X d_I_aim_52 ?_
      refine go_aload_n X (z := 1) d_I_aim_53 rfl rfl ?_
      refine go_get X u_I rfl 2 (by decide) gm_fl_I_32 rfl d_I_aim_54 hI rfl ?_
      refine go_get X u_B rfl 1 (by decide) gm_fl_I_52 rfl d_I_aim_57 hB rfl ?_
      refine go_mmin_long X gm_ml_I_61 gm_st_minl gm_ini_J gm_code_minl d_I_aim_60 (by decide) (Nat.le_of_ble_eq_true rfl) (by decide) (by decide) ?_
      refine go_topl (fun x10 ex10 => ?_)
      refine go_lstore_n X (lv' := [(1, .long x10), (0, .ref i)]) d_I_aim_63 rfl (by decide) rfl ?_
      refine go_aload_n X (z := 1) d_I_aim_64 rfl rfl ?_
      refine go_aload_n X (z := 1) d_I_aim_65 rfl rfl ?_
      refine go_get X u_I rfl 2 (by decide) gm_fl_I_32 rfl d_I_aim_66 hI rfl ?_
      refine go_aload_n X (z := 1) d_I_aim_69 rfl rfl ?_
      refine go_get X u_I rfl 5 (by decide) gm_fl_I_15 rfl d_I_aim_70 hI rfl ?_
      refine go_lload_n X (z := 0) d_I_aim_73 rfl rfl ?_
      refine go_ladd X d_I_aim_74 ?_
      refine go_callL_V X (As := [.long (start + x10)]) (rest := [.ref i]) (c_B_timeOfWay hB hP hW (start + x10)) gm_ml_I_67 cw_B_timeOfWay ⟨by decide, by decide⟩ rfl hB rfl rfl (Nat.le_of_ble_eq_true rfl) d_I_aim_75 ⟨by decide, by decide⟩ (fun ru11 gu11 hu11 => ?_)
      obtain ⟨rfl, rfl⟩ := hu11
      refine go_topl (fun x12 ex12 => ?_)
      refine go_put X u_I rfl 4 (by decide) gm_fl_I_36 rfl t_I t_I_ok n_I rfl rfl rfl d_I_aim_78 hI (Nat.le_of_ble_eq_true rfl) ?_
      refine go_gen (fun g13 eg13 => ?_)
      have eg13 : g13 = va_up g i (some (.inr (2, [.int num, .long len, .ref b, .int wt, .long x12, .long start, .int ft, .int et]))) := eg13
      have h14 : g13 b = some (.inr (0, [.int bnum, .long blen, .long spd, .long sen, va_rf onto, .int run, .int tel, .long told, .int gb, .long wat, .ref ag, .ref ap, .ref aw])) := by rw [eg13, va_up_ne _ _ (ne_cls hB hI (by decide))]; exact hB
      have h15 : g13 ap = some (.inl (dA 1, 8, .inr (.inl fp))) := by rw [eg13, va_up_ne _ _ (ne_kind2 hP hI)]; exact hP
      have h16 : g13 aw = some (.inl (dA 1, 8, .inr (.inl fw))) := by rw [eg13, va_up_ne _ _ (ne_kind2 hW hI)]; exact hW
      have h17 : g13 i = some (.inr (2, [.int num, .long len, .ref b, .int wt, .long x12, .long start, .int ft, .int et])) := by rw [eg13]; exact va_up_self _ _ _
      exact go_retV X hr hlk d_I_aim_81 (by rw [eg13]; subst ex10 ex12; simp only [aimF, if_neg c1, if_pos c2] <;> rfl)
  · refine go_aload_n X (z := 1) d_I_aim_23 rfl rfl ?_
    refine go_get X u_I rfl 2 (by decide) gm_fl_I_32 rfl d_I_aim_24 hI rfl ?_
    refine go_get X u_B rfl 3 (by decide) gm_fl_I_58 rfl d_I_aim_27 hB rfl ?_
    refine go_lstore_n X (lv' := [(1, .long sen), (0, .ref i)]) d_I_aim_30 rfl (by decide) rfl ?_
    refine go_goto X (tgt := 64) d_I_aim_31 rfl ?_
    refine go_aload_n X (z := 1) d_I_aim_64 rfl rfl ?_
    refine go_aload_n X (z := 1) d_I_aim_65 rfl rfl ?_
    refine go_get X u_I rfl 2 (by decide) gm_fl_I_32 rfl d_I_aim_66 hI rfl ?_
    refine go_aload_n X (z := 1) d_I_aim_69 rfl rfl ?_
    refine go_get X u_I rfl 5 (by decide) gm_fl_I_15 rfl d_I_aim_70 hI rfl ?_
    refine go_lload_n X (z := 0) d_I_aim_73 rfl rfl ?_
    refine go_ladd X d_I_aim_74 ?_
    refine go_callL_V X (As := [.long (start + sen)]) (rest := [.ref i]) (c_B_timeOfWay hB hP hW (start + sen)) gm_ml_I_67 cw_B_timeOfWay ⟨by decide, by decide⟩ rfl hB rfl rfl (Nat.le_of_ble_eq_true rfl) d_I_aim_75 ⟨by decide, by decide⟩ (fun ru18 gu18 hu18 => ?_)
    obtain ⟨rfl, rfl⟩ := hu18
    refine go_topl (fun x19 ex19 => ?_)
    refine go_put X u_I rfl 4 (by decide) gm_fl_I_36 rfl t_I t_I_ok n_I rfl rfl rfl d_I_aim_78 hI (Nat.le_of_ble_eq_true rfl) ?_
    refine go_gen (fun g20 eg20 => ?_)
    have eg20 : g20 = va_up g i (some (.inr (2, [.int num, .long len, .ref b, .int wt, .long x19, .long start, .int ft, .int et]))) := eg20
    have h21 : g20 b = some (.inr (0, [.int bnum, .long blen, .long spd, .long sen, va_rf onto, .int run, .int tel, .long told, .int gb, .long wat, .ref ag, .ref ap, .ref aw])) := by rw [eg20, va_up_ne _ _ (ne_cls hB hI (by decide))]; exact hB
    have h22 : g20 ap = some (.inl (dA 1, 8, .inr (.inl fp))) := by rw [eg20, va_up_ne _ _ (ne_kind2 hP hI)]; exact hP
    have h23 : g20 aw = some (.inl (dA 1, 8, .inr (.inl fw))) := by rw [eg20, va_up_ne _ _ (ne_kind2 hW hI)]; exact hW
    have h24 : g20 i = some (.inr (2, [.int num, .long len, .ref b, .int wt, .long x19, .long start, .int ft, .int et])) := by rw [eg20]; exact va_up_self _ _ _
    exact go_retV X hr hlk d_I_aim_81 (by rw [eg20]; subst ex19; simp only [aimF, if_pos c1] <;> rfl)
set_option maxHeartbeats 4000000 in
set_option maxRecDepth 100000 in
theorem c_I_comeOnto {l : Launch} {D : va_G} {dA : Nat → ClassId} {g : Nat → Option va_E}  (hI : g i = some (itemE num len bt wt turn start ft et)) (hB : g b = some (beltE bnum blen spd sen onto run tel told gb wat ag ap aw)) (hP : g ap = some (lonE dA 8 fp)) (hW : g aw = some (lonE dA 8 fw)) (t pl : Int64) : CtV l D classes (tyL dA) y_I_comeOnto b_I_comeOnto 6 none rm_I_comeOnto [.ref i, .ref b, .long t, .long pl] g (fun g' => g' = va_up g i (some (comeE num len b sen told fp fw t pl))) := by
  refine CtV.of (by decide) (Nat.le_of_ble_eq_true rfl) ?_
  intro p e s m below meth c X hr hlk hnm
  refine go_aload_n X (z := 0) d_I_comeOnto_0 rfl rfl ?_
  refine go_aload_n X (z := 1) d_I_comeOnto_1 rfl rfl ?_
  refine go_put X u_I rfl 2 (by decide) gm_fl_I_32 rfl t_I t_I_ok n_I rfl rfl rfl d_I_comeOnto_2 hI (Nat.le_of_ble_eq_true rfl) ?_
  refine go_gen (fun g1 eg1 => ?_)
  have eg1 : g1 = va_up g i (some (.inr (2, [.int num, .long len, .ref b, .int wt, .long turn, .long start, .int ft, .int et]))) := eg1
  have h2 : g1 b = some (.inr (0, [.int bnum, .long blen, .long spd, .long sen, va_rf onto, .int run, .int tel, .long told, .int gb, .long wat, .ref ag, .ref ap, .ref aw])) := by rw [eg1, va_up_ne _ _ (ne_cls hB hI (by decide))]; exact hB
  have h3 : g1 ap = some (.inl (dA 1, 8, .inr (.inl fp))) := by rw [eg1, va_up_ne _ _ (ne_kind2 hP hI)]; exact hP
  have h4 : g1 aw = some (.inl (dA 1, 8, .inr (.inl fw))) := by rw [eg1, va_up_ne _ _ (ne_kind2 hW hI)]; exact hW
  have h5 : g1 i = some (.inr (2, [.int num, .long len, .ref b, .int wt, .long turn, .long start, .int ft, .int et])) := by rw [eg1]; exact va_up_self _ _ _
  refine go_aload_n X (z := 0) d_I_comeOnto_5 rfl rfl ?_
  refine go_iconst X (v := 0) d_I_comeOnto_6 (by decide) ?_
  refine go_put X u_I rfl 3 (by decide) gm_fl_I_9 rfl t_I t_I_ok n_I rfl rfl rfl d_I_comeOnto_7 h5 (Nat.le_of_ble_eq_true rfl) ?_
  refine go_gen (fun g6 eg6 => ?_)
  have eg6 : g6 = va_up g1 i (some (.inr (2, [.int num, .long len, .ref b, .int 0, .long turn, .long start, .int ft, .int et]))) := eg6
  have h7 : g6 b = some (.inr (0, [.int bnum, .long blen, .long spd, .long sen, va_rf onto, .int run, .int tel, .long told, .int gb, .long wat, .ref ag, .ref ap, .ref aw])) := by rw [eg6, va_up_ne _ _ (ne_cls h2 h5 (by decide))]; exact h2
  have h8 : g6 ap = some (.inl (dA 1, 8, .inr (.inl fp))) := by rw [eg6, va_up_ne _ _ (ne_kind2 h3 h5)]; exact h3
  have h9 : g6 aw = some (.inl (dA 1, 8, .inr (.inl fw))) := by rw [eg6, va_up_ne _ _ (ne_kind2 h4 h5)]; exact h4
  have h10 : g6 i = some (.inr (2, [.int num, .long len, .ref b, .int 0, .long turn, .long start, .int ft, .int et])) := by rw [eg6]; exact va_up_self _ _ _
  refine go_aload_n X (z := 0) d_I_comeOnto_10 rfl rfl ?_
  refine go_aload_n X (z := 1) d_I_comeOnto_11 rfl rfl ?_
  refine go_lload_n X (z := 2) d_I_comeOnto_12 rfl rfl ?_
  refine go_callL_V X (As := [.long t]) (rest := [.ref i]) (c_B_wayAt h7 h8 h9 t) gm_ml_I_39 cw_B_wayAt ⟨by decide, by decide⟩ rfl h7 rfl rfl (Nat.le_of_ble_eq_true rfl) d_I_comeOnto_13 ⟨by decide, by decide⟩ (fun ru11 gu11 hu11 => ?_)
  obtain ⟨rfl, rfl⟩ := hu11
  refine go_lload X (z := 3) d_I_comeOnto_16 rfl ?_
  refine go_lsub X d_I_comeOnto_18 ?_
  refine go_topl (fun x12 ex12 => ?_)
  refine go_put X u_I rfl 5 (by decide) gm_fl_I_15 rfl t_I t_I_ok n_I rfl rfl rfl d_I_comeOnto_19 h10 (Nat.le_of_ble_eq_true rfl) ?_
  refine go_gen (fun g13 eg13 => ?_)
  have eg13 : g13 = va_up g6 i (some (.inr (2, [.int num, .long len, .ref b, .int 0, .long turn, .long x12, .int ft, .int et]))) := eg13
  have h14 : g13 b = some (.inr (0, [.int bnum, .long blen, .long spd, .long sen, va_rf onto, .int run, .int tel, .long told, .int gb, .long wat, .ref ag, .ref ap, .ref aw])) := by rw [eg13, va_up_ne _ _ (ne_cls h7 h10 (by decide))]; exact h7
  have h15 : g13 ap = some (.inl (dA 1, 8, .inr (.inl fp))) := by rw [eg13, va_up_ne _ _ (ne_kind2 h8 h10)]; exact h8
  have h16 : g13 aw = some (.inl (dA 1, 8, .inr (.inl fw))) := by rw [eg13, va_up_ne _ _ (ne_kind2 h9 h10)]; exact h9
  have h17 : g13 i = some (.inr (2, [.int num, .long len, .ref b, .int 0, .long turn, .long x12, .int ft, .int et])) := by rw [eg13]; exact va_up_self _ _ _
  refine go_aload_n X (z := 0) d_I_comeOnto_22 rfl rfl ?_
  refine go_iconst X (v := 0) d_I_comeOnto_23 (by decide) ?_
  refine go_put X u_I rfl 6 (by decide) gm_fl_I_19 rfl t_I t_I_ok n_I rfl rfl rfl d_I_comeOnto_24 h17 (Nat.le_of_ble_eq_true rfl) ?_
  refine go_gen (fun g18 eg18 => ?_)
  have eg18 : g18 = va_up g13 i (some (.inr (2, [.int num, .long len, .ref b, .int 0, .long turn, .long x12, .int 0, .int et]))) := eg18
  have h19 : g18 b = some (.inr (0, [.int bnum, .long blen, .long spd, .long sen, va_rf onto, .int run, .int tel, .long told, .int gb, .long wat, .ref ag, .ref ap, .ref aw])) := by rw [eg18, va_up_ne _ _ (ne_cls h14 h17 (by decide))]; exact h14
  have h20 : g18 ap = some (.inl (dA 1, 8, .inr (.inl fp))) := by rw [eg18, va_up_ne _ _ (ne_kind2 h15 h17)]; exact h15
  have h21 : g18 aw = some (.inl (dA 1, 8, .inr (.inl fw))) := by rw [eg18, va_up_ne _ _ (ne_kind2 h16 h17)]; exact h16
  have h22 : g18 i = some (.inr (2, [.int num, .long len, .ref b, .int 0, .long turn, .long x12, .int 0, .int et])) := by rw [eg18]; exact va_up_self _ _ _
  refine go_aload_n X (z := 0) d_I_comeOnto_27 rfl rfl ?_
  refine go_iconst X (v := 0) d_I_comeOnto_28 (by decide) ?_
  refine go_put X u_I rfl 7 (by decide) gm_fl_I_22 rfl t_I t_I_ok n_I rfl rfl rfl d_I_comeOnto_29 h22 (Nat.le_of_ble_eq_true rfl) ?_
  refine go_gen (fun g23 eg23 => ?_)
  have eg23 : g23 = va_up g18 i (some (.inr (2, [.int num, .long len, .ref b, .int 0, .long turn, .long x12, .int 0, .int 0]))) := eg23
  have h24 : g23 b = some (.inr (0, [.int bnum, .long blen, .long spd, .long sen, va_rf onto, .int run, .int tel, .long told, .int gb, .long wat, .ref ag, .ref ap, .ref aw])) := by rw [eg23, va_up_ne _ _ (ne_cls h19 h22 (by decide))]; exact h19
  have h25 : g23 ap = some (.inl (dA 1, 8, .inr (.inl fp))) := by rw [eg23, va_up_ne _ _ (ne_kind2 h20 h22)]; exact h20
  have h26 : g23 aw = some (.inl (dA 1, 8, .inr (.inl fw))) := by rw [eg23, va_up_ne _ _ (ne_kind2 h21 h22)]; exact h21
  have h27 : g23 i = some (.inr (2, [.int num, .long len, .ref b, .int 0, .long turn, .long x12, .int 0, .int 0])) := by rw [eg23]; exact va_up_self _ _ _
  refine go_aload_n X (z := 0) d_I_comeOnto_32 rfl rfl ?_
  refine go_callV_V X (As := []) (rest := []) (c_I_aim h27 h24 h25 h26) gm_ml_I_45 cw_I_aim ⟨by decide, by decide⟩ rfl h27 rfl rfl (Nat.le_of_ble_eq_true rfl) d_I_comeOnto_33 ⟨by decide, by decide⟩ (fun gz hz => ?_)
  exact go_retV X hr hlk d_I_comeOnto_36 (by rw [hz, eg23, eg18, eg13, eg6, eg1, bx_uu, bx_uu, bx_uu, bx_uu, bx_uu]; subst ex12; rfl)
set_option maxHeartbeats 4000000 in
set_option maxRecDepth 100000 in
theorem c_I_moveOver_n {l : Launch} {D : va_G} {dA : Nat → ClassId} {g : Nat → Option va_E}  (hI : g i = some (itemE num len none wt turn start ft et)) (t : Int64) : CtV l D classes (tyL dA) y_I_moveOver b_I_moveOver 5 none rm_I_moveOver [.ref i, .long t] g (fun g' => g = g') := by
  refine CtV.of (by decide) (Nat.le_of_ble_eq_true rfl) ?_
  intro p e s m below meth c X hr hlk hnm
  refine go_aload_n X (z := 0) d_I_moveOver_0 rfl rfl ?_
  refine go_get X u_I rfl 2 (by decide) gm_fl_I_32 rfl d_I_moveOver_1 hI rfl ?_
  refine go_ifnonnullN X d_I_moveOver_4 ?_
  exact go_retV X hr hlk d_I_moveOver_7 rfl
set_option maxHeartbeats 4000000 in
set_option maxRecDepth 100000 in
theorem c_I_moveOver_o {l : Launch} {D : va_G} {dA : Nat → ClassId} {g : Nat → Option va_E}  (hI : g i = some (itemE num len (some b) wt turn start ft et)) (hB : g b = some (beltE bnum blen spd sen none run tel told gb wat ag ap aw)) (hP : g ap = some (lonE dA 8 fp)) (hW : g aw = some (lonE dA 8 fw))  (t : Int64) : CtV l D classes (tyL dA) y_I_moveOver b_I_moveOver 5 none rm_I_moveOver [.ref i, .long t] g (fun g' => g' = va_up g i (some (if wt = 0 then (if 0 ≤ wayF told fp fw t - start - blen then itemE num len none wt 1000000000000 start ft et else itemE num len (some b) wt turn start ft et) else comeE num len b sen told fp fw t 0))) := by
  refine CtV.of (by decide) (Nat.le_of_ble_eq_true rfl) ?_
  intro p e s m below meth c X hr hlk hnm
  refine go_aload_n X (z := 0) d_I_moveOver_0 rfl rfl ?_
  refine go_get X u_I rfl 2 (by decide) gm_fl_I_32 rfl d_I_moveOver_1 hI rfl ?_
  refine go_ifnonnull X (tgt := 8) d_I_moveOver_4 rfl ?_
  refine go_aload_n X (z := 0) d_I_moveOver_8 rfl rfl ?_
  refine go_get X u_I rfl 3 (by decide) gm_fl_I_9 rfl d_I_moveOver_9 hI rfl ?_
  refine go_if_eq X (tgt := 26) d_I_moveOver_12 rfl (fun c1 => ?_) (fun c1 => ?_)
  · refine go_aload_n X (z := 0) d_I_moveOver_26 rfl rfl ?_
    refine go_get X u_I rfl 2 (by decide) gm_fl_I_32 rfl d_I_moveOver_27 hI rfl ?_
    refine go_lload_n X (z := 1) d_I_moveOver_30 rfl rfl ?_
    refine go_callL_V X (As := [.long t]) (rest := []) (c_B_wayAt hB hP hW t) gm_ml_I_39 cw_B_wayAt ⟨by decide, by decide⟩ rfl hB rfl rfl (Nat.le_of_ble_eq_true rfl) d_I_moveOver_31 ⟨by decide, by decide⟩ (fun ru2 gu2 hu2 => ?_)
    obtain ⟨rfl, rfl⟩ := hu2
    refine go_aload_n X (z := 0) d_I_moveOver_34 rfl rfl ?_
    refine go_get X u_I rfl 5 (by decide) gm_fl_I_15 rfl d_I_moveOver_35 hI rfl ?_
    refine go_lsub X d_I_moveOver_38 ?_
    refine go_aload_n X (z := 0) d_I_moveOver_39 rfl rfl ?_
    refine go_get X u_I rfl 2 (by decide) gm_fl_I_32 rfl d_I_moveOver_40 hI rfl ?_
    refine go_get X u_B rfl 1 (by decide) gm_fl_I_52 rfl d_I_moveOver_43 hB rfl ?_
    refine go_lsub X d_I_moveOver_46 ?_
    refine go_topl (fun x3 ex3 => ?_)
    refine go_lstore_n X (lv' := [(3, .long x3), (0, .ref i), (1, .long t)]) d_I_moveOver_47 rfl (by decide) rfl ?_
    refine go_lload_n X (z := 0) d_I_moveOver_48 rfl rfl ?_
    refine go_lconst X (v := 0) d_I_moveOver_49 (by decide) ?_
    refine go_lif_ge X (tgt := 55) d_I_moveOver_50 d_I_moveOver_51 rfl (fun c4 => ?_) (fun c4 => ?_)
    · refine go_aload_n X (z := 1) d_I_moveOver_55 rfl rfl ?_
      refine go_get X u_I rfl 2 (by decide) gm_fl_I_32 rfl d_I_moveOver_56 hI rfl ?_
      refine go_get X u_B rfl 4 (by decide) gm_fl_I_53 rfl d_I_moveOver_59 hB rfl ?_
      refine go_ifnonnullN X d_I_moveOver_62 ?_
      refine go_aload_n X (z := 1) d_I_moveOver_65 rfl rfl ?_
      refine go_null X d_I_moveOver_66 ?_
      refine go_put X u_I rfl 2 (by decide) gm_fl_I_32 rfl t_I t_I_ok n_I rfl rfl rfl d_I_moveOver_67 hI (Nat.le_of_ble_eq_true rfl) ?_
      refine go_gen (fun g5 eg5 => ?_)
      have eg5 : g5 = va_up g i (some (.inr (2, [.int num, .long len, .null, .int wt, .long turn, .long start, .int ft, .int et]))) := eg5
      have h6 : g5 b = some (.inr (0, [.int bnum, .long blen, .long spd, .long sen, .null, .int run, .int tel, .long told, .int gb, .long wat, .ref ag, .ref ap, .ref aw])) := by rw [eg5, va_up_ne _ _ (ne_cls hB hI (by decide))]; exact hB
      have h7 : g5 ap = some (.inl (dA 1, 8, .inr (.inl fp))) := by rw [eg5, va_up_ne _ _ (ne_kind2 hP hI)]; exact hP
      have h8 : g5 aw = some (.inl (dA 1, 8, .inr (.inl fw))) := by rw [eg5, va_up_ne _ _ (ne_kind2 hW hI)]; exact hW
      have h9 : g5 i = some (.inr (2, [.int num, .long len, .null, .int wt, .long turn, .long start, .int ft, .int et])) := by rw [eg5]; exact va_up_self _ _ _
      refine go_aload_n X (z := 1) d_I_moveOver_70 rfl rfl ?_
      refine go_ldc2 X d_I_moveOver_71 gm_k_I_56 ?_
      refine go_put X u_I rfl 4 (by decide) gm_fl_I_36 rfl t_I t_I_ok n_I rfl rfl rfl d_I_moveOver_74 h9 (Nat.le_of_ble_eq_true rfl) ?_
      refine go_gen (fun g10 eg10 => ?_)
      have eg10 : g10 = va_up g5 i (some (.inr (2, [.int num, .long len, .null, .int wt, .long 1000000000000, .long start, .int ft, .int et]))) := eg10
      have h11 : g10 b = some (.inr (0, [.int bnum, .long blen, .long spd, .long sen, .null, .int run, .int tel, .long told, .int gb, .long wat, .ref ag, .ref ap, .ref aw])) := by rw [eg10, va_up_ne _ _ (ne_cls h6 h9 (by decide))]; exact h6
      have h12 : g10 ap = some (.inl (dA 1, 8, .inr (.inl fp))) := by rw [eg10, va_up_ne _ _ (ne_kind2 h7 h9)]; exact h7
      have h13 : g10 aw = some (.inl (dA 1, 8, .inr (.inl fw))) := by rw [eg10, va_up_ne _ _ (ne_kind2 h8 h9)]; exact h8
      have h14 : g10 i = some (.inr (2, [.int num, .long len, .null, .int wt, .long 1000000000000, .long start, .int ft, .int et])) := by rw [eg10]; exact va_up_self _ _ _
      refine go_goto X (tgt := 93) d_I_moveOver_77 rfl ?_
      exact go_retV X hr hlk d_I_moveOver_93 (by rw [eg10, eg5, bx_uu]; subst ex3; simp only [if_pos c1, if_pos c4] <;> rfl)
    · exact go_retV X hr hlk d_I_moveOver_54 (by subst ex3; simp only [if_pos c1, if_neg c4]; exact (va_up_id hI).symm)
  · refine go_aload_n X (z := 0) d_I_moveOver_15 rfl rfl ?_
    refine go_aload_n X (z := 0) d_I_moveOver_16 rfl rfl ?_
    refine go_get X u_I rfl 2 (by decide) gm_fl_I_32 rfl d_I_moveOver_17 hI rfl ?_
    refine go_lload_n X (z := 1) d_I_moveOver_20 rfl rfl ?_
    refine go_lconst X (v := 0) d_I_moveOver_21 (by decide) ?_
    refine go_callV_V X (As := [.ref b, .long t, .long 0]) (rest := []) (c_I_comeOnto hI hB hP hW t 0) gm_ml_I_48 cw_I_comeOnto ⟨by decide, by decide⟩ rfl hI rfl rfl (Nat.le_of_ble_eq_true rfl) d_I_moveOver_22 ⟨by decide, by decide⟩ (fun gz hz => ?_)
    exact go_retV X hr hlk d_I_moveOver_25 (by rw [hz]; simp only [if_neg c1] <;> rfl)
set_option maxHeartbeats 4000000 in
set_option maxRecDepth 100000 in
theorem c_I_moveOver_s {l : Launch} {D : va_G} {dA : Nat → ClassId} {g : Nat → Option va_E}  (hI : g i = some (itemE num len (some b) wt turn start ft et)) (hB : g b = some (beltE bnum blen spd sen (some b2) run tel told gb wat ag ap aw)) (hP : g ap = some (lonE dA 8 fp)) (hW : g aw = some (lonE dA 8 fw)) (hB2 : g b2 = some (beltE bnum2 blen2 spd2 sen2 onto2 run2 tel2 told2 gb2 wat2 ag2 ap2 aw2)) (hP2 : g ap2 = some (lonE dA 8 fp2)) (hW2 : g aw2 = some (lonE dA 8 fw2)) (t : Int64) : CtV l D classes (tyL dA) y_I_moveOver b_I_moveOver 5 none rm_I_moveOver [.ref i, .long t] g (fun g' => g' = va_up g i (some (if wt = 0 then (if 0 ≤ wayF told fp fw t - start - blen then comeE num len b2 sen2 told2 fp2 fw2 t (wayF told fp fw t - start - blen) else itemE num len (some b) wt turn start ft et) else comeE num len b sen told fp fw t 0))) := by
  refine CtV.of (by decide) (Nat.le_of_ble_eq_true rfl) ?_
  intro p e s m below meth c X hr hlk hnm
  refine go_aload_n X (z := 0) d_I_moveOver_0 rfl rfl ?_
  refine go_get X u_I rfl 2 (by decide) gm_fl_I_32 rfl d_I_moveOver_1 hI rfl ?_
  refine go_ifnonnull X (tgt := 8) d_I_moveOver_4 rfl ?_
  refine go_aload_n X (z := 0) d_I_moveOver_8 rfl rfl ?_
  refine go_get X u_I rfl 3 (by decide) gm_fl_I_9 rfl d_I_moveOver_9 hI rfl ?_
  refine go_if_eq X (tgt := 26) d_I_moveOver_12 rfl (fun c1 => ?_) (fun c1 => ?_)
  · refine go_aload_n X (z := 0) d_I_moveOver_26 rfl rfl ?_
    refine go_get X u_I rfl 2 (by decide) gm_fl_I_32 rfl d_I_moveOver_27 hI rfl ?_
    refine go_lload_n X (z := 1) d_I_moveOver_30 rfl rfl ?_
    refine go_callL_V X (As := [.long t]) (rest := []) (c_B_wayAt hB hP hW t) gm_ml_I_39 cw_B_wayAt ⟨by decide, by decide⟩ rfl hB rfl rfl (Nat.le_of_ble_eq_true rfl) d_I_moveOver_31 ⟨by decide, by decide⟩ (fun ru2 gu2 hu2 => ?_)
    obtain ⟨rfl, rfl⟩ := hu2
    refine go_aload_n X (z := 0) d_I_moveOver_34 rfl rfl ?_
    refine go_get X u_I rfl 5 (by decide) gm_fl_I_15 rfl d_I_moveOver_35 hI rfl ?_
    refine go_lsub X d_I_moveOver_38 ?_
    refine go_aload_n X (z := 0) d_I_moveOver_39 rfl rfl ?_
    refine go_get X u_I rfl 2 (by decide) gm_fl_I_32 rfl d_I_moveOver_40 hI rfl ?_
    refine go_get X u_B rfl 1 (by decide) gm_fl_I_52 rfl d_I_moveOver_43 hB rfl ?_
    refine go_lsub X d_I_moveOver_46 ?_
    refine go_topl (fun x3 ex3 => ?_)
    refine go_lstore_n X (lv' := [(3, .long x3), (0, .ref i), (1, .long t)]) d_I_moveOver_47 rfl (by decide) rfl ?_
    refine go_lload_n X (z := 0) d_I_moveOver_48 rfl rfl ?_
    refine go_lconst X (v := 0) d_I_moveOver_49 (by decide) ?_
    refine go_lif_ge X (tgt := 55) d_I_moveOver_50 d_I_moveOver_51 rfl (fun c4 => ?_) (fun c4 => ?_)
    · refine go_aload_n X (z := 1) d_I_moveOver_55 rfl rfl ?_
      refine go_get X u_I rfl 2 (by decide) gm_fl_I_32 rfl d_I_moveOver_56 hI rfl ?_
      refine go_get X u_B rfl 4 (by decide) gm_fl_I_53 rfl d_I_moveOver_59 hB rfl ?_
      refine go_ifnonnull X (tgt := 80) d_I_moveOver_62 rfl ?_
      refine go_aload_n X (z := 1) d_I_moveOver_80 rfl rfl ?_
      refine go_aload_n X (z := 1) d_I_moveOver_81 rfl rfl ?_
      refine go_get X u_I rfl 2 (by decide) gm_fl_I_32 rfl d_I_moveOver_82 hI rfl ?_
      refine go_get X u_B rfl 4 (by decide) gm_fl_I_53 rfl d_I_moveOver_85 hB rfl ?_
      refine go_lload_n X (z := 2) d_I_moveOver_88 rfl rfl ?_
      refine go_lload_n X (z := 0) d_I_moveOver_89 rfl rfl ?_
      refine go_callV_V X (As := [.ref b2, .long t, .long x3]) (rest := []) (c_I_comeOnto hI hB2 hP2 hW2 t x3) gm_ml_I_48 cw_I_comeOnto ⟨by decide, by decide⟩ rfl hI rfl rfl (Nat.le_of_ble_eq_true rfl) d_I_moveOver_90 ⟨by decide, by decide⟩ (fun gz hz => ?_)
      exact go_retV X hr hlk d_I_moveOver_93 (by rw [hz]; subst ex3; simp only [if_pos c1, if_pos c4] <;> rfl)
    · exact go_retV X hr hlk d_I_moveOver_54 (by subst ex3; simp only [if_pos c1, if_neg c4]; exact (va_up_id hI).symm)
  · refine go_aload_n X (z := 0) d_I_moveOver_15 rfl rfl ?_
    refine go_aload_n X (z := 0) d_I_moveOver_16 rfl rfl ?_
    refine go_get X u_I rfl 2 (by decide) gm_fl_I_32 rfl d_I_moveOver_17 hI rfl ?_
    refine go_lload_n X (z := 1) d_I_moveOver_20 rfl rfl ?_
    refine go_lconst X (v := 0) d_I_moveOver_21 (by decide) ?_
    refine go_callV_V X (As := [.ref b, .long t, .long 0]) (rest := []) (c_I_comeOnto hI hB hP hW t 0) gm_ml_I_48 cw_I_comeOnto ⟨by decide, by decide⟩ rfl hI rfl rfl (Nat.le_of_ble_eq_true rfl) d_I_moveOver_22 ⟨by decide, by decide⟩ (fun gz hz => ?_)
    exact go_retV X hr hlk d_I_moveOver_25 (by rw [hz]; simp only [if_neg c1] <;> rfl)
end ITEM
