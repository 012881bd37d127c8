/-! BeltSteps: the public methods that make nothing. -/
def cntN (I : Nat → IT) (j : Nat) : Nat → Int32
  | 0 => 0
  | k + 1 => if isOnF I k j = 0 then cntN I j k else cntN I j k + 1
def ontoV (b : BT) : Int32 := match bOnto b with
  | none => -1
  | some q => nI q
def setOnto (b : BT) (q : Nat) : BT := (bLen b, bSpd b, bSen b, some q, bRun b, bTel b, bTold b, bGb b, bWat b, bFg b, bFp b, bFw b)
def slipI (x : IT) (v : Int64) : IT := (iLen x, iBt x, iWt x, iTurn x, iStart x + v, iFt x, iEt x)
theorem on_1 {x : IT} (h : ¬ onF x = 0) : ∃ j, iBt x = some j ∧ iWt x = 0 := by
  unfold onF at h
  cases hb : iBt x with
  | none => rw [hb] at h; exact absurd rfl h
  | some j =>
    rw [hb] at h
    simp only at h
    by_cases hw : iWt x = 0
    · exact ⟨j, rfl, hw⟩
    · rw [if_neg hw] at h; exact absurd rfl h
def BOk (b : BT) : Prop := ∀ j, j < 8 → bFg b j = gearF (bRun b) (bGb b) j ∧ bFp b j = paceF (bSpd b) (gearF (bRun b) (bGb b) j) ∧ bFw b j = wayS (bWat b) (bSpd b) (bRun b) (bGb b) j
def gbT (b : BT) (t : Int64) : Int32 := if t ≤ bTold b then bGb b else bFg b (stageF (bTold b) (t - 1)).toNatClampNeg
/-- a belt told at t -/
def IsTold (b b' : BT) (on : Int32) (t : Int64) : Prop := BOk b' ∧ bLen b' = bLen b ∧ bSpd b' = bSpd b ∧ bSen b' = bSen b ∧ bOnto b' = bOnto b ∧ bRun b' = on ∧ bTel b' = bTel b + 1 ∧ bTold b' = t ∧ bGb b' = gbT b t ∧ bWat b' = wayB b t
section S4
variable {ad : Nat → Nat} {nb ni : Nat} {now : Int64} {B : Nat → BT} {I : Nat → IT} {n : Nat} {tk : Int32} {fr : Nat → Int32}
set_option maxHeartbeats 4000000 in
set_option maxRecDepth 100000 in
theorem c_S_edge {l : Launch} {D : va_G} {dA : Nat → ClassId} {g : Nat → Option va_E}  (h : SRep dA ad g nb ni now B I n tk fr) (i what : Int32) : CtI l D classes (tyL dA) y_S_edge b_S_edge 3 (some .int) rm_S_edge [.ref (ad 0), .int i, .int what] g (fun r g' => g = g' ∧ r = readF fr (nI n) i what) := by
  refine CtI.of (by decide) (Nat.le_of_ble_eq_true rfl) ?_
  intro p e s m below meth c X hr hlk hnm
  refine go_aload_n X (z := 0) d_S_edge_0 rfl rfl ?_
  refine go_get X u_S rfl 4 (by decide) gm_fl_S_31 rfl d_S_edge_1 h.this rfl ?_
  refine go_iload_n X (z := 1) d_S_edge_4 rfl rfl ?_
  refine go_iload_n X (z := 2) d_S_edge_5 rfl rfl ?_
  refine go_callI_V X (As := [.int i, .int what]) (rest := []) (c_E_read h.es h.rs i what) gm_ml_S_82 cw_E_read ⟨by decide, by decide⟩ rfl h.es rfl rfl (Nat.le_of_ble_eq_true rfl) d_S_edge_6 ⟨by decide, by decide⟩ (fun ru gu hu => ?_)
  obtain ⟨rfl, rfl⟩ := hu
  exact go_retI X hr hlk d_S_edge_9 ⟨rfl, rfl⟩
set_option maxHeartbeats 4000000 in
set_option maxRecDepth 100000 in
theorem c_S_step {l : Launch} {D : va_G} {dA : Nat → ClassId} {g : Nat → Option va_E}  (h : SRep dA ad g nb ni now B I n tk fr) (hn : n ≤ 1000000000) (t : Int64) : CtI l D classes (tyL dA) y_S_step b_S_step 3 (some .int) rm_S_step [.ref (ad 0), .long t] g (fun r g' => (nolF now t = 0 ∧ r = -12 ∧ g = g') ∨ (¬ nolF now t = 0 ∧ r = nI (pasN B ni t 100000 I (n, fr)).2.1 - tk ∧ SRep dA ad g' nb ni t B (pasN B ni t 100000 I (n, fr)).1 (pasN B ni t 100000 I (n, fr)).2.1 (nI (pasN B ni t 100000 I (n, fr)).2.1) (pasN B ni t 100000 I (n, fr)).2.2 ∧ SFr ad nb ni g g')) := by
  refine CtI.of (by decide) (Nat.le_of_ble_eq_true rfl) ?_
  intro p e s m below meth c X hr hlk hnm
  refine go_aload_n X (z := 0) d_S_step_0 rfl rfl ?_
  refine go_lload_n X (z := 1) d_S_step_1 rfl rfl ?_
  refine go_callI_V X (As := [.long t]) (rest := []) (c_S_isNowOrLater h t) gm_ml_S_62 cw_S_isNowOrLater ⟨by decide, by decide⟩ rfl h.this rfl rfl (Nat.le_of_ble_eq_true rfl) d_S_step_2 ⟨by decide, by decide⟩ (fun ru1 gu1 hu1 => ?_)
  obtain ⟨rfl, rfl⟩ := hu1
  refine go_if_ne X (tgt := 11) d_S_step_5 rfl (fun c2 => ?_) (fun c2 => ?_)
  · refine go_aload_n X (z := 0) d_S_step_11 rfl rfl ?_
    refine go_lload_n X (z := 1) d_S_step_12 rfl rfl ?_
    refine go_callV_V X (As := [.long t]) (rest := []) (c_S_passTo h hn t) gm_ml_S_74 cw_S_passTo ⟨by decide, by decide⟩ rfl h.this rfl rfl (Nat.le_of_ble_eq_true rfl) d_S_step_13 ⟨by decide, by decide⟩ (fun gz hz => ?_)
    obtain ⟨hz, hzF⟩ := hz
    refine go_aload_n X (z := 0) d_S_step_16 rfl rfl ?_
    refine go_get X u_S rfl 4 (by decide) gm_fl_S_31 rfl d_S_step_17 hz.this rfl ?_
    refine go_callI_V X (As := []) (rest := []) (c_E_takeNew hz.es) gm_ml_S_78 cw_E_takeNew ⟨by decide, by decide⟩ rfl hz.es rfl rfl (Nat.le_of_ble_eq_true rfl) d_S_step_20 ⟨by decide, by decide⟩ (fun ru gu hu => ?_)
    obtain ⟨hu, rfl⟩ := hu
    have he := hz.setE (n' := (pasN B ni t 100000 I (n, fr)).2.1) (tk' := nI (pasN B ni t 100000 I (n, fr)).2.1) (fr' := (pasN B ni t 100000 I (n, fr)).2.2)
    rw [va_up_id hz.rs, ← hu] at he
    exact go_retI X hr hlk d_S_step_23 (Or.inr ⟨c2, rfl, he, hzF.trans (hu ▸ SFr.up (ok0 (by omega)))⟩)
  · refine go_bipush X (v := (-12)) d_S_step_8 (by decide) ?_
    exact go_retI X hr hlk d_S_step_10 (Or.inl ⟨c2, rfl, rfl⟩)
set_option maxHeartbeats 4000000 in
set_option maxRecDepth 100000 in
theorem c_S_gear {l : Launch} {D : va_G} {dA : Nat → ClassId} {g : Nat → Option va_E}  (h : SRep dA ad g nb ni now B I n tk fr) (x : Int32) (t : Int64) : CtI l D classes (tyL dA) y_S_gear b_S_gear 5 (some .int) rm_S_gear [.ref (ad 0), .int x, .long t] g (fun r g' => g = g' ∧ (((∀ k, k < nb → x ≠ nI k) ∧ r = -11) ∨ (∃ k, k < nb ∧ x = nI k ∧ ((nolF now t = 0 ∧ r = -12) ∨ (¬ nolF now t = 0 ∧ r = bFg (B k) (stageF (bTold (B k)) t).toNatClampNeg))))) := by
  refine CtI.of (by decide) (Nat.le_of_ble_eq_true rfl) ?_
  intro p e s m below meth c X hr hlk hnm
  refine go_aload_n X (z := 0) d_S_gear_0 rfl rfl ?_
  refine go_iload_n X (z := 1) d_S_gear_1 rfl rfl ?_
  refine go_callR_V X (As := [.int x]) (rest := []) (c_S_beltNumbered h x) gm_ml_S_54 cw_S_beltNumbered ⟨by decide, by decide⟩ rfl h.this rfl rfl (Nat.le_of_ble_eq_true rfl) d_S_gear_2 ⟨by decide, by decide⟩ (fun ru1 gu1 hu1 => ?_)
  obtain ⟨rfl, (⟨k, hk, rfl, rfl⟩ | ⟨rfl, hnok⟩)⟩ := hu1
  · refine go_astore X (lv' := [(4, .ref (bA ad k)), (0, .ref (ad 0)), (1, .int ((nI k))), (2, .long t)]) d_S_gear_5 (by decide) rfl ?_
    refine go_aload X (z := 0) d_S_gear_7 rfl ?_
    refine go_ifnonnull X (tgt := 15) d_S_gear_9 rfl ?_
    refine go_aload_n X (z := 1) d_S_gear_15 rfl rfl ?_
    refine go_lload_n X (z := 3) d_S_gear_16 rfl rfl ?_
    refine go_callI_V X (As := [.long t]) (rest := []) (c_S_isNowOrLater h t) gm_ml_S_62 cw_S_isNowOrLater ⟨by decide, by decide⟩ rfl h.this rfl rfl (Nat.le_of_ble_eq_true rfl) d_S_gear_17 ⟨by decide, by decide⟩ (fun ru2 gu2 hu2 => ?_)
    obtain ⟨rfl, rfl⟩ := hu2
    refine go_if_ne X (tgt := 26) d_S_gear_20 rfl (fun c3 => ?_) (fun c3 => ?_)
    · refine go_aload X (z := 0) d_S_gear_26 rfl ?_
      refine go_lload_n X (z := 3) d_S_gear_28 rfl rfl ?_
      refine go_callI_V X (As := [.long t]) (rest := []) (s_gearAt h hk t) gm_ml_S_145 cw_B_gearAt ⟨by decide, by decide⟩ rfl (h.b hk) rfl rfl (Nat.le_of_ble_eq_true rfl) d_S_gear_29 ⟨by decide, by decide⟩ (fun ru gu hu => ?_)
      obtain ⟨rfl, rfl⟩ := hu
      exact go_retI X hr hlk d_S_gear_32 ⟨rfl, Or.inr ⟨k, hk, rfl, Or.inr ⟨c3, rfl⟩⟩⟩
    · refine go_bipush X (v := (-12)) d_S_gear_23 (by decide) ?_
      exact go_retI X hr hlk d_S_gear_25 ⟨rfl, Or.inr ⟨k, hk, rfl, Or.inl ⟨c3, rfl⟩⟩⟩
  · refine go_astoreN X (lv' := [(4, .null), (0, .ref (ad 0)), (1, .int x), (2, .long t)]) d_S_gear_5 (by decide) rfl ?_
    refine go_aloadN X (z := 0) d_S_gear_7 rfl ?_
    refine go_ifnonnullN X d_S_gear_9 ?_
    refine go_bipush X (v := (-11)) d_S_gear_12 (by decide) ?_
    exact go_retI X hr hlk d_S_gear_14 ⟨rfl, Or.inl ⟨hnok, rfl⟩⟩
set_option maxHeartbeats 4000000 in
set_option maxRecDepth 100000 in
theorem c_S_place {l : Launch} {D : va_G} {dA : Nat → ClassId} {g : Nat → Option va_E}  (h : SRep dA ad g nb ni now B I n tk fr) (x : Int32) (t : Int64) : CtL l D classes (tyL dA) y_S_place b_S_place 5 (some .long) rm_S_place [.ref (ad 0), .int x, .long t] g (fun r g' => g = g' ∧ (((∀ k, k < ni → x ≠ nI (k + 1)) ∧ r = -11) ∨ (∃ k, k < ni ∧ x = nI (k + 1) ∧ ((nolF now t = 0 ∧ r = -12) ∨ (¬ nolF now t = 0 ∧ r = paF B (I k) t))))) := by
  refine CtL.of (by decide) (Nat.le_of_ble_eq_true rfl) ?_
  intro p e s m below meth c X hr hlk hnm
  refine go_aload_n X (z := 0) d_S_place_0 rfl rfl ?_
  refine go_iload_n X (z := 1) d_S_place_1 rfl rfl ?_
  refine go_callR_V X (As := [.int x]) (rest := []) (c_S_itemNumbered h x) gm_ml_S_101 cw_S_itemNumbered ⟨by decide, by decide⟩ rfl h.this rfl rfl (Nat.le_of_ble_eq_true rfl) d_S_place_2 ⟨by decide, by decide⟩ (fun ru1 gu1 hu1 => ?_)
  obtain ⟨rfl, (⟨k, hk, rfl, rfl⟩ | ⟨rfl, hnok⟩)⟩ := hu1
  · refine go_astore X (lv' := [(4, .ref (iA ad k)), (0, .ref (ad 0)), (1, .int ((nI (k + 1)))), (2, .long t)]) d_S_place_5 (by decide) rfl ?_
    refine go_aload X (z := 0) d_S_place_7 rfl ?_
    refine go_ifnonnull X (tgt := 16) d_S_place_9 rfl ?_
    refine go_aload_n X (z := 1) d_S_place_16 rfl rfl ?_
    refine go_lload_n X (z := 3) d_S_place_17 rfl rfl ?_
    refine go_callI_V X (As := [.long t]) (rest := []) (c_S_isNowOrLater h t) gm_ml_S_62 cw_S_isNowOrLater ⟨by decide, by decide⟩ rfl h.this rfl rfl (Nat.le_of_ble_eq_true rfl) d_S_place_18 ⟨by decide, by decide⟩ (fun ru2 gu2 hu2 => ?_)
    obtain ⟨rfl, rfl⟩ := hu2
    refine go_if_ne X (tgt := 28) d_S_place_21 rfl (fun c3 => ?_) (fun c3 => ?_)
    · refine go_aload X (z := 0) d_S_place_28 rfl ?_
      refine go_lload_n X (z := 3) d_S_place_30 rfl rfl ?_
      refine go_callL_S X (As := [.ref (iA ad k), .long t]) (rest := []) (c_S_placeAhead h hk t) gm_ml_S_131 cw_S_placeAhead ⟨by decide, by decide⟩ rfl rfl (Nat.le_of_ble_eq_true rfl) d_S_place_31 ⟨by decide, by decide⟩ (fun ru gu hu => ?_)
      obtain ⟨rfl, rfl⟩ := hu
      exact go_retL X hr hlk d_S_place_34 ⟨rfl, Or.inr ⟨k, hk, rfl, Or.inr ⟨c3, rfl⟩⟩⟩
    · refine go_ldc2 X d_S_place_24 gm_k_S_129 ?_
      exact go_retL X hr hlk d_S_place_27 ⟨rfl, Or.inr ⟨k, hk, rfl, Or.inl ⟨c3, rfl⟩⟩⟩
  · refine go_astoreN X (lv' := [(4, .null), (0, .ref (ad 0)), (1, .int x), (2, .long t)]) d_S_place_5 (by decide) rfl ?_
    refine go_aloadN X (z := 0) d_S_place_7 rfl ?_
    refine go_ifnonnullN X d_S_place_9 ?_
    refine go_ldc2 X d_S_place_12 gm_k_S_127 ?_
    exact go_retL X hr hlk d_S_place_15 ⟨rfl, Or.inl ⟨hnok, rfl⟩⟩
set_option maxHeartbeats 4000000 in
set_option maxRecDepth 100000 in
theorem c_S_count {l : Launch} {D : va_G} {dA : Nat → ClassId} {g : Nat → Option va_E}  (h : SRep dA ad g nb ni now B I n tk fr) (x : Int32) : CtI l D classes (tyL dA) y_S_count b_S_count 5 (some .int) rm_S_count [.ref (ad 0), .int x] g (fun r g' => g = g' ∧ (((∀ k, k < nb → x ≠ nI k) ∧ r = -11) ∨ (∃ k, k < nb ∧ x = nI k ∧ r = cntN I k ni))) := by
  refine CtI.of (by decide) (Nat.le_of_ble_eq_true rfl) ?_
  intro p e s m below meth c X hr hlk hnm
  have hni := h.ni60
  refine go_aload_n X (z := 0) d_S_count_0 rfl rfl ?_
  refine go_iload_n X (z := 1) d_S_count_1 rfl rfl ?_
  refine go_callR_V X (As := [.int x]) (rest := []) (c_S_beltNumbered h x) gm_ml_S_54 cw_S_beltNumbered ⟨by decide, by decide⟩ rfl h.this rfl rfl (Nat.le_of_ble_eq_true rfl) d_S_count_2 ⟨by decide, by decide⟩ (fun ru1 gu1 hu1 => ?_)
  obtain ⟨rfl, (⟨j, hj, rfl, rfl⟩ | ⟨rfl, hnoj⟩)⟩ := hu1
  · refine go_astore_n X (lv' := [(2, .ref (bA ad j)), (0, .ref (ad 0)), (1, .int ((nI j)))]) d_S_count_5 rfl (by decide) rfl ?_
    refine go_aload_n X (z := 0) d_S_count_6 rfl rfl ?_
    refine go_ifnonnull X (tgt := 13) d_S_count_7 rfl ?_
    refine go_iconst X (v := 0) d_S_count_13 (by decide) ?_
    refine go_istore_n X (lv' := [(3, .int 0), (2, .ref (bA ad j)), (0, .ref (ad 0)), (1, .int ((nI j)))]) d_S_count_14 rfl (by decide) rfl ?_
    refine go_iconst X (v := 0) d_S_count_15 (by decide) ?_
    refine go_istore X (lv' := [(4, .int 0), (3, .int 0), (2, .ref (bA ad j)), (0, .ref (ad 0)), (1, .int ((nI j)))]) d_S_count_16 (by decide) rfl ?_
    have loop : ∀ (f k : Nat) (v : Int32), k + f = ni → v = cntN I j k → Go p l e rm_S_count s m [.ref (ad 0), .int ((nI j))].toArray below meth c D classes (gA g s.heap.size) 5 (MQ below (va_Qi (fun r g' => g = g' ∧ (((∀ k, k < nb → nI j ≠ nI k) ∧ r = -11) ∨ (∃ k, k < nb ∧ nI j = nI k ∧ r = cntN I k ni))) (fun (g' : Nat → Option va_E) (t : State) => PW D classes (gA g s.heap.size) g' t.heap) (gA g s.heap.size)) [.ref (ad 0), .int ((nI j))].toArray s 0 0 (gA g s.heap.size)) g 0 0 18 [(4, .int ((nI k))), (3, .int v), (2, .ref (bA ad j)), (0, .ref (ad 0)), (1, .int ((nI j)))] [] := by
      intro f
      induction f with
      | zero =>
        intro k v hk hv
        have hkn : k = ni := by omega
        subst hkn
        refine go_iload X (z := 0) d_S_count_18 rfl ?_
        refine go_aload_n X (z := 3) d_S_count_20 rfl rfl ?_
        refine go_get X u_S rfl 3 (by decide) gm_fl_S_25 rfl d_S_count_21 h.this rfl ?_
        refine go_icmp_ge X (tgt := 50) d_S_count_24 rfl (fun c1 => ?_) (fun c1 => absurd (Int32.le_refl _) c1)
        refine go_iload_n X (z := 1) d_S_count_50 rfl rfl ?_
        exact go_retI X hr hlk d_S_count_51 ⟨rfl, Or.inr ⟨j, hj, rfl, hv⟩⟩
      | succ f ih =>
        intro k v hkf hv
        have hk : k < ni := by omega
        refine go_iload X (z := 0) d_S_count_18 rfl ?_
        refine go_aload_n X (z := 3) d_S_count_20 rfl rfl ?_
        refine go_get X u_S rfl 3 (by decide) gm_fl_S_25 rfl d_S_count_21 h.this rfl ?_
        refine go_icmp_ge X (tgt := 50) d_S_count_24 rfl (fun c1 => absurd c1 (nI_ge (a := k) (b := ni) hk (by omega))) (fun c1 => ?_)
        refine go_aload_n X (z := 3) d_S_count_27 rfl rfl ?_
        refine go_get X u_S rfl 2 (by decide) gm_fl_S_21 rfl d_S_count_28 h.this rfl ?_
        refine go_iload X (z := 0) d_S_count_31 rfl ?_
        refine go_aald X 4 rfl d_S_count_33 h.is (vp_in_nI (by omega) (by decide)) ?_
        rw [iTab_at hk h.ni60]
        refine go_aload_n X (z := 2) d_S_count_34 rfl rfl ?_
        refine go_callI_V X (As := [.ref (bA ad j)]) (rest := []) (s_isOn h hk hj) gm_ml_S_141 cw_I_isOn ⟨by decide, by decide⟩ rfl (h.i hk) rfl rfl (Nat.le_of_ble_eq_true rfl) d_S_count_35 ⟨by decide, by decide⟩ (fun ru gu hu => ?_)
        obtain ⟨rfl, rfl⟩ := hu
        refine go_if_eq X (tgt := 44) d_S_count_38 rfl (fun c2 => ?_) (fun c2 => ?_)
        · refine go_iinc X (j := 0) (v := nI (k + 1)) d_S_count_44 rfl (nI_1 k) (by decide) rfl ?_
          refine go_goto X (tgt := 18) d_S_count_47 rfl ?_
          exact ih (k + 1) v (by omega) (by simp only [cntN]; rw [if_pos c2, hv])
        · refine go_iinc X (j := 1) (v := v + 1) d_S_count_41 rfl rfl (by decide) rfl ?_
          refine go_iinc X (j := 1) (v := nI (k + 1)) d_S_count_44 rfl (nI_1 k) (by decide) rfl ?_
          refine go_goto X (tgt := 18) d_S_count_47 rfl ?_
          exact ih (k + 1) (v + 1) (by omega) (by simp only [cntN]; rw [if_neg c2, hv])
    refine go_sub (lv' := [(4, .int (nI 0)), (3, .int 0), (2, .ref (bA ad j)), (0, .ref (ad 0)), (1, .int (nI j))]) [0, 1, 2, 3, 4] rfl ?_
    exact loop ni 0 0 (Nat.zero_add _) rfl
  · refine go_astore_nN X (lv' := [(2, .null), (0, .ref (ad 0)), (1, .int x)]) d_S_count_5 rfl (by decide) rfl ?_
    refine go_aload_nN X (z := 0) d_S_count_6 rfl rfl ?_
    refine go_ifnonnullN X d_S_count_7 ?_
    refine go_bipush X (v := (-11)) d_S_count_10 (by decide) ?_
    exact go_retI X hr hlk d_S_count_12 ⟨rfl, Or.inl ⟨hnoj, rfl⟩⟩
set_option maxHeartbeats 4000000 in
set_option maxRecDepth 100000 in
theorem c_S_gap {l : Launch} {D : va_G} {dA : Nat → ClassId} {g : Nat → Option va_E}  (h : SRep dA ad g nb ni now B I n tk fr) (x y : Int32) : CtI l D classes (tyL dA) y_S_gap b_S_gap 5 (some .int) rm_S_gap [.ref (ad 0), .int x, .int y] g (fun r g' => g = g' ∧ ((((∀ k, k < ni → x ≠ nI (k + 1)) ∨ (∀ k, k < ni → y ≠ nI (k + 1))) ∧ r = -11) ∨ (∃ k, k < ni ∧ x = nI (k + 1) ∧ ∃ q, q < ni ∧ y = nI (q + 1) ∧ ((nI (k + 1) = nI (q + 1) ∧ r = -12) ∨ (¬ nI (k + 1) = nI (q + 1) ∧ (((onF (I k) = 0 ∨ onF (I q) = 0 ∨ ¬ iBt (I k) = iBt (I q)) ∧ r = -13) ∨ (∃ j, iBt (I k) = some j ∧ iBt (I q) = some j ∧ iWt (I k) = 0 ∧ iWt (I q) = 0 ∧ r = (wayB (B j) now - iStart (I q) - iLen (I q) - (wayB (B j) now - iStart (I k))).toInt32))))))) := by
  refine CtI.of (by decide) (Nat.le_of_ble_eq_true rfl) ?_
  intro p e s m below meth c X hr hlk hnm
  refine go_aload_n X (z := 0) d_S_gap_0 rfl rfl ?_
  refine go_iload_n X (z := 1) d_S_gap_1 rfl rfl ?_
  refine go_callR_V X (As := [.int x]) (rest := []) (c_S_itemNumbered h x) gm_ml_S_101 cw_S_itemNumbered ⟨by decide, by decide⟩ rfl h.this rfl rfl (Nat.le_of_ble_eq_true rfl) d_S_gap_2 ⟨by decide, by decide⟩ (fun ru1 gu1 hu1 => ?_)
  obtain ⟨rfl, (⟨k, hk, rfl, rfl⟩ | ⟨rfl, hnok⟩)⟩ := hu1
  · refine go_astore_n X (lv' := [(3, .ref (iA ad k)), (0, .ref (ad 0)), (1, .int ((nI (k + 1)))), (2, .int y)]) d_S_gap_5 rfl (by decide) rfl ?_
    refine go_aload_n X (z := 1) d_S_gap_6 rfl rfl ?_
    refine go_iload_n X (z := 3) d_S_gap_7 rfl rfl ?_
    refine go_callR_V X (As := [.int y]) (rest := []) (c_S_itemNumbered h y) gm_ml_S_101 cw_S_itemNumbered ⟨by decide, by decide⟩ rfl h.this rfl rfl (Nat.le_of_ble_eq_true rfl) d_S_gap_8 ⟨by decide, by decide⟩ (fun ru2 gu2 hu2 => ?_)
    obtain ⟨rfl, (⟨q, hq, rfl, rfl⟩ | ⟨rfl, hnoq⟩)⟩ := hu2
    · refine go_astore X (lv' := [(4, .ref (iA ad q)), (3, .ref (iA ad k)), (0, .ref (ad 0)), (1, .int ((nI (k + 1)))), (2, .int ((nI (q + 1))))]) d_S_gap_11 (by decide) rfl ?_
      refine go_aload_n X (z := 1) d_S_gap_13 rfl rfl ?_
      refine go_ifnull X d_S_gap_14 ?_
      refine go_aload X (z := 0) d_S_gap_17 rfl ?_
      refine go_ifnonnull X (tgt := 25) d_S_gap_19 rfl ?_
      refine go_iload_n X (z := 3) d_S_gap_25 rfl rfl ?_
      refine go_iload_n X (z := 4) d_S_gap_26 rfl rfl ?_
      refine go_icmp_ne X (tgt := 33) d_S_gap_27 rfl (fun c3 => ?_) (fun c3 => ?_)
      · refine go_aload_n X (z := 1) d_S_gap_33 rfl rfl ?_
        refine go_callI_V X (As := []) (rest := []) (s_isOnABelt h hk) gm_ml_S_107 cw_I_isOnABelt ⟨by decide, by decide⟩ rfl (h.i hk) rfl rfl (Nat.le_of_ble_eq_true rfl) d_S_gap_34 ⟨by decide, by decide⟩ (fun ru4 gu4 hu4 => ?_)
        obtain ⟨rfl, rfl⟩ := hu4
        refine go_if_eq X (tgt := 48) d_S_gap_37 rfl (fun c5 => ?_) (fun c5 => ?_)
        · refine go_bipush X (v := (-13)) d_S_gap_48 (by decide) ?_
          exact go_retI X hr hlk d_S_gap_50 ⟨rfl, Or.inr ⟨k, hk, rfl, q, hq, rfl, Or.inr ⟨c3, Or.inl ⟨Or.inl c5, rfl⟩⟩⟩⟩
        · refine go_aload X (z := 0) d_S_gap_40 rfl ?_
          refine go_callI_V X (As := []) (rest := []) (s_isOnABelt h hq) gm_ml_S_107 cw_I_isOnABelt ⟨by decide, by decide⟩ rfl (h.i hq) rfl rfl (Nat.le_of_ble_eq_true rfl) d_S_gap_42 ⟨by decide, by decide⟩ (fun ru6 gu6 hu6 => ?_)
          obtain ⟨rfl, rfl⟩ := hu6
          refine go_if_ne X (tgt := 51) d_S_gap_45 rfl (fun c7 => ?_) (fun c7 => ?_)
          · obtain ⟨j1, hbk, hwk⟩ := on_1 c5
            obtain ⟨j2, hbq, hwq⟩ := on_1 c7
            refine go_aload_n X (z := 1) d_S_gap_51 rfl rfl ?_
            refine go_get X u_I rfl 2 (by decide) gm_fl_S_135 rfl d_S_gap_52 (h.iS hk hbk) rfl ?_
            refine go_aload X (z := 0) d_S_gap_55 rfl ?_
            refine go_get X u_I rfl 2 (by decide) gm_fl_S_135 rfl d_S_gap_57 (h.iS hq hbq) rfl ?_
            refine go_acmp_eq X (ry := (some (bA ad j2))) (rx := (some (bA ad j1))) (tgt := 66) d_S_gap_60 rfl (fun c8 => ?_) (fun c8 => ?_)
            · refine go_aload X (z := 0) d_S_gap_66 rfl ?_
              refine go_aload_n X (z := 2) d_S_gap_68 rfl rfl ?_
              refine go_get X u_S rfl 5 (by decide) gm_fl_S_35 rfl d_S_gap_69 h.this rfl ?_
              refine go_callL_V X (As := [.long now]) (rest := []) (s_placeAt h hq hbq now) gm_ml_S_111 cw_I_placeAt ⟨by decide, by decide⟩ rfl (h.iS hq hbq) rfl rfl (Nat.le_of_ble_eq_true rfl) d_S_gap_72 ⟨by decide, by decide⟩ (fun ru9 gu9 hu9 => ?_)
              obtain ⟨rfl, rfl⟩ := hu9
              refine go_aload X (z := 0) d_S_gap_75 rfl ?_
              refine go_get X u_I rfl 1 (by decide) gm_fl_S_138 rfl d_S_gap_77 (h.iS hq hbq) rfl ?_
              refine go_lsub X d_S_gap_80 ?_
              refine go_aload_n X (z := 1) d_S_gap_81 rfl rfl ?_
              refine go_aload_n X (z := 2) d_S_gap_82 rfl rfl ?_
              refine go_get X u_S rfl 5 (by decide) gm_fl_S_35 rfl d_S_gap_83 h.this rfl ?_
              refine go_callL_V X (As := [.long now]) (rest := [.long (((wayB (B j2) now - iStart (I q))) - ((iLen (I q))))]) (s_placeAt h hk hbk now) gm_ml_S_111 cw_I_placeAt ⟨by decide, by decide⟩ rfl (h.iS hk hbk) rfl rfl (Nat.le_of_ble_eq_true rfl) d_S_gap_86 ⟨by decide, by decide⟩ (fun ru10 gu10 hu10 => ?_)
              obtain ⟨rfl, rfl⟩ := hu10
              refine go_lsub X d_S_gap_89 ?_
              refine go_l2i X d_S_gap_90 rfl ?_
              have hjj : j1 = j2 := bA_inj h (h.bt hk hbk) (h.bt hq hbq) (Option.some.inj c8)
              subst hjj
              exact go_retI X hr hlk d_S_gap_91 ⟨rfl, Or.inr ⟨k, hk, rfl, q, hq, rfl, Or.inr ⟨c3, Or.inr ⟨j1, hbk, hbq, hwk, hwq, rfl⟩⟩⟩⟩
            · refine go_bipush X (v := (-13)) d_S_gap_63 (by decide) ?_
              exact go_retI X hr hlk d_S_gap_65 ⟨rfl, Or.inr ⟨k, hk, rfl, q, hq, rfl, Or.inr ⟨c3, Or.inl ⟨Or.inr (Or.inr (fun z => c8 (by rw [hbk, hbq] at z; rw [Option.some.inj z]))), rfl⟩⟩⟩⟩
          · refine go_bipush X (v := (-13)) d_S_gap_48 (by decide) ?_
            exact go_retI X hr hlk d_S_gap_50 ⟨rfl, Or.inr ⟨k, hk, rfl, q, hq, rfl, Or.inr ⟨c3, Or.inl ⟨Or.inr (Or.inl c7), rfl⟩⟩⟩⟩
      · refine go_bipush X (v := (-12)) d_S_gap_30 (by decide) ?_
        exact go_retI X hr hlk d_S_gap_32 ⟨rfl, Or.inr ⟨k, hk, rfl, q, hq, rfl, Or.inl ⟨c3, rfl⟩⟩⟩
    · refine go_astoreN X (lv' := [(4, .null), (3, .ref (iA ad k)), (0, .ref (ad 0)), (1, .int ((nI (k + 1)))), (2, .int y)]) d_S_gap_11 (by decide) rfl ?_
      refine go_aload_n X (z := 1) d_S_gap_13 rfl rfl ?_
      refine go_ifnull X d_S_gap_14 ?_
      refine go_aloadN X (z := 0) d_S_gap_17 rfl ?_
      refine go_ifnonnullN X d_S_gap_19 ?_
      refine go_bipush X (v := (-11)) d_S_gap_22 (by decide) ?_
      exact go_retI X hr hlk d_S_gap_24 ⟨rfl, Or.inl ⟨Or.inr hnoq, rfl⟩⟩
  · refine go_astore_nN X (lv' := [(3, .null), (0, .ref (ad 0)), (1, .int x), (2, .int y)]) d_S_gap_5 rfl (by decide) rfl ?_
    refine go_aload_n X (z := 1) d_S_gap_6 rfl rfl ?_
    refine go_iload_n X (z := 3) d_S_gap_7 rfl rfl ?_
    refine go_callR_V X (As := [.int y]) (rest := []) (c_S_itemNumbered h y) gm_ml_S_101 cw_S_itemNumbered ⟨by decide, by decide⟩ rfl h.this rfl rfl (Nat.le_of_ble_eq_true rfl) d_S_gap_8 ⟨by decide, by decide⟩ (fun ru11 gu11 hu11 => ?_)
    obtain ⟨rfl, (⟨q, hq, rfl, rfl⟩ | ⟨rfl, hnoq⟩)⟩ := hu11
    · refine go_astore X (lv' := [(4, .ref (iA ad q)), (3, .null), (0, .ref (ad 0)), (1, .int x), (2, .int ((nI (q + 1))))]) d_S_gap_11 (by decide) rfl ?_
      refine go_aload_nN X (z := 1) d_S_gap_13 rfl rfl ?_
      refine go_ifnullN X (tgt := 22) d_S_gap_14 rfl ?_
      refine go_bipush X (v := (-11)) d_S_gap_22 (by decide) ?_
      exact go_retI X hr hlk d_S_gap_24 ⟨rfl, Or.inl ⟨Or.inl hnok, rfl⟩⟩
    · refine go_astoreN X (lv' := [(4, .null), (3, .null), (0, .ref (ad 0)), (1, .int x), (2, .int y)]) d_S_gap_11 (by decide) rfl ?_
      refine go_aload_nN X (z := 1) d_S_gap_13 rfl rfl ?_
      refine go_ifnullN X (tgt := 22) d_S_gap_14 rfl ?_
      refine go_bipush X (v := (-11)) d_S_gap_22 (by decide) ?_
      exact go_retI X hr hlk d_S_gap_24 ⟨rfl, Or.inl ⟨Or.inl hnok, rfl⟩⟩
set_option maxHeartbeats 4000000 in
set_option maxRecDepth 100000 in
theorem c_S_join {l : Launch} {D : va_G} {dA : Nat → ClassId} {g : Nat → Option va_E}  (h : SRep dA ad g nb ni now B I n tk fr) (x y : Int32) : CtI l D classes (tyL dA) y_S_join b_S_join 6 (some .int) rm_S_join [.ref (ad 0), .int x, .int y] g (fun r g' => (((∀ k, k < nb → x ≠ nI k) ∨ (∀ k, k < nb → y ≠ nI k)) ∧ r = -11 ∧ g = g') ∨ (∃ k, k < nb ∧ x = nI k ∧ ∃ q, q < nb ∧ y = nI q ∧ ((¬ nI k < nI q ∧ r = -12 ∧ g = g') ∨ (nI k < nI q ∧ r = ontoV (B k) ∧ SRep dA ad g' nb ni now (va_up B k (setOnto (B k) q)) I n tk fr ∧ SFr ad nb ni g g')))) := by
  refine CtI.of (by decide) (Nat.le_of_ble_eq_true rfl) ?_
  intro p e s m below meth c X hr hlk hnm
  refine go_aload_n X (z := 0) d_S_join_0 rfl rfl ?_
  refine go_iload_n X (z := 1) d_S_join_1 rfl rfl ?_
  refine go_callR_V X (As := [.int x]) (rest := []) (c_S_beltNumbered h x) gm_ml_S_54 cw_S_beltNumbered ⟨by decide, by decide⟩ rfl h.this rfl rfl (Nat.le_of_ble_eq_true rfl) d_S_join_2 ⟨by decide, by decide⟩ (fun ru1 gu1 hu1 => ?_)
  obtain ⟨rfl, (⟨k, hk, rfl, rfl⟩ | ⟨rfl, hnok⟩)⟩ := hu1
  · refine go_astore_n X (lv' := [(3, .ref (bA ad k)), (0, .ref (ad 0)), (1, .int ((nI k))), (2, .int y)]) d_S_join_5 rfl (by decide) rfl ?_
    refine go_aload_n X (z := 1) d_S_join_6 rfl rfl ?_
    refine go_iload_n X (z := 3) d_S_join_7 rfl rfl ?_
    refine go_callR_V X (As := [.int y]) (rest := []) (c_S_beltNumbered h y) gm_ml_S_54 cw_S_beltNumbered ⟨by decide, by decide⟩ rfl h.this rfl rfl (Nat.le_of_ble_eq_true rfl) d_S_join_8 ⟨by decide, by decide⟩ (fun ru2 gu2 hu2 => ?_)
    obtain ⟨rfl, (⟨q, hq, rfl, rfl⟩ | ⟨rfl, hnoq⟩)⟩ := hu2
    · refine go_astore X (lv' := [(4, .ref (bA ad q)), (3, .ref (bA ad k)), (0, .ref (ad 0)), (1, .int ((nI k))), (2, .int ((nI q)))]) d_S_join_11 (by decide) rfl ?_
      refine go_aload_n X (z := 1) d_S_join_13 rfl rfl ?_
      refine go_ifnull X d_S_join_14 ?_
      refine go_aload X (z := 0) d_S_join_17 rfl ?_
      refine go_ifnonnull X (tgt := 25) d_S_join_19 rfl ?_
      refine go_iload_n X (z := 4) d_S_join_25 rfl rfl ?_
      refine go_iload_n X (z := 3) d_S_join_26 rfl rfl ?_
      refine go_icmp_gt X (tgt := 33) d_S_join_27 rfl (fun c3 => ?_) (fun c3 => ?_)
      · cases ho : bOnto (B k) with
        | none =>
          refine go_aload_n X (z := 1) d_S_join_33 rfl rfl ?_
          refine go_get X u_B rfl 4 (by decide) gm_fl_S_58 rfl d_S_join_34 (h.bN hk ho) rfl ?_
          refine go_ifnonnullN X d_S_join_37 ?_
          refine go_iconst X (v := (-1)) d_S_join_40 (by decide) ?_
          refine go_goto X (tgt := 51) d_S_join_41 rfl ?_
          refine go_istore X (lv' := [(5, .int ((-1))), (4, .ref (bA ad q)), (3, .ref (bA ad k)), (0, .ref (ad 0)), (1, .int ((nI k))), (2, .int ((nI q)))]) d_S_join_51 (by decide) rfl ?_
          refine go_aload_n X (z := 2) d_S_join_53 rfl rfl ?_
          refine go_aload X (z := 1) d_S_join_54 rfl ?_
          refine go_put X u_B rfl 4 (by decide) gm_fl_S_58 rfl t_B t_B_ok n_B rfl rfl rfl d_S_join_56 (h.bN hk ho) (Nat.le_of_ble_eq_true rfl) ?_
          refine go_gen (fun gp ep => ?_)
          have hq3 : SRep dA ad gp nb ni now (va_up B k (setOnto (B k) q)) I n tk fr := h.setB hk (b := setOnto (B k) q) (fun j hj => by cases hj; exact hq) (by rw [ep, va_up_self]; rfl) (by rw [ep, va_up_ne _ _ (h.ne (Or.inr (Or.inl (by omega))) (Or.inr (Or.inl (by omega))) (by omega))]; exact h.bg hk) (by rw [ep, va_up_ne _ _ (h.ne (Or.inr (Or.inl (by omega))) (Or.inr (Or.inl (by omega))) (by omega))]; exact h.bp hk) (by rw [ep, va_up_ne _ _ (h.ne (Or.inr (Or.inl (by omega))) (Or.inr (Or.inl (by omega))) (by omega))]; exact h.bw hk) (fun z n0 _ _ _ => by rw [ep, va_up_ne _ _ n0])
          refine go_iload X (z := 0) d_S_join_59 rfl ?_
          exact go_retI X hr hlk d_S_join_61 (Or.inr ⟨k, hk, rfl, q, hq, rfl, Or.inr ⟨c3, by unfold ontoV; rw [ho], hq3, by rw [ep]; exact SFr.up (Or.inr (Or.inl (by omega)))⟩⟩)
        | some q2 =>
          have hq2 := h.onto hk ho
          refine go_aload_n X (z := 1) d_S_join_33 rfl rfl ?_
          refine go_get X u_B rfl 4 (by decide) gm_fl_S_58 rfl d_S_join_34 (h.bS hk ho) rfl ?_
          refine go_ifnonnull X (tgt := 44) d_S_join_37 rfl ?_
          refine go_aload_n X (z := 1) d_S_join_44 rfl rfl ?_
          refine go_get X u_B rfl 4 (by decide) gm_fl_S_58 rfl d_S_join_45 (h.bS hk ho) rfl ?_
          refine go_get X u_B rfl 0 (by decide) gm_fl_S_51 rfl d_S_join_48 (h.b hq2) rfl ?_
          refine go_topi (fun x104 ex104 => ?_)
          refine go_istore X (lv' := [(5, .int x104), (4, .ref (bA ad q)), (3, .ref (bA ad k)), (0, .ref (ad 0)), (1, .int ((nI k))), (2, .int ((nI q)))]) d_S_join_51 (by decide) rfl ?_
          refine go_aload_n X (z := 2) d_S_join_53 rfl rfl ?_
          refine go_aload X (z := 1) d_S_join_54 rfl ?_
          refine go_put X u_B rfl 4 (by decide) gm_fl_S_58 rfl t_B t_B_ok n_B rfl rfl rfl d_S_join_56 (h.bS hk ho) (Nat.le_of_ble_eq_true rfl) ?_
          refine go_gen (fun gp ep => ?_)
          have hq3 : SRep dA ad gp nb ni now (va_up B k (setOnto (B k) q)) I n tk fr := h.setB hk (b := setOnto (B k) q) (fun j hj => by cases hj; exact hq) (by rw [ep, va_up_self]; rfl) (by rw [ep, va_up_ne _ _ (h.ne (Or.inr (Or.inl (by omega))) (Or.inr (Or.inl (by omega))) (by omega))]; exact h.bg hk) (by rw [ep, va_up_ne _ _ (h.ne (Or.inr (Or.inl (by omega))) (Or.inr (Or.inl (by omega))) (by omega))]; exact h.bp hk) (by rw [ep, va_up_ne _ _ (h.ne (Or.inr (Or.inl (by omega))) (Or.inr (Or.inl (by omega))) (by omega))]; exact h.bw hk) (fun z n0 _ _ _ => by rw [ep, va_up_ne _ _ n0])
          refine go_iload X (z := 0) d_S_join_59 rfl ?_
          exact go_retI X hr hlk d_S_join_61 (Or.inr ⟨k, hk, rfl, q, hq, rfl, Or.inr ⟨c3, by rw [ex104]; unfold ontoV; rw [ho], hq3, by rw [ep]; exact SFr.up (Or.inr (Or.inl (by omega)))⟩⟩)
      · refine go_bipush X (v := (-12)) d_S_join_30 (by decide) ?_
        exact go_retI X hr hlk d_S_join_32 (Or.inr ⟨k, hk, rfl, q, hq, rfl, Or.inl ⟨c3, rfl, rfl⟩⟩)
    · refine go_astoreN X (lv' := [(4, .null), (3, .ref (bA ad k)), (0, .ref (ad 0)), (1, .int ((nI k))), (2, .int y)]) d_S_join_11 (by decide) rfl ?_
      refine go_aload_n X (z := 1) d_S_join_13 rfl rfl ?_
      refine go_ifnull X d_S_join_14 ?_
      refine go_aloadN X (z := 0) d_S_join_17 rfl ?_
      refine go_ifnonnullN X d_S_join_19 ?_
      refine go_bipush X (v := (-11)) d_S_join_22 (by decide) ?_
      exact go_retI X hr hlk d_S_join_24 (Or.inl ⟨Or.inr hnoq, rfl, rfl⟩)
  · refine go_astore_nN X (lv' := [(3, .null), (0, .ref (ad 0)), (1, .int x), (2, .int y)]) d_S_join_5 rfl (by decide) rfl ?_
    refine go_aload_n X (z := 1) d_S_join_6 rfl rfl ?_
    refine go_iload_n X (z := 3) d_S_join_7 rfl rfl ?_
    refine go_callR_V X (As := [.int y]) (rest := []) (c_S_beltNumbered h y) gm_ml_S_54 cw_S_beltNumbered ⟨by decide, by decide⟩ rfl h.this rfl rfl (Nat.le_of_ble_eq_true rfl) d_S_join_8 ⟨by decide, by decide⟩ (fun ru4 gu4 hu4 => ?_)
    obtain ⟨rfl, (⟨q, hq, rfl, rfl⟩ | ⟨rfl, hnoq⟩)⟩ := hu4
    · refine go_astore X (lv' := [(4, .ref (bA ad q)), (3, .null), (0, .ref (ad 0)), (1, .int x), (2, .int ((nI q)))]) d_S_join_11 (by decide) rfl ?_
      refine go_aload_nN X (z := 1) d_S_join_13 rfl rfl ?_
      refine go_ifnullN X (tgt := 22) d_S_join_14 rfl ?_
      refine go_bipush X (v := (-11)) d_S_join_22 (by decide) ?_
      exact go_retI X hr hlk d_S_join_24 (Or.inl ⟨Or.inl hnok, rfl, rfl⟩)
    · refine go_astoreN X (lv' := [(4, .null), (3, .null), (0, .ref (ad 0)), (1, .int x), (2, .int y)]) d_S_join_11 (by decide) rfl ?_
      refine go_aload_nN X (z := 1) d_S_join_13 rfl rfl ?_
      refine go_ifnullN X (tgt := 22) d_S_join_14 rfl ?_
      refine go_bipush X (v := (-11)) d_S_join_22 (by decide) ?_
      exact go_retI X hr hlk d_S_join_24 (Or.inl ⟨Or.inl hnok, rfl, rfl⟩)
set_option maxHeartbeats 4000000 in
set_option maxRecDepth 100000 in
theorem c_S_slip {l : Launch} {D : va_G} {dA : Nat → ClassId} {g : Nat → Option va_E}  (h : SRep dA ad g nb ni now B I n tk fr) (x : Int32) (by0 : Int64) : CtI l D classes (tyL dA) y_S_slip b_S_slip 7 (some .int) rm_S_slip [.ref (ad 0), .int x, .long by0] g (fun r g' => ((∀ k, k < ni → x ≠ nI (k + 1)) ∧ r = -11 ∧ g = g') ∨ (∃ k, k < ni ∧ x = nI (k + 1) ∧ (((by0 < 0 ∨ 1000000000 < by0) ∧ r = -12 ∧ g = g') ∨ (¬ by0 < 0 ∧ ¬ 1000000000 < by0 ∧ ((onF (I k) = 0 ∧ r = -13 ∧ g = g') ∨ (∃ j, iBt (I k) = some j ∧ iWt (I k) = 0 ∧ r = (if wayB (B j) now - iStart (I k) < by0 then wayB (B j) now - iStart (I k) else by0).toInt32 ∧ SRep dA ad g' nb ni now B (va_up I k (aimI B (slipI (I k) (if wayB (B j) now - iStart (I k) < by0 then wayB (B j) now - iStart (I k) else by0)))) n tk fr ∧ SFr ad nb ni g g')))))) := by
  refine CtI.of (by decide) (Nat.le_of_ble_eq_true rfl) ?_
  intro p e s m below meth c X hr hlk hnm
  refine go_aload_n X (z := 0) d_S_slip_0 rfl rfl ?_
  refine go_iload_n X (z := 1) d_S_slip_1 rfl rfl ?_
  refine go_callR_V X (As := [.int x]) (rest := []) (c_S_itemNumbered h x) gm_ml_S_101 cw_S_itemNumbered ⟨by decide, by decide⟩ rfl h.this rfl rfl (Nat.le_of_ble_eq_true rfl) d_S_slip_2 ⟨by decide, by decide⟩ (fun ru1 gu1 hu1 => ?_)
  obtain ⟨rfl, (⟨k, hk, rfl, rfl⟩ | ⟨rfl, hnok⟩)⟩ := hu1
  · refine go_astore X (lv' := [(4, .ref (iA ad k)), (0, .ref (ad 0)), (1, .int ((nI (k + 1)))), (2, .long by0)]) d_S_slip_5 (by decide) rfl ?_
    refine go_aload X (z := 0) d_S_slip_7 rfl ?_
    refine go_ifnonnull X (tgt := 15) d_S_slip_9 rfl ?_
    refine go_lload_n X (z := 3) d_S_slip_15 rfl rfl ?_
    refine go_lconst X (v := 0) d_S_slip_16 (by decide) ?_
    refine go_lif_lt X (tgt := 29) d_S_slip_17 d_S_slip_18 rfl (fun c2 => ?_) (fun c2 => ?_)
    · refine go_bipush X (v := (-12)) d_S_slip_29 (by decide) ?_
      exact go_retI X hr hlk d_S_slip_31 (Or.inr ⟨k, hk, rfl, Or.inl ⟨Or.inl c2, rfl, rfl⟩⟩)
    · refine go_lload_n X (z := 3) d_S_slip_21 rfl rfl ?_
      refine go_ldc2 X d_S_slip_22 gm_k_S_105 ?_
      refine go_lif_le X (tgt := 32) d_S_slip_25 d_S_slip_26 rfl (fun c3 => ?_) (fun c3 => ?_)
      · refine go_aload X (z := 0) d_S_slip_32 rfl ?_
        refine go_callI_V X (As := []) (rest := []) (s_isOnABelt h hk) gm_ml_S_107 cw_I_isOnABelt ⟨by decide, by decide⟩ rfl (h.i hk) rfl rfl (Nat.le_of_ble_eq_true rfl) d_S_slip_34 ⟨by decide, by decide⟩ (fun ru4 gu4 hu4 => ?_)
        obtain ⟨rfl, rfl⟩ := hu4
        refine go_if_ne X (tgt := 43) d_S_slip_37 rfl (fun c5 => ?_) (fun c5 => ?_)
        · obtain ⟨j, hbk, hwk⟩ := on_1 c5
          have hj := h.bt hk hbk
          refine go_lload_n X (z := 3) d_S_slip_43 rfl rfl ?_
          refine go_aload X (z := 0) d_S_slip_44 rfl ?_
          refine go_aload_n X (z := 1) d_S_slip_46 rfl rfl ?_
          refine go_get X u_S rfl 5 (by decide) gm_fl_S_35 rfl d_S_slip_47 h.this rfl ?_
          refine go_callL_V X (As := [.long now]) (rest := [.long by0]) (s_placeAt h hk hbk now) gm_ml_S_111 cw_I_placeAt ⟨by decide, by decide⟩ rfl (h.iS hk hbk) rfl rfl (Nat.le_of_ble_eq_true rfl) d_S_slip_50 ⟨by decide, by decide⟩ (fun ru6 gu6 hu6 => ?_)
          obtain ⟨rfl, rfl⟩ := hu6
          refine go_mmin_long X gm_ml_S_115 gm_st_minl gm_ini_J gm_code_minl d_S_slip_53 (by decide) (Nat.le_of_ble_eq_true rfl) (by decide) (by decide) ?_
          refine go_topl (fun x7 ex7 => ?_)
          refine go_lstore X (lv' := [(5, .long x7), (4, .ref (iA ad k)), (0, .ref (ad 0)), (1, .int ((nI (k + 1)))), (2, .long by0)]) d_S_slip_56 (by decide) rfl ?_
          refine go_aload X (z := 1) d_S_slip_58 rfl ?_
          refine go_dup X d_S_slip_60 rfl ?_
          refine go_get X u_I rfl 5 (by decide) gm_fl_S_121 rfl d_S_slip_61 (h.iS hk hbk) rfl ?_
          refine go_lload X (z := 0) d_S_slip_64 rfl ?_
          refine go_ladd X d_S_slip_66 ?_
          refine go_topl (fun x8 ex8 => ?_)
          refine go_put X u_I rfl 5 (by decide) gm_fl_S_121 rfl t_I t_I_ok n_I rfl rfl rfl d_S_slip_67 (h.iS hk hbk) (Nat.le_of_ble_eq_true rfl) ?_
          refine go_gen (fun gp ep => ?_)
          have h1 : SRep dA ad gp nb ni now B (va_up I k (slipI (I k) x7)) n tk fr := (h.selfI k).setX hk hj (y := slipI (I k) x7) hbk (by rw [ep, ex8, iC_s (x := slipI (I k) x7) hbk]; rfl)
          refine go_aload X (z := 1) d_S_slip_70 rfl ?_
          refine go_callV_V X (As := []) (rest := []) (s_aim h1 hk) gm_ml_S_124 cw_I_aim ⟨by decide, by decide⟩ rfl (h1.iX hk (x := slipI (I k) x7) hbk) rfl rfl (Nat.le_of_ble_eq_true rfl) d_S_slip_72 ⟨by decide, by decide⟩ (fun gz hz => ?_)
          rw [va_up_self] at hz
          refine go_lload X (z := 0) d_S_slip_75 rfl ?_
          refine go_l2i X d_S_slip_77 rfl ?_
          have hw := h1.setX hk hj (y := aimI B (slipI (I k) x7)) (by rw [aimI_bt]; exact hbk) hz
          rw [ex7] at hw
          exact go_retI X hr hlk d_S_slip_78 (Or.inr ⟨k, hk, rfl, Or.inr ⟨c2, Int64.not_lt.mpr c3, Or.inr ⟨j, hbk, hwk, by rw [ex7], hw, (show SFr ad nb ni g gp by rw [ep]; exact SFr.up (okI hk)).trans (hz ▸ SFr.up (okI hk))⟩⟩⟩)
        · refine go_bipush X (v := (-13)) d_S_slip_40 (by decide) ?_
          exact go_retI X hr hlk d_S_slip_42 (Or.inr ⟨k, hk, rfl, Or.inr ⟨c2, Int64.not_lt.mpr c3, Or.inl ⟨c5, rfl, rfl⟩⟩⟩)
      · refine go_bipush X (v := (-12)) d_S_slip_29 (by decide) ?_
        exact go_retI X hr hlk d_S_slip_31 (Or.inr ⟨k, hk, rfl, Or.inl ⟨Or.inr (Int64.not_le.mp c3), rfl, rfl⟩⟩)
  · refine go_astoreN X (lv' := [(4, .null), (0, .ref (ad 0)), (1, .int x), (2, .long by0)]) d_S_slip_5 (by decide) rfl ?_
    refine go_aloadN X (z := 0) d_S_slip_7 rfl ?_
    refine go_ifnonnullN X d_S_slip_9 ?_
    refine go_bipush X (v := (-11)) d_S_slip_12 (by decide) ?_
    exact go_retI X hr hlk d_S_slip_14 (Or.inl ⟨hnok, rfl, rfl⟩)
end S4
