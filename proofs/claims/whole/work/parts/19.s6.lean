/-! BeltSteps: stop, belt, feed, the constructor: walks. -/
theorem lt_of_nI {n m : Nat} (h : nI n < nI m) (hn : n < 2 ^ 31) : n < m := by
  rcases Nat.lt_or_ge n m with z | z
  · exact z
  · exact absurd h (nI_nlt z hn)
section S6
variable {ad : Nat → Nat} {nb ni : Nat} {now : Int64} {B : Nat → BT} {I : Nat → IT} {n : Nat} {tk : Int32} {fr : Nat → Int32}
set_option maxHeartbeats 4000000 in
set_option maxRecDepth 100000 in
theorem c_S_stop {l : Launch} {D : va_G} {dA : Nat → ClassId} {g : Nat → Option va_E}  (h : SRep dA ad g nb ni now B I n tk fr) (hn : n ≤ 1000000000) (x on : Int32) (hon : narrow .boolean (.int on) = .int on) (hof : fits .boolean (.int on) = true) (t : Int64) : CtI l D classes (tyL dA) y_S_stop b_S_stop 7 (some .int) rm_S_stop [.ref (ad 0), .int x, .int on, .long t] g (fun r g' => ((∀ k, k < nb → x ≠ nI k) ∧ r = -11 ∧ g = g') ∨ (∃ k, k < nb ∧ x = nI k ∧ ((nolF now t = 0 ∧ r = -12 ∧ g = g') ∨ (¬ nolF now t = 0 ∧ ((¬ bRun (B k) = on ∧ ¬ bTel (B k) < 100 ∧ r = -14 ∧ g = g') ∨ (bRun (B k) = on ∧ r = 0 ∧ SRep dA ad g' nb ni t B (pasN B ni t 100000 I (n, fr)).1 (pasN B ni t 100000 I (n, fr)).2.1 tk (pasN B ni t 100000 I (n, fr)).2.2 ∧ SFr ad nb ni g g') ∨ (¬ bRun (B k) = on ∧ bTel (B k) < 100 ∧ r = 1 ∧ ∃ b', IsTold (B k) b' on t ∧ SRep dA ad g' nb ni t (va_up B k b') (aimN (va_up B k b') k (pasN B ni t 100000 I (n, fr)).1 ni) (pasN B ni t 100000 I (n, fr)).2.1 tk (pasN B ni t 100000 I (n, fr)).2.2 ∧ SFr ad nb ni g g')))))) := by
  refine CtI.of (by decide) (Nat.le_of_ble_eq_true rfl) ?_
  intro p e s m below meth c X hr hlk hnm
  refine go_aload_n X (z := 0) d_S_stop_0 rfl rfl ?_
  refine go_iload_n X (z := 1) d_S_stop_1 rfl rfl ?_
  refine go_callR_V X (As := [.int x]) (rest := []) (c_S_beltNumbered h x) gm_ml_S_54 cw_S_beltNumbered ⟨by decide, by decide⟩ rfl h.this rfl rfl (Nat.le_of_ble_eq_true rfl) d_S_stop_2 ⟨by decide, by decide⟩ (fun ru1 gu1 hu1 => ?_)
  obtain ⟨rfl, (⟨k, hk, rfl, rfl⟩ | ⟨rfl, hnok⟩)⟩ := hu1
  · refine go_astore X (lv' := [(5, .ref (bA ad k)), (0, .ref (ad 0)), (1, .int ((nI k))), (2, .int on), (3, .long t)]) d_S_stop_5 (by decide) rfl ?_
    refine go_aload X (z := 0) d_S_stop_7 rfl ?_
    refine go_ifnonnull X (tgt := 15) d_S_stop_9 rfl ?_
    refine go_aload_n X (z := 1) d_S_stop_15 rfl rfl ?_
    refine go_lload_n X (z := 4) d_S_stop_16 rfl rfl ?_
    refine go_callI_V X (As := [.long t]) (rest := []) (c_S_isNowOrLater h t) gm_ml_S_62 cw_S_isNowOrLater ⟨by decide, by decide⟩ rfl h.this rfl rfl (Nat.le_of_ble_eq_true rfl) d_S_stop_17 ⟨by decide, by decide⟩ (fun ru2 gu2 hu2 => ?_)
    obtain ⟨rfl, rfl⟩ := hu2
    refine go_if_ne X (tgt := 26) d_S_stop_20 rfl (fun c3 => ?_) (fun c3 => ?_)
    · refine go_aload X (z := 0) d_S_stop_26 rfl ?_
      refine go_get X u_B rfl 5 (by decide) gm_fl_S_86 rfl d_S_stop_28 (h.b hk) rfl ?_
      refine go_iload_n X (z := 3) d_S_stop_31 rfl rfl ?_
      refine go_icmp_eq X (tgt := 39) d_S_stop_32 rfl (fun c4 => ?_) (fun c4 => ?_)
      · refine go_iconst X (v := 0) d_S_stop_39 (by decide) ?_
        refine go_istore X (lv' := [(6, .int 0), (5, .ref (bA ad k)), (0, .ref (ad 0)), (1, .int ((nI k))), (2, .int on), (3, .long t)]) d_S_stop_40 (by decide) rfl ?_
        refine go_iload X (z := 0) d_S_stop_42 rfl ?_
        refine go_if_eq X (tgt := 60) d_S_stop_44 rfl (fun _ => ?_) (fun h => absurd (by decide) h)
        refine go_aload_n X (z := 2) d_S_stop_60 rfl rfl ?_
        refine go_lload_n X (z := 5) d_S_stop_61 rfl rfl ?_
        refine go_callV_V X (As := [.long t]) (rest := []) (c_S_passTo h hn t) gm_ml_S_74 cw_S_passTo ⟨by decide, by decide⟩ rfl h.this rfl rfl (Nat.le_of_ble_eq_true rfl) d_S_stop_62 ⟨by decide, by decide⟩ (fun gz hz => ?_)
        obtain ⟨hz, hzF⟩ := hz
        refine go_iload X (z := 0) d_S_stop_65 rfl ?_
        refine go_if_ne X (tgt := 72) d_S_stop_67 rfl (fun h => absurd rfl h) (fun _ => ?_)
        refine go_iconst X (v := 0) d_S_stop_70 (by decide) ?_
        exact go_retI X hr hlk d_S_stop_71 (Or.inr ⟨k, hk, rfl, Or.inr ⟨c3, Or.inr (Or.inl ⟨c4, rfl, hz, hzF⟩)⟩⟩)
      · refine go_iconst X (v := 1) d_S_stop_35 (by decide) ?_
        refine go_goto X (tgt := 40) d_S_stop_36 rfl ?_
        refine go_istore X (lv' := [(6, .int 1), (5, .ref (bA ad k)), (0, .ref (ad 0)), (1, .int ((nI k))), (2, .int on), (3, .long t)]) d_S_stop_40 (by decide) rfl ?_
        refine go_iload X (z := 0) d_S_stop_42 rfl ?_
        refine go_if_eq X (tgt := 60) d_S_stop_44 rfl (fun h => absurd h (by decide)) (fun _ => ?_)
        refine go_aload X (z := 1) d_S_stop_47 rfl ?_
        refine go_get X u_B rfl 6 (by decide) gm_fl_S_90 rfl d_S_stop_49 (h.b hk) rfl ?_
        refine go_bipush X (v := 100) d_S_stop_52 (by decide) ?_
        refine go_icmp_lt X (tgt := 60) d_S_stop_54 rfl (fun c8 => ?_) (fun c8 => ?_)
        · refine go_aload_n X (z := 2) d_S_stop_60 rfl rfl ?_
          refine go_lload_n X (z := 5) d_S_stop_61 rfl rfl ?_
          refine go_callV_V X (As := [.long t]) (rest := []) (c_S_passTo h hn t) gm_ml_S_74 cw_S_passTo ⟨by decide, by decide⟩ rfl h.this rfl rfl (Nat.le_of_ble_eq_true rfl) d_S_stop_62 ⟨by decide, by decide⟩ (fun gz hz => ?_)
          obtain ⟨hz, hzF⟩ := hz
          refine go_iload X (z := 0) d_S_stop_65 rfl ?_
          refine go_if_ne X (tgt := 72) d_S_stop_67 rfl (fun _ => ?_) (fun h => absurd h (by decide))
          refine go_aload X (z := 1) d_S_stop_72 rfl ?_
          refine go_iload_n X (z := 4) d_S_stop_74 rfl rfl ?_
          refine go_lload_n X (z := 5) d_S_stop_75 rfl rfl ?_
          refine go_callV_V X (As := [.int on, .long t]) (rest := []) (c_B_tell (hz.b hk) (hz.bg hk) (hz.bp hk) (hz.bw hk) (hz.pw hk) hon hof) gm_ml_S_93 cw_B_tell ⟨by decide, by decide⟩ rfl (hz.b hk) rfl rfl (Nat.le_of_ble_eq_true rfl) d_S_stop_76 ⟨by decide, by decide⟩ (fun gt ht => ?_)
          obtain ⟨b', hIs, ht, htF⟩ := told_rep hz hk ht
          refine go_aload_n X (z := 2) d_S_stop_79 rfl rfl ?_
          refine go_aload X (z := 1) d_S_stop_80 rfl ?_
          refine go_callV_V X (As := [.ref (bA ad k)]) (rest := []) (c_S_aimItemsOn ht hk) gm_ml_S_97 cw_S_aimItemsOn ⟨by decide, by decide⟩ rfl ht.this rfl rfl (Nat.le_of_ble_eq_true rfl) d_S_stop_82 ⟨by decide, by decide⟩ (fun ga ha => ?_)
          obtain ⟨ha, haF⟩ := ha
          refine go_iconst X (v := 1) d_S_stop_85 (by decide) ?_
          exact go_retI X hr hlk d_S_stop_86 (Or.inr ⟨k, hk, rfl, Or.inr ⟨c3, Or.inr (Or.inr ⟨c4, c8, rfl, b', hIs, ha, hzF.trans (htF.trans haF)⟩)⟩⟩)
        · refine go_bipush X (v := (-14)) d_S_stop_57 (by decide) ?_
          exact go_retI X hr hlk d_S_stop_59 (Or.inr ⟨k, hk, rfl, Or.inr ⟨c3, Or.inl ⟨c4, c8, rfl, rfl⟩⟩⟩)
    · refine go_bipush X (v := (-12)) d_S_stop_23 (by decide) ?_
      exact go_retI X hr hlk d_S_stop_25 (Or.inr ⟨k, hk, rfl, Or.inl ⟨c3, rfl, rfl⟩⟩)
  · refine go_astoreN X (lv' := [(5, .null), (0, .ref (ad 0)), (1, .int x), (2, .int on), (3, .long t)]) d_S_stop_5 (by decide) rfl ?_
    refine go_aloadN X (z := 0) d_S_stop_7 rfl ?_
    refine go_ifnonnullN X d_S_stop_9 ?_
    refine go_bipush X (v := (-11)) d_S_stop_12 (by decide) ?_
    exact go_retI X hr hlk d_S_stop_14 (Or.inl ⟨hnok, rfl, rfl⟩)
set_option maxHeartbeats 4000000 in
set_option maxRecDepth 100000 in
theorem c_S_belt {l : Launch} {D : va_G} {dA : Nat → ClassId} {g : Nat → Option va_E}  (h : SRep dA ad g nb ni now B I n tk fr) (len spd : Int64) : CtI l D classes (tyL dA) y_S_belt b_S_belt 6 (some .int) rm_S_belt [.ref (ad 0), .long len, .long spd] g (fun r g' => ((len < 100000 ∨ 100000000 < len ∨ spd < 1 ∨ 5000 < spd) ∧ r = -12 ∧ g = g') ∨ (¬ len < 100000 ∧ ¬ 100000000 < len ∧ ¬ spd < 1 ∧ ¬ 5000 < spd ∧ ((¬ nI nb < 12 ∧ r = -14 ∧ g = g') ∨ (nI nb < 12 ∧ r = nI nb ∧ ∃ ad' b, BOk b ∧ bLen b = len ∧ bSpd b = spd ∧ bSen b = len / 2 ∧ bOnto b = none ∧ bRun b = 1 ∧ bTel b = 0 ∧ bTold b = 0 ∧ bGb b = 8 ∧ bWat b = 0 ∧ SRep dA ad' g' (nb + 1) ni now (va_up B nb b) I n tk fr ∧ SNew ad ad' nb ni (nb + 1) ni g ∧ SFr ad nb ni g g')))) := by
  refine CtI.of (by decide) (Nat.le_of_ble_eq_true rfl) ?_
  intro p e s m below meth c X hr hlk hnm
  have hnb12 := h.nb12
  refine go_lload_n X (z := 1) d_S_belt_0 rfl rfl ?_
  refine go_ldc2 X d_S_belt_1 gm_k_S_39 ?_
  refine go_lif_lt X (tgt := 16) d_S_belt_4 d_S_belt_5 rfl (fun c1 => ?_) (fun c1 => ?_)
  · refine go_bipush X (v := (-12)) d_S_belt_16 (by decide) ?_
    refine go_widen (k := 4) (n := 37) (by decide) (by decide) ?_
    exact go_retI X hr hlk d_S_belt_18 (Or.inl ⟨Or.inl c1, rfl, rfl⟩)
  · refine go_lload_n X (z := 1) d_S_belt_8 rfl rfl ?_
    refine go_ldc2 X d_S_belt_9 gm_k_S_41 ?_
    refine go_lif_le X (tgt := 19) d_S_belt_12 d_S_belt_13 rfl (fun c2 => ?_) (fun c2 => ?_)
    · refine go_lload_n X (z := 2) d_S_belt_19 rfl rfl ?_
      refine go_lconst X (v := 1) d_S_belt_20 (by decide) ?_
      refine go_lif_lt X (tgt := 33) d_S_belt_21 d_S_belt_22 rfl (fun c3 => ?_) (fun c3 => ?_)
      · refine go_bipush X (v := (-12)) d_S_belt_33 (by decide) ?_
        refine go_widen (k := 4) (n := 37) (by decide) (by decide) ?_
        exact go_retI X hr hlk d_S_belt_35 (Or.inl ⟨Or.inr (Or.inr (Or.inl c3)), rfl, rfl⟩)
      · refine go_lload_n X (z := 2) d_S_belt_25 rfl rfl ?_
        refine go_ldc2 X d_S_belt_26 gm_k_S_43 ?_
        refine go_lif_le X (tgt := 36) d_S_belt_29 d_S_belt_30 rfl (fun c4 => ?_) (fun c4 => ?_)
        · refine go_aload_n X (z := 0) d_S_belt_36 rfl rfl ?_
          refine go_get X u_S rfl 1 (by decide) gm_fl_S_15 rfl d_S_belt_37 h.this rfl ?_
          refine go_bipush X (v := 12) d_S_belt_40 (by decide) ?_
          refine go_icmp_lt X (tgt := 48) d_S_belt_42 rfl (fun c5 => ?_) (fun c5 => ?_)
          · have hnb : nb < 12 := lt_of_nI c5 (by omega)
            refine go_new X (ci := 0) (fs := [.int 0, .long 0, .long 0, .long 0, .null, .int 0, .int 0, .long 0, .int 0, .long 0, .null, .null, .null]) u_B t_B t_B_ok gm_cl_S_9 gm_inst_B gm_ini_B rfl (by decide +kernel) (by decide) (by decide) d_S_belt_48 (fun q6 hq6 => ?_)
            refine go_gen (fun g8 eg8 => ?_)
            have eg8 : g8 = va_up g q6 (some (.inr (0, [.int 0, .long 0, .long 0, .long 0, .null, .int 0, .int 0, .long 0, .int 0, .long 0, .null, .null, .null]))) := eg8
            have h9 : g8 (ad 0) = some (.inr (3, [.ref (ad 1), .int ((nI nb)), .ref (ad 2), .int ((nI ni)), .ref (ad 3), .long now])) := by rw [eg8, va_up_ne _ _ (ne_fresh h.this hq6)]; exact h.this
            have h10 : g8 (ad 1) = some (.inl (dA 3, 12, .inr (.inr (.inr (.inr (bTab ad nb)))))) := by rw [eg8, va_up_ne _ _ (ne_fresh h.bs hq6)]; exact h.bs
            have h11 : g8 q6 = some (.inr (0, [.int 0, .long 0, .long 0, .long 0, .null, .int 0, .int 0, .long 0, .int 0, .long 0, .null, .null, .null])) := by rw [eg8]; exact va_up_self _ _ _
            refine go_dup X d_S_belt_51 rfl ?_
            refine go_aload_n X (z := 0) d_S_belt_52 rfl rfl ?_
            refine go_get X u_S rfl 1 (by decide) gm_fl_S_15 rfl d_S_belt_53 h9 rfl ?_
            refine go_lload_n X (z := 1) d_S_belt_56 rfl rfl ?_
            refine go_lload_n X (z := 2) d_S_belt_57 rfl rfl ?_
            refine go_callV_I X (As := [.int ((nI nb)), .long len, .long spd]) (rest := [.ref q6]) (c_B_init h11) gm_ml_S_45 cw_B_init ⟨by decide, by decide⟩ rfl rfl (Nat.le_of_ble_eq_true rfl) d_S_belt_58 ⟨by decide, by decide⟩ (fun g3 hi => ?_)
            obtain ⟨ag, ap, aw, z0, z1, z2, n01, n02, n12, e3⟩ := hi
            have k0 : g3 (ad 0) = some (.inr (3, [.ref (ad 1), .int ((nI nb)), .ref (ad 2), .int ((nI ni)), .ref (ad 3), .long now])) := by rw [e3, va_up_ne _ _ (ne_cls h9 h11 (by decide)), va_up_ne _ _ (ne_fresh h9 z2), va_up_ne _ _ (ne_fresh h9 z1), va_up_ne _ _ (ne_fresh h9 z0)]; exact h9
            have k1 : g3 (ad 1) = some (.inl (dA 3, 12, .inr (.inr (.inr (.inr (bTab ad nb)))))) := by rw [e3, va_up_ne _ _ (ne_kind2 h10 h11), va_up_ne _ _ (ne_fresh h10 z2), va_up_ne _ _ (ne_fresh h10 z1), va_up_ne _ _ (ne_fresh h10 z0)]; exact h10
            have nq0 : q6 ≠ ag := ne_fresh h11 z0
            have nq1 : q6 ≠ ap := ne_fresh h11 z1
            have nq2 : q6 ≠ aw := ne_fresh h11 z2
            have kq : g3 q6 = some (beltE (nI nb) len spd (len / 2) none 1 0 0 8 0 ag ap aw) := by rw [e3, va_up_self]
            have kg : g3 ag = some (intE dA 8 (fun _ => 0)) := by rw [e3, va_up_ne _ _ nq0.symm, va_up_ne _ _ n02, va_up_ne _ _ n01, va_up_self]
            have kp : g3 ap = some (lonE dA 8 (fun _ => 0)) := by rw [e3, va_up_ne _ _ nq1.symm, va_up_ne _ _ n12, va_up_self]
            have kw : g3 aw = some (lonE dA 8 (fun _ => 0)) := by rw [e3, va_up_ne _ _ nq2.symm, va_up_self]
            refine go_astore X (lv' := [(5, .ref q6), (0, .ref (ad 0)), (1, .long len), (3, .long spd)]) d_S_belt_61 (by decide) rfl ?_
            refine go_aload X (z := 0) d_S_belt_63 rfl ?_
            refine go_callV_V X (As := []) (rest := []) (c_B_layStages kq kg kp kw n12) gm_ml_S_48 cw_B_layStages ⟨by decide, by decide⟩ rfl kq rfl rfl (Nat.le_of_ble_eq_true rfl) d_S_belt_65 ⟨by decide, by decide⟩ (fun g4 hL => ?_)
            obtain ⟨fg, fp, fw, l1, l2, l3, hI, hO⟩ := hL
            have m0 : g4 (ad 0) = some (.inr (3, [.ref (ad 1), .int ((nI nb)), .ref (ad 2), .int ((nI ni)), .ref (ad 3), .long now])) := by rw [hO _ (ne_kind1 k0 kg) (ne_kind1 k0 kp) (ne_kind1 k0 kw)]; exact k0
            have m1 : g4 (ad 1) = some (.inl (dA 3, 12, .inr (.inr (.inr (.inr (bTab ad nb)))))) := by rw [hO _ (ne_arr20 k1 kg) (ne_arr21 k1 kp) (ne_arr21 k1 kw)]; exact k1
            have mq : g4 q6 = some (beltE (nI nb) len spd (len / 2) none 1 0 0 8 0 ag ap aw) := by rw [hO _ nq0 nq1 nq2]; exact kq
            refine go_aload_n X (z := 1) d_S_belt_68 rfl rfl ?_
            refine go_get X u_S rfl 0 (by decide) gm_fl_S_11 rfl d_S_belt_69 m0 rfl ?_
            refine go_aload_n X (z := 1) d_S_belt_72 rfl rfl ?_
            refine go_get X u_S rfl 1 (by decide) gm_fl_S_15 rfl d_S_belt_73 m0 rfl ?_
            refine go_aload X (z := 0) d_S_belt_76 rfl ?_
            refine go_aast X 3 0 rfl rfl d_S_belt_78 m1 mq (vp_in_nI hnb (by decide)) ?_
            refine go_gen (fun g12 eg12 => ?_)
            have eg12 : g12 = va_up g4 (ad 1) (some (.inl (dA 3, 12, .inr (.inr (.inr (.inr (va_up (bTab ad nb) nb (some q6)))))))) := by rw [eg12, nI_clamp (show nb < 2 ^ 31 by omega)]
            have h13 : g12 (ad 0) = some (.inr (3, [.ref (ad 1), .int ((nI nb)), .ref (ad 2), .int ((nI ni)), .ref (ad 3), .long now])) := by rw [eg12, va_up_ne _ _ (ne_kind1 m0 m1)]; exact m0
            have h14 : g12 q6 = some (.inr (0, [.int ((nI nb)), .long len, .long spd, .long ((len / 2)), va_rf none, .int 1, .int 0, .long 0, .int 8, .long 0, .ref ag, .ref ap, .ref aw])) := by rw [eg12, va_up_ne _ _ (ne_kind1 mq m1)]; exact mq
            have h15 : g12 (ad 1) = some (.inl (dA 3, 12, .inr (.inr (.inr (.inr (va_up (bTab ad nb) nb (some q6))))))) := by rw [eg12]; exact va_up_self _ _ _
            refine go_aload_n X (z := 1) d_S_belt_79 rfl rfl ?_
            refine go_dup X d_S_belt_80 rfl ?_
            refine go_get X u_S rfl 1 (by decide) gm_fl_S_15 rfl d_S_belt_81 h13 rfl ?_
            refine go_iconst X (v := 1) d_S_belt_84 (by decide) ?_
            refine go_iadd X d_S_belt_85 ?_
            refine go_topi (fun x16 ex16 => ?_)
            refine go_put X u_S rfl 1 (by decide) gm_fl_S_15 rfl t_S t_S_ok n_S rfl rfl rfl d_S_belt_86 h13 (Nat.le_of_ble_eq_true rfl) ?_
            refine go_gen (fun g17 eg17 => ?_)
            have eg17 : g17 = va_up g12 (ad 0) (some (.inr (3, [.ref (ad 1), .int x16, .ref (ad 2), .int ((nI ni)), .ref (ad 3), .long now]))) := eg17
            have h18 : g17 (ad 1) = some (.inl (dA 3, 12, .inr (.inr (.inr (.inr (va_up (bTab ad nb) nb (some q6))))))) := by rw [eg17, va_up_ne _ _ (ne_kind2 h15 h13)]; exact h15
            have h19 : g17 q6 = some (.inr (0, [.int ((nI nb)), .long len, .long spd, .long ((len / 2)), va_rf none, .int 1, .int 0, .long 0, .int 8, .long 0, .ref ag, .ref ap, .ref aw])) := by rw [eg17, va_up_ne _ _ (ne_cls h14 h13 (by decide))]; exact h14
            have h20 : g17 (ad 0) = some (.inr (3, [.ref (ad 1), .int x16, .ref (ad 2), .int ((nI ni)), .ref (ad 3), .long now])) := by rw [eg17]; exact va_up_self _ _ _
            refine go_aload X (z := 0) d_S_belt_89 rfl ?_
            refine go_get X u_B rfl 0 (by decide) gm_fl_S_51 rfl d_S_belt_91 h19 rfl ?_
            have nba : nI nb + 1 = nI (nb + 1) := nI_1 nb
            have cc4 : g17 (ad 0) = some (sCell ad (nb + 1) ni now) := by rw [h20, ex16, nba]
            have cc5 : g17 (ad 1) = some (refE dA 3 12 (va_up (bTab ad nb) nb (some q6))) := h18
            have cc0 : g17 q6 = some (beltE (nI nb) len spd (len / 2) none 1 0 0 8 0 ag ap aw) := h19
            have hz : ∀ z, z ≠ ad 0 → z ≠ ad 1 → g17 z = g4 z := fun z a1 a2 => by rw [eg17, va_up_ne _ _ a1, eg12, va_up_ne _ _ a2]
            rw [eg8] at z0 z1 z2
            have y0 := up_none z0
            have y1 := up_none z1
            have y2 := up_none z2
            have w1 := hz ag (ne_kind2 kg k0) (ne_arr02 kg k1)
            have w2 := hz ap (ne_kind2 kp k0) (ne_arr12 kp k1)
            have w3 := hz aw (ne_kind2 kw k0) (ne_arr12 kw k1)
            have hR := newBelt_rep h hnb (b := (len, spd, len / 2, none, 1, 0, 0, 8, 0, fg, fp, fw)) hq6 y0.2 y1.2 y2.2 nq0 nq1 nq2 n01 n02 n12 rfl (g' := g17) cc0 (w1.trans l1) (w2.trans l2) (w3.trans l3) cc4 cc5 (fun z a0 a1 a2 a3 a4 a5 => by rw [hz z a4 a5, hO z a1 a2 a3, e3, va_up_ne _ _ a0, va_up_ne _ _ a3, va_up_ne _ _ a2, va_up_ne _ _ a1, eg8, va_up_ne _ _ a0])
            refine go_widen (k := 4) (n := 37) (by decide) (by decide) ?_
            exact go_retI X hr hlk d_S_belt_94 (Or.inr ⟨c1, Int64.not_lt.mpr c2, c3, Int64.not_lt.mpr c4, Or.inr ⟨c5, rfl, _, (len, spd, len / 2, none, 1, 0, 0, 8, 0, fg, fp, fw), hI, rfl, rfl, rfl, rfl, rfl, rfl, rfl, rfl, rfl, hR.1, hR.2.1, hR.2.2⟩⟩)
          · refine go_bipush X (v := (-14)) d_S_belt_45 (by decide) ?_
            refine go_widen (k := 4) (n := 37) (by decide) (by decide) ?_
            exact go_retI X hr hlk d_S_belt_47 (Or.inr ⟨c1, Int64.not_lt.mpr c2, c3, Int64.not_lt.mpr c4, Or.inl ⟨c5, rfl, rfl⟩⟩)
        · refine go_bipush X (v := (-12)) d_S_belt_33 (by decide) ?_
          refine go_widen (k := 4) (n := 37) (by decide) (by decide) ?_
          exact go_retI X hr hlk d_S_belt_35 (Or.inl ⟨Or.inr (Or.inr (Or.inr (Int64.not_le.mp c4))), rfl, rfl⟩)
    · refine go_bipush X (v := (-12)) d_S_belt_16 (by decide) ?_
      refine go_widen (k := 4) (n := 37) (by decide) (by decide) ?_
      exact go_retI X hr hlk d_S_belt_18 (Or.inl ⟨Or.inr (Or.inl (Int64.not_le.mp c2)), rfl, rfl⟩)
set_option maxHeartbeats 4000000 in
set_option maxRecDepth 100000 in
theorem c_S_feed {l : Launch} {D : va_G} {dA : Nat → ClassId} {g : Nat → Option va_E}  (h : SRep dA ad g nb ni now B I n tk fr) (x : Int32) (len at0 : Int64) : CtI l D classes (tyL dA) y_S_feed b_S_feed 8 (some .int) rm_S_feed [.ref (ad 0), .int x, .long len, .long at0] g (fun r g' => ((∀ k, k < nb → x ≠ nI k) ∧ r = -11 ∧ g = g') ∨ (∃ k, k < nb ∧ x = nI k ∧ (((len < 1 ∨ 100000 < len ∨ nolF now at0 = 0) ∧ r = -12 ∧ g = g') ∨ (¬ len < 1 ∧ ¬ 100000 < len ∧ ¬ nolF now at0 = 0 ∧ ((¬ nI ni < 60 ∧ r = -14 ∧ g = g') ∨ (nI ni < 60 ∧ r = nI (ni + 1) ∧ ∃ ad', SRep dA ad' g' nb (ni + 1) now B (va_up I ni (if at0 = now then comeI B (len, some k, 1, at0, 0, 0, 0) k now 0 else (len, some k, 1, at0, 0, 0, 0))) n tk fr ∧ SNew ad ad' nb ni nb (ni + 1) g ∧ SFr ad nb ni g g')))))) := by
  refine CtI.of (by decide) (Nat.le_of_ble_eq_true rfl) ?_
  intro p e s m below meth c X hr hlk hnm
  have hni60 := h.ni60
  refine go_aload_n X (z := 0) d_S_feed_0 rfl rfl ?_
  refine go_iload_n X (z := 1) d_S_feed_1 rfl rfl ?_
  refine go_callR_V X (As := [.int x]) (rest := []) (c_S_beltNumbered h x) gm_ml_S_54 cw_S_beltNumbered ⟨by decide, by decide⟩ rfl h.this rfl rfl (Nat.le_of_ble_eq_true rfl) d_S_feed_2 ⟨by decide, by decide⟩ (fun ru1 gu1 hu1 => ?_)
  obtain ⟨rfl, (⟨k, hk, rfl, rfl⟩ | ⟨rfl, hnok⟩)⟩ := hu1
  · refine go_astore X (lv' := [(6, .ref (bA ad k)), (0, .ref (ad 0)), (1, .int ((nI k))), (2, .long len), (4, .long at0)]) d_S_feed_5 (by decide) rfl ?_
    refine go_aload X (z := 0) d_S_feed_7 rfl ?_
    refine go_ifnonnull X (tgt := 15) d_S_feed_9 rfl ?_
    refine go_lload_n X (z := 3) d_S_feed_15 rfl rfl ?_
    refine go_lconst X (v := 1) d_S_feed_16 (by decide) ?_
    refine go_lif_lt X (tgt := 29) d_S_feed_17 d_S_feed_18 rfl (fun c2 => ?_) (fun c2 => ?_)
    · refine go_bipush X (v := (-12)) d_S_feed_29 (by decide) ?_
      refine go_widen (k := 1) (n := 8) (by decide) (by decide) ?_
      exact go_retI X hr hlk d_S_feed_31 (Or.inr ⟨k, hk, rfl, Or.inl ⟨Or.inl c2, rfl, rfl⟩⟩)
    · refine go_lload_n X (z := 3) d_S_feed_21 rfl rfl ?_
      refine go_ldc2 X d_S_feed_22 gm_k_S_39 ?_
      refine go_lif_le X (tgt := 32) d_S_feed_25 d_S_feed_26 rfl (fun c3 => ?_) (fun c3 => ?_)
      · refine go_aload_n X (z := 1) d_S_feed_32 rfl rfl ?_
        refine go_lload X (z := 4) d_S_feed_33 rfl ?_
        refine go_callI_V X (As := [.long at0]) (rest := []) (c_S_isNowOrLater h at0) gm_ml_S_62 cw_S_isNowOrLater ⟨by decide, by decide⟩ rfl h.this rfl rfl (Nat.le_of_ble_eq_true rfl) d_S_feed_35 ⟨by decide, by decide⟩ (fun ru4 gu4 hu4 => ?_)
        obtain ⟨rfl, rfl⟩ := hu4
        refine go_if_ne X (tgt := 44) d_S_feed_38 rfl (fun c5 => ?_) (fun c5 => ?_)
        · refine go_aload_n X (z := 1) d_S_feed_44 rfl rfl ?_
          refine go_get X u_S rfl 3 (by decide) gm_fl_S_25 rfl d_S_feed_45 h.this rfl ?_
          refine go_bipush X (v := 60) d_S_feed_48 (by decide) ?_
          refine go_icmp_lt X (tgt := 56) d_S_feed_50 rfl (fun c6 => ?_) (fun c6 => ?_)
          · have hni : ni < 60 := lt_of_nI c6 (by omega)
            refine go_new X (ci := 2) (fs := [.int 0, .long 0, .null, .int 0, .long 0, .long 0, .int 0, .int 0]) u_I t_I t_I_ok gm_cl_S_19 gm_inst_I gm_ini_I rfl (by decide +kernel) (by decide) (by decide) d_S_feed_56 (fun q7 hq7 => ?_)
            refine go_gen (fun g9 eg9 => ?_)
            have eg9 : g9 = va_up g q7 (some (.inr (2, [.int 0, .long 0, .null, .int 0, .long 0, .long 0, .int 0, .int 0]))) := eg9
            have h10 : g9 (ad 0) = some (.inr (3, [.ref (ad 1), .int ((nI nb)), .ref (ad 2), .int ((nI ni)), .ref (ad 3), .long now])) := by rw [eg9, va_up_ne _ _ (ne_fresh h.this hq7)]; exact h.this
            have h11 : g9 (ad 2) = some (.inl (dA 4, 60, .inr (.inr (.inr (.inr (iTab ad ni)))))) := by rw [eg9, va_up_ne _ _ (ne_fresh h.is hq7)]; exact h.is
            have h12 : g9 (bA ad k) = some (.inr (0, [.int ((nI k)), .long ((bLen (B k))), .long ((bSpd (B k))), .long ((bSen (B k))), va_rf (((bOnto (B k)).map (bA ad))), .int ((bRun (B k))), .int ((bTel (B k))), .long ((bTold (B k))), .int ((bGb (B k))), .long ((bWat (B k))), .ref (bG ad k), .ref (bP ad k), .ref (bW ad k)])) := by rw [eg9, va_up_ne _ _ (ne_fresh (h.b hk) hq7)]; exact (h.b hk)
            have h13 : g9 (bP ad k) = some (.inl (dA 1, 8, .inr (.inl ((bFp (B k)))))) := by rw [eg9, va_up_ne _ _ (ne_fresh (h.bp hk) hq7)]; exact (h.bp hk)
            have h14 : g9 (bW ad k) = some (.inl (dA 1, 8, .inr (.inl ((bFw (B k)))))) := by rw [eg9, va_up_ne _ _ (ne_fresh (h.bw hk) hq7)]; exact (h.bw hk)
            have h15 : g9 q7 = some (.inr (2, [.int 0, .long 0, .null, .int 0, .long 0, .long 0, .int 0, .int 0])) := by rw [eg9]; exact va_up_self _ _ _
            refine go_dup X d_S_feed_59 rfl ?_
            refine go_aload_n X (z := 1) d_S_feed_60 rfl rfl ?_
            refine go_get X u_S rfl 3 (by decide) gm_fl_S_25 rfl d_S_feed_61 h10 rfl ?_
            refine go_iconst X (v := 1) d_S_feed_64 (by decide) ?_
            refine go_iadd X d_S_feed_65 ?_
            refine go_lload_n X (z := 3) d_S_feed_66 rfl rfl ?_
            refine go_aload X (z := 0) d_S_feed_67 rfl ?_
            refine go_lload X (z := 4) d_S_feed_69 rfl ?_
            refine go_callV_I X (As := [.int (((nI ni)) + 1), .long len, .ref (bA ad k), .long at0]) (rest := [.ref q7]) (c_I_init h15) gm_ml_S_66 cw_I_init ⟨by decide, by decide⟩ rfl rfl (Nat.le_of_ble_eq_true rfl) d_S_feed_71 ⟨by decide, by decide⟩ (fun g3 hi => ?_)
            have k16 : g3 (ad 0) = some (.inr (3, [.ref (ad 1), .int ((nI nb)), .ref (ad 2), .int ((nI ni)), .ref (ad 3), .long now])) := by rw [hi, va_up_ne _ _ (ne_cls h10 h15 (by decide))]; exact h10
            have k17 : g3 (ad 2) = some (.inl (dA 4, 60, .inr (.inr (.inr (.inr (iTab ad ni)))))) := by rw [hi, va_up_ne _ _ (ne_kind2 h11 h15)]; exact h11
            have k18 : g3 (bA ad k) = some (.inr (0, [.int ((nI k)), .long ((bLen (B k))), .long ((bSpd (B k))), .long ((bSen (B k))), va_rf (((bOnto (B k)).map (bA ad))), .int ((bRun (B k))), .int ((bTel (B k))), .long ((bTold (B k))), .int ((bGb (B k))), .long ((bWat (B k))), .ref (bG ad k), .ref (bP ad k), .ref (bW ad k)])) := by rw [hi, va_up_ne _ _ (ne_cls h12 h15 (by decide))]; exact h12
            have k19 : g3 (bP ad k) = some (.inl (dA 1, 8, .inr (.inl ((bFp (B k)))))) := by rw [hi, va_up_ne _ _ (ne_kind2 h13 h15)]; exact h13
            have k20 : g3 (bW ad k) = some (.inl (dA 1, 8, .inr (.inl ((bFw (B k)))))) := by rw [hi, va_up_ne _ _ (ne_kind2 h14 h15)]; exact h14
            have kq : g3 q7 = some (itemE (nI (ni + 1)) len (some (bA ad k)) 1 at0 0 0 0) := by rw [hi, va_up_self, nI_1]
            refine go_astore X (lv' := [(7, .ref q7), (6, .ref (bA ad k)), (0, .ref (ad 0)), (1, .int ((nI k))), (2, .long len), (4, .long at0)]) d_S_feed_74 (by decide) rfl ?_
            refine go_lload X (z := 5) d_S_feed_76 rfl ?_
            refine go_aload_n X (z := 2) d_S_feed_78 rfl rfl ?_
            refine go_get X u_S rfl 5 (by decide) gm_fl_S_35 rfl d_S_feed_79 k16 rfl ?_
            refine go_lif_ne X (tgt := 98) d_S_feed_82 d_S_feed_83 rfl (fun c21 => ?_) (fun c21 => ?_)
            · refine go_aload_n X (z := 2) d_S_feed_98 rfl rfl ?_
              refine go_get X u_S rfl 2 (by decide) gm_fl_S_21 rfl d_S_feed_99 k16 rfl ?_
              refine go_aload_n X (z := 2) d_S_feed_102 rfl rfl ?_
              refine go_get X u_S rfl 3 (by decide) gm_fl_S_25 rfl d_S_feed_103 k16 rfl ?_
              refine go_aload X (z := 0) d_S_feed_106 rfl ?_
              refine go_aast X 4 2 rfl rfl d_S_feed_108 k17 kq (vp_in_nI hni (by decide)) ?_
              refine go_gen (fun g22 eg22 => ?_)
              have eg22 : g22 = va_up g3 (ad 2) (some (.inl (dA 4, 60, .inr (.inr (.inr (.inr (va_up (iTab ad ni) ni (some q7)))))))) := by rw [eg22, nI_clamp (show ni < 2 ^ 31 by omega)]
              have h23 : g22 (ad 0) = some (.inr (3, [.ref (ad 1), .int ((nI nb)), .ref (ad 2), .int ((nI ni)), .ref (ad 3), .long now])) := by rw [eg22, va_up_ne _ _ (ne_kind1 k16 k17)]; exact k16
              have h24 : g22 (bA ad k) = some (.inr (0, [.int ((nI k)), .long ((bLen (B k))), .long ((bSpd (B k))), .long ((bSen (B k))), va_rf (((bOnto (B k)).map (bA ad))), .int ((bRun (B k))), .int ((bTel (B k))), .long ((bTold (B k))), .int ((bGb (B k))), .long ((bWat (B k))), .ref (bG ad k), .ref (bP ad k), .ref (bW ad k)])) := by rw [eg22, va_up_ne _ _ (ne_kind1 k18 k17)]; exact k18
              have h25 : g22 (bP ad k) = some (.inl (dA 1, 8, .inr (.inl ((bFp (B k)))))) := by rw [eg22, va_up_ne _ _ (ne_arr12 k19 k17)]; exact k19
              have h26 : g22 (bW ad k) = some (.inl (dA 1, 8, .inr (.inl ((bFw (B k)))))) := by rw [eg22, va_up_ne _ _ (ne_arr12 k20 k17)]; exact k20
              have h27 : g22 q7 = some (.inr (2, [.int ((nI (ni + 1))), .long len, .ref (bA ad k), .int 1, .long at0, .long 0, .int 0, .int 0])) := by rw [eg22, va_up_ne _ _ (ne_kind1 kq k17)]; exact kq
              have h28 : g22 (ad 2) = some (.inl (dA 4, 60, .inr (.inr (.inr (.inr (va_up (iTab ad ni) ni (some q7))))))) := by rw [eg22]; exact va_up_self _ _ _
              refine go_aload_n X (z := 2) d_S_feed_109 rfl rfl ?_
              refine go_dup X d_S_feed_110 rfl ?_
              refine go_get X u_S rfl 3 (by decide) gm_fl_S_25 rfl d_S_feed_111 h23 rfl ?_
              refine go_iconst X (v := 1) d_S_feed_114 (by decide) ?_
              refine go_iadd X d_S_feed_115 ?_
              refine go_topi (fun x29 ex29 => ?_)
              refine go_put X u_S rfl 3 (by decide) gm_fl_S_25 rfl t_S t_S_ok n_S rfl rfl rfl d_S_feed_116 h23 (Nat.le_of_ble_eq_true rfl) ?_
              refine go_gen (fun g30 eg30 => ?_)
              have eg30 : g30 = va_up g22 (ad 0) (some (.inr (3, [.ref (ad 1), .int ((nI nb)), .ref (ad 2), .int x29, .ref (ad 3), .long now]))) := eg30
              have h31 : g30 (ad 2) = some (.inl (dA 4, 60, .inr (.inr (.inr (.inr (va_up (iTab ad ni) ni (some q7))))))) := by rw [eg30, va_up_ne _ _ (ne_kind2 h28 h23)]; exact h28
              have h32 : g30 (bA ad k) = some (.inr (0, [.int ((nI k)), .long ((bLen (B k))), .long ((bSpd (B k))), .long ((bSen (B k))), va_rf (((bOnto (B k)).map (bA ad))), .int ((bRun (B k))), .int ((bTel (B k))), .long ((bTold (B k))), .int ((bGb (B k))), .long ((bWat (B k))), .ref (bG ad k), .ref (bP ad k), .ref (bW ad k)])) := by rw [eg30, va_up_ne _ _ (ne_cls h24 h23 (by decide))]; exact h24
              have h33 : g30 (bP ad k) = some (.inl (dA 1, 8, .inr (.inl ((bFp (B k)))))) := by rw [eg30, va_up_ne _ _ (ne_kind2 h25 h23)]; exact h25
              have h34 : g30 (bW ad k) = some (.inl (dA 1, 8, .inr (.inl ((bFw (B k)))))) := by rw [eg30, va_up_ne _ _ (ne_kind2 h26 h23)]; exact h26
              have h35 : g30 q7 = some (.inr (2, [.int ((nI (ni + 1))), .long len, .ref (bA ad k), .int 1, .long at0, .long 0, .int 0, .int 0])) := by rw [eg30, va_up_ne _ _ (ne_cls h27 h23 (by decide))]; exact h27
              have h36 : g30 (ad 0) = some (.inr (3, [.ref (ad 1), .int ((nI nb)), .ref (ad 2), .int x29, .ref (ad 3), .long now])) := by rw [eg30]; exact va_up_self _ _ _
              refine go_aload X (z := 0) d_S_feed_119 rfl ?_
              refine go_get X u_I rfl 0 (by decide) gm_fl_S_73 rfl d_S_feed_121 h35 rfl ?_
              have nba : nI ni + 1 = nI (ni + 1) := nI_1 ni
              have cc4 : g30 (ad 0) = some (sCell ad nb (ni + 1) now) := by rw [h36, ex29, nba]
              have cc5 : g30 (ad 2) = some (refE dA 4 60 (va_up (iTab ad ni) ni (some q7))) := h31
              have cc0 : g30 q7 = some (iCell ad ni ((len, some k, 1, at0, 0, 0, 0))) := h35
              have hR := newItem_rep h hni (x := (len, some k, 1, at0, 0, 0, 0)) hq7 (fun j hj => by cases hj; exact hk) (g' := g30) cc0 cc4 cc5 (fun z a0 a4 a5 => by rw [eg30, va_up_ne _ _ a4, eg22, va_up_ne _ _ a5, hi, va_up_ne _ _ a0, eg9, va_up_ne _ _ a0])
              rw [show ((len, some k, 1, at0, 0, 0, 0) : IT) = (if at0 = now then comeI B (len, some k, 1, at0, 0, 0, 0) k now 0 else (len, some k, 1, at0, 0, 0, 0)) from (if_neg c21).symm] at hR
              refine go_widen (k := 1) (n := 8) (by decide) (by decide) ?_
              exact go_retI X hr hlk d_S_feed_124 (Or.inr ⟨k, hk, rfl, Or.inr ⟨c2, Int64.not_lt.mpr c3, c5, Or.inr ⟨c6, rfl, _, hR.1, hR.2.1, hR.2.2⟩⟩⟩)
            · refine go_aload X (z := 0) d_S_feed_86 rfl ?_
              refine go_aload X (z := 1) d_S_feed_88 rfl ?_
              refine go_aload_n X (z := 2) d_S_feed_90 rfl rfl ?_
              refine go_get X u_S rfl 5 (by decide) gm_fl_S_35 rfl d_S_feed_91 k16 rfl ?_
              refine go_lconst X (v := 0) d_S_feed_94 (by decide) ?_
              refine go_callV_V X (As := [.ref (bA ad k), .long now, .long 0]) (rest := []) (c_I_comeOnto kq k18 k19 k20 now 0) gm_ml_S_69 cw_I_comeOnto ⟨by decide, by decide⟩ rfl kq rfl rfl (Nat.le_of_ble_eq_true rfl) d_S_feed_95 ⟨by decide, by decide⟩ (fun g4 hc => ?_)
              have k37 : g4 (ad 0) = some (.inr (3, [.ref (ad 1), .int ((nI nb)), .ref (ad 2), .int ((nI ni)), .ref (ad 3), .long now])) := by rw [hc, va_up_ne _ _ (ne_cls k16 kq (by decide))]; exact k16
              have k38 : g4 (ad 2) = some (.inl (dA 4, 60, .inr (.inr (.inr (.inr (iTab ad ni)))))) := by rw [hc, va_up_ne _ _ (ne_kind2 k17 kq)]; exact k17
              have k39 : g4 (bA ad k) = some (.inr (0, [.int ((nI k)), .long ((bLen (B k))), .long ((bSpd (B k))), .long ((bSen (B k))), va_rf (((bOnto (B k)).map (bA ad))), .int ((bRun (B k))), .int ((bTel (B k))), .long ((bTold (B k))), .int ((bGb (B k))), .long ((bWat (B k))), .ref (bG ad k), .ref (bP ad k), .ref (bW ad k)])) := by rw [hc, va_up_ne _ _ (ne_cls k18 kq (by decide))]; exact k18
              have k40 : g4 (bP ad k) = some (.inl (dA 1, 8, .inr (.inl ((bFp (B k)))))) := by rw [hc, va_up_ne _ _ (ne_kind2 k19 kq)]; exact k19
              have k41 : g4 (bW ad k) = some (.inl (dA 1, 8, .inr (.inl ((bFw (B k)))))) := by rw [hc, va_up_ne _ _ (ne_kind2 k20 kq)]; exact k20
              have mq : g4 q7 = some (iCell ad ni (comeI B (len, some k, 1, at0, 0, 0, 0) k now 0)) := by rw [hc, va_up_self]; rfl
              refine go_aload_n X (z := 2) d_S_feed_98 rfl rfl ?_
              refine go_get X u_S rfl 2 (by decide) gm_fl_S_21 rfl d_S_feed_99 k37 rfl ?_
              refine go_aload_n X (z := 2) d_S_feed_102 rfl rfl ?_
              refine go_get X u_S rfl 3 (by decide) gm_fl_S_25 rfl d_S_feed_103 k37 rfl ?_
              refine go_aload X (z := 0) d_S_feed_106 rfl ?_
              refine go_aast X 4 2 rfl rfl d_S_feed_108 k38 mq (vp_in_nI hni (by decide)) ?_
              refine go_gen (fun g42 eg42 => ?_)
              have eg42 : g42 = va_up g4 (ad 2) (some (.inl (dA 4, 60, .inr (.inr (.inr (.inr (va_up (iTab ad ni) ni (some q7)))))))) := by rw [eg42, nI_clamp (show ni < 2 ^ 31 by omega)]
              have h43 : g42 (ad 0) = some (.inr (3, [.ref (ad 1), .int ((nI nb)), .ref (ad 2), .int ((nI ni)), .ref (ad 3), .long now])) := by rw [eg42, va_up_ne _ _ (ne_kind1 k37 k38)]; exact k37
              have h44 : g42 (bA ad k) = some (.inr (0, [.int ((nI k)), .long ((bLen (B k))), .long ((bSpd (B k))), .long ((bSen (B k))), va_rf (((bOnto (B k)).map (bA ad))), .int ((bRun (B k))), .int ((bTel (B k))), .long ((bTold (B k))), .int ((bGb (B k))), .long ((bWat (B k))), .ref (bG ad k), .ref (bP ad k), .ref (bW ad k)])) := by rw [eg42, va_up_ne _ _ (ne_kind1 k39 k38)]; exact k39
              have h45 : g42 (bP ad k) = some (.inl (dA 1, 8, .inr (.inl ((bFp (B k)))))) := by rw [eg42, va_up_ne _ _ (ne_arr12 k40 k38)]; exact k40
              have h46 : g42 (bW ad k) = some (.inl (dA 1, 8, .inr (.inl ((bFw (B k)))))) := by rw [eg42, va_up_ne _ _ (ne_arr12 k41 k38)]; exact k41
              have h47 : g42 q7 = some (.inr (2, [.int ((nI (ni + 1))), .long len, .ref (bA ad k), .int 0, .long ((iTurn (comeI B (len, some k, 1, at0, 0, 0, 0) k now 0))), .long ((iStart (comeI B (len, some k, 1, at0, 0, 0, 0) k now 0))), .int 0, .int 0])) := by rw [eg42, va_up_ne _ _ (ne_kind1 mq k38)]; exact mq
              have h48 : g42 (ad 2) = some (.inl (dA 4, 60, .inr (.inr (.inr (.inr (va_up (iTab ad ni) ni (some q7))))))) := by rw [eg42]; exact va_up_self _ _ _
              refine go_aload_n X (z := 2) d_S_feed_109 rfl rfl ?_
              refine go_dup X d_S_feed_110 rfl ?_
              refine go_get X u_S rfl 3 (by decide) gm_fl_S_25 rfl d_S_feed_111 h43 rfl ?_
              refine go_iconst X (v := 1) d_S_feed_114 (by decide) ?_
              refine go_iadd X d_S_feed_115 ?_
              refine go_topi (fun x49 ex49 => ?_)
              refine go_put X u_S rfl 3 (by decide) gm_fl_S_25 rfl t_S t_S_ok n_S rfl rfl rfl d_S_feed_116 h43 (Nat.le_of_ble_eq_true rfl) ?_
              refine go_gen (fun g50 eg50 => ?_)
              have eg50 : g50 = va_up g42 (ad 0) (some (.inr (3, [.ref (ad 1), .int ((nI nb)), .ref (ad 2), .int x49, .ref (ad 3), .long now]))) := eg50
              have h51 : g50 (ad 2) = some (.inl (dA 4, 60, .inr (.inr (.inr (.inr (va_up (iTab ad ni) ni (some q7))))))) := by rw [eg50, va_up_ne _ _ (ne_kind2 h48 h43)]; exact h48
              have h52 : g50 (bA ad k) = some (.inr (0, [.int ((nI k)), .long ((bLen (B k))), .long ((bSpd (B k))), .long ((bSen (B k))), va_rf (((bOnto (B k)).map (bA ad))), .int ((bRun (B k))), .int ((bTel (B k))), .long ((bTold (B k))), .int ((bGb (B k))), .long ((bWat (B k))), .ref (bG ad k), .ref (bP ad k), .ref (bW ad k)])) := by rw [eg50, va_up_ne _ _ (ne_cls h44 h43 (by decide))]; exact h44
              have h53 : g50 (bP ad k) = some (.inl (dA 1, 8, .inr (.inl ((bFp (B k)))))) := by rw [eg50, va_up_ne _ _ (ne_kind2 h45 h43)]; exact h45
              have h54 : g50 (bW ad k) = some (.inl (dA 1, 8, .inr (.inl ((bFw (B k)))))) := by rw [eg50, va_up_ne _ _ (ne_kind2 h46 h43)]; exact h46
              have h55 : g50 q7 = some (.inr (2, [.int ((nI (ni + 1))), .long len, .ref (bA ad k), .int 0, .long ((iTurn (comeI B (len, some k, 1, at0, 0, 0, 0) k now 0))), .long ((iStart (comeI B (len, some k, 1, at0, 0, 0, 0) k now 0))), .int 0, .int 0])) := by rw [eg50, va_up_ne _ _ (ne_cls h47 h43 (by decide))]; exact h47
              have h56 : g50 (ad 0) = some (.inr (3, [.ref (ad 1), .int ((nI nb)), .ref (ad 2), .int x49, .ref (ad 3), .long now])) := by rw [eg50]; exact va_up_self _ _ _
              refine go_aload X (z := 0) d_S_feed_119 rfl ?_
              refine go_get X u_I rfl 0 (by decide) gm_fl_S_73 rfl d_S_feed_121 h55 rfl ?_
              have nba : nI ni + 1 = nI (ni + 1) := nI_1 ni
              have cc4 : g50 (ad 0) = some (sCell ad nb (ni + 1) now) := by rw [h56, ex49, nba]
              have cc5 : g50 (ad 2) = some (refE dA 4 60 (va_up (iTab ad ni) ni (some q7))) := h51
              have cc0 : g50 q7 = some (iCell ad ni (comeI B (len, some k, 1, at0, 0, 0, 0) k now 0)) := h55
              have hR := newItem_rep h hni (x := comeI B (len, some k, 1, at0, 0, 0, 0) k now 0) hq7 (fun j hj => by cases hj; exact hk) (g' := g50) cc0 cc4 cc5 (fun z a0 a4 a5 => by rw [eg50, va_up_ne _ _ a4, eg42, va_up_ne _ _ a5, hc, va_up_ne _ _ a0, hi, va_up_ne _ _ a0, eg9, va_up_ne _ _ a0])
              rw [show (comeI B (len, some k, 1, at0, 0, 0, 0) k now 0 : IT) = (if at0 = now then comeI B (len, some k, 1, at0, 0, 0, 0) k now 0 else (len, some k, 1, at0, 0, 0, 0)) from (if_pos c21).symm] at hR
              refine go_widen (k := 1) (n := 8) (by decide) (by decide) ?_
              exact go_retI X hr hlk d_S_feed_124 (Or.inr ⟨k, hk, rfl, Or.inr ⟨c2, Int64.not_lt.mpr c3, c5, Or.inr ⟨c6, rfl, _, hR.1, hR.2.1, hR.2.2⟩⟩⟩)
          · refine go_bipush X (v := (-14)) d_S_feed_53 (by decide) ?_
            refine go_widen (k := 1) (n := 8) (by decide) (by decide) ?_
            exact go_retI X hr hlk d_S_feed_55 (Or.inr ⟨k, hk, rfl, Or.inr ⟨c2, Int64.not_lt.mpr c3, c5, Or.inl ⟨c6, rfl, rfl⟩⟩⟩)
        · refine go_bipush X (v := (-12)) d_S_feed_41 (by decide) ?_
          refine go_widen (k := 1) (n := 8) (by decide) (by decide) ?_
          exact go_retI X hr hlk d_S_feed_43 (Or.inr ⟨k, hk, rfl, Or.inl ⟨Or.inr (Or.inr c5), rfl, rfl⟩⟩)
      · refine go_bipush X (v := (-12)) d_S_feed_29 (by decide) ?_
        refine go_widen (k := 1) (n := 8) (by decide) (by decide) ?_
        exact go_retI X hr hlk d_S_feed_31 (Or.inr ⟨k, hk, rfl, Or.inl ⟨Or.inr (Or.inl (Int64.not_le.mp c3)), rfl, rfl⟩⟩)
  · refine go_astoreN X (lv' := [(6, .null), (0, .ref (ad 0)), (1, .int x), (2, .long len), (4, .long at0)]) d_S_feed_5 (by decide) rfl ?_
    refine go_aloadN X (z := 0) d_S_feed_7 rfl ?_
    refine go_ifnonnullN X d_S_feed_9 ?_
    refine go_bipush X (v := (-11)) d_S_feed_12 (by decide) ?_
    refine go_widen (k := 1) (n := 8) (by decide) (by decide) ?_
    exact go_retI X hr hlk d_S_feed_14 (Or.inl ⟨hnok, rfl, rfl⟩)
set_option maxHeartbeats 4000000 in
set_option maxRecDepth 100000 in
theorem c_S_init {l : Launch} {D : va_G} {dA : Nat → ClassId} {g : Nat → Option va_E}  {a : Nat} (hS : g a = some (.inr (3, [.null, .int 0, .null, .int 0, .null, .long 0]))) : CtV l D classes (tyL dA) y_S_init b_S_init 1 none rm_S_init [.ref a] g (fun g' => ∃ ad, ad 0 = a ∧ (∀ r, okR 0 0 r → r ≠ 0 → g (ad r) = none) ∧ (∀ z e, z ≠ a → g z = some e → g' z = some e) ∧ ∀ (B : Nat → BT) (I : Nat → IT), SRep dA ad g' 0 0 0 B I 0 0 (fun _ => 0)) := by
  refine CtV.of (by decide) (Nat.le_of_ble_eq_true rfl) ?_
  intro p e s m below meth c X hr hlk hnm
  refine go_aload_n X (z := 0) d_S_init_0 rfl rfl ?_
  refine go_objInit X gm_ml_S_1 gm_im_O_init gm_code_O_init d_S_init_1 (by decide) (Nat.le_of_ble_eq_true rfl) ?_
  refine go_aload_n X (z := 0) d_S_init_4 rfl rfl ?_
  refine go_bipush X (v := 12) d_S_init_5 (by decide) ?_
  refine go_newq X 3 (N := 12) rfl gm_cl_S_9 X.2.1.2.1 (by decide) (by decide) (by decide) (by decide) (by decide) d_S_init_7 (fun q1 hq1 => ?_)
  refine go_gen (fun g2 eg2 => ?_)
  have eg2 : g2 = va_up g q1 (some (.inl (dA 3, 12, .inr (.inr (.inr (.inr (fun _ => none))))))) := eg2
  have h3 : g2 a = some (.inr (3, [.null, .int 0, .null, .int 0, .null, .long 0])) := by rw [eg2, va_up_ne _ _ (ne_fresh hS hq1)]; exact hS
  have h4 : g2 q1 = some (.inl (dA 3, 12, .inr (.inr (.inr (.inr (fun _ => none)))))) := by rw [eg2]; exact va_up_self _ _ _
  refine go_putF X u_S rfl 0 (by decide) gm_fl_S_11 rfl t_S t_S_ok n_S rfl hnm rfl rfl rfl d_S_init_10 h3 (Nat.le_of_ble_eq_true rfl) ?_
  refine go_gen (fun g5 eg5 => ?_)
  have eg5 : g5 = va_up g2 a (some (.inr (3, [.ref q1, .int 0, .null, .int 0, .null, .long 0]))) := eg5
  have h6 : g5 q1 = some (.inl (dA 3, 12, .inr (.inr (.inr (.inr (fun _ => none)))))) := by rw [eg5, va_up_ne _ _ (ne_kind2 h4 h3)]; exact h4
  have h7 : g5 a = some (.inr (3, [.ref q1, .int 0, .null, .int 0, .null, .long 0])) := by rw [eg5]; exact va_up_self _ _ _
  refine go_aload_n X (z := 0) d_S_init_13 rfl rfl ?_
  refine go_iconst X (v := 0) d_S_init_14 (by decide) ?_
  refine go_put X u_S rfl 1 (by decide) gm_fl_S_15 rfl t_S t_S_ok n_S rfl rfl rfl d_S_init_15 h7 (Nat.le_of_ble_eq_true rfl) ?_
  refine go_gen (fun g8 eg8 => ?_)
  have eg8 : g8 = va_up g5 a (some (.inr (3, [.ref q1, .int 0, .null, .int 0, .null, .long 0]))) := eg8
  have h9 : g8 q1 = some (.inl (dA 3, 12, .inr (.inr (.inr (.inr (fun _ => none)))))) := by rw [eg8, va_up_ne _ _ (ne_kind2 h6 h7)]; exact h6
  have h10 : g8 a = some (.inr (3, [.ref q1, .int 0, .null, .int 0, .null, .long 0])) := by rw [eg8]; exact va_up_self _ _ _
  refine go_aload_n X (z := 0) d_S_init_18 rfl rfl ?_
  refine go_bipush X (v := 60) d_S_init_19 (by decide) ?_
  refine go_newq X 4 (N := 60) rfl gm_cl_S_19 X.2.1.2.2.1 (by decide) (by decide) (by decide) (by decide) (by decide) d_S_init_21 (fun q11 hq11 => ?_)
  refine go_gen (fun g12 eg12 => ?_)
  have eg12 : g12 = va_up g8 q11 (some (.inl (dA 4, 60, .inr (.inr (.inr (.inr (fun _ => none))))))) := eg12
  have h13 : g12 a = some (.inr (3, [.ref q1, .int 0, .null, .int 0, .null, .long 0])) := by rw [eg12, va_up_ne _ _ (ne_fresh h10 hq11)]; exact h10
  have h14 : g12 q1 = some (.inl (dA 3, 12, .inr (.inr (.inr (.inr (fun _ => none)))))) := by rw [eg12, va_up_ne _ _ (ne_fresh h9 hq11)]; exact h9
  have h15 : g12 q11 = some (.inl (dA 4, 60, .inr (.inr (.inr (.inr (fun _ => none)))))) := by rw [eg12]; exact va_up_self _ _ _
  refine go_putF X u_S rfl 2 (by decide) gm_fl_S_21 rfl t_S t_S_ok n_S rfl hnm rfl rfl rfl d_S_init_24 h13 (Nat.le_of_ble_eq_true rfl) ?_
  refine go_gen (fun g16 eg16 => ?_)
  have eg16 : g16 = va_up g12 a (some (.inr (3, [.ref q1, .int 0, .ref q11, .int 0, .null, .long 0]))) := eg16
  have h17 : g16 q1 = some (.inl (dA 3, 12, .inr (.inr (.inr (.inr (fun _ => none)))))) := by rw [eg16, va_up_ne _ _ (ne_kind2 h14 h13)]; exact h14
  have h18 : g16 q11 = some (.inl (dA 4, 60, .inr (.inr (.inr (.inr (fun _ => none)))))) := by rw [eg16, va_up_ne _ _ (ne_kind2 h15 h13)]; exact h15
  have h19 : g16 a = some (.inr (3, [.ref q1, .int 0, .ref q11, .int 0, .null, .long 0])) := by rw [eg16]; exact va_up_self _ _ _
  refine go_aload_n X (z := 0) d_S_init_27 rfl rfl ?_
  refine go_iconst X (v := 0) d_S_init_28 (by decide) ?_
  refine go_put X u_S rfl 3 (by decide) gm_fl_S_25 rfl t_S t_S_ok n_S rfl rfl rfl d_S_init_29 h19 (Nat.le_of_ble_eq_true rfl) ?_
  refine go_gen (fun g20 eg20 => ?_)
  have eg20 : g20 = va_up g16 a (some (.inr (3, [.ref q1, .int 0, .ref q11, .int 0, .null, .long 0]))) := eg20
  have h21 : g20 q1 = some (.inl (dA 3, 12, .inr (.inr (.inr (.inr (fun _ => none)))))) := by rw [eg20, va_up_ne _ _ (ne_kind2 h17 h19)]; exact h17
  have h22 : g20 q11 = some (.inl (dA 4, 60, .inr (.inr (.inr (.inr (fun _ => none)))))) := by rw [eg20, va_up_ne _ _ (ne_kind2 h18 h19)]; exact h18
  have h23 : g20 a = some (.inr (3, [.ref q1, .int 0, .ref q11, .int 0, .null, .long 0])) := by rw [eg20]; exact va_up_self _ _ _
  refine go_aload_n X (z := 0) d_S_init_32 rfl rfl ?_
  refine go_new X (ci := 1) (fs := [.null, .int 0, .int 0]) u_E t_E t_E_ok gm_cl_S_28 gm_inst_E gm_ini_E rfl (by decide +kernel) (by decide) (by decide) d_S_init_33 (fun q24 hq24 => ?_)
  refine go_gen (fun g26 eg26 => ?_)
  have eg26 : g26 = va_up g20 q24 (some (.inr (1, [.null, .int 0, .int 0]))) := eg26
  have h27 : g26 a = some (.inr (3, [.ref q1, .int 0, .ref q11, .int 0, .null, .long 0])) := by rw [eg26, va_up_ne _ _ (ne_fresh h23 hq24)]; exact h23
  have h28 : g26 q1 = some (.inl (dA 3, 12, .inr (.inr (.inr (.inr (fun _ => none)))))) := by rw [eg26, va_up_ne _ _ (ne_fresh h21 hq24)]; exact h21
  have h29 : g26 q11 = some (.inl (dA 4, 60, .inr (.inr (.inr (.inr (fun _ => none)))))) := by rw [eg26, va_up_ne _ _ (ne_fresh h22 hq24)]; exact h22
  have h30 : g26 q24 = some (.inr (1, [.null, .int 0, .int 0])) := by rw [eg26]; exact va_up_self _ _ _
  refine go_dup X d_S_init_36 rfl ?_
  refine go_callV_IN X (As := []) (rest := [.ref q24, .ref a]) (c_E_init h30) X.2.1.2.2.2 cw_E_init ⟨by decide, by decide⟩ rfl rfl (Nat.le_of_ble_eq_true rfl) d_S_init_37 ⟨by decide, by decide⟩ (fun g9 hi => ?_)
  obtain ⟨ar, zr, e9⟩ := hi
  have k31 : g9 a = some (.inr (3, [.ref q1, .int 0, .ref q11, .int 0, .null, .long 0])) := by rw [e9, va_up_ne _ _ (ne_cls h27 h30 (by decide)), va_up_ne _ _ (ne_fresh h27 zr)]; exact h27
  have k32 : g9 q1 = some (.inl (dA 3, 12, .inr (.inr (.inr (.inr (fun _ => none)))))) := by rw [e9, va_up_ne _ _ (ne_kind2 h28 h30), va_up_ne _ _ (ne_fresh h28 zr)]; exact h28
  have k33 : g9 q11 = some (.inl (dA 4, 60, .inr (.inr (.inr (.inr (fun _ => none)))))) := by rw [e9, va_up_ne _ _ (ne_kind2 h29 h30), va_up_ne _ _ (ne_fresh h29 zr)]; exact h29
  have ke : g9 q24 = some (edgeE ar 0 0) := by rw [e9, va_up_self]
  have kr : g9 ar = some (intE dA 1600 (fun _ => 0)) := by rw [e9, va_up_ne _ _ (ne_fresh h30 zr).symm, va_up_self]
  refine go_putF X u_S rfl 4 (by decide) gm_fl_S_31 rfl t_S t_S_ok n_S rfl hnm rfl rfl rfl d_S_init_40 k31 (Nat.le_of_ble_eq_true rfl) ?_
  refine go_gen (fun g34 eg34 => ?_)
  have eg34 : g34 = va_up g9 a (some (.inr (3, [.ref q1, .int 0, .ref q11, .int 0, .ref q24, .long 0]))) := eg34
  have h35 : g34 q1 = some (.inl (dA 3, 12, .inr (.inr (.inr (.inr (fun _ => none)))))) := by rw [eg34, va_up_ne _ _ (ne_kind2 k32 k31)]; exact k32
  have h36 : g34 q11 = some (.inl (dA 4, 60, .inr (.inr (.inr (.inr (fun _ => none)))))) := by rw [eg34, va_up_ne _ _ (ne_kind2 k33 k31)]; exact k33
  have h37 : g34 q24 = some (.inr (1, [.ref ar, .int 0, .int 0])) := by rw [eg34, va_up_ne _ _ (ne_cls ke k31 (by decide))]; exact ke
  have h38 : g34 ar = some (.inl (dA 0, 1600, .inl (fun _ => 0))) := by rw [eg34, va_up_ne _ _ (ne_kind2 kr k31)]; exact kr
  have h39 : g34 a = some (.inr (3, [.ref q1, .int 0, .ref q11, .int 0, .ref q24, .long 0])) := by rw [eg34]; exact va_up_self _ _ _
  refine go_aload_n X (z := 0) d_S_init_43 rfl rfl ?_
  refine go_lconst X (v := 0) d_S_init_44 (by decide) ?_
  refine go_put X u_S rfl 5 (by decide) gm_fl_S_35 rfl t_S t_S_ok n_S rfl rfl rfl d_S_init_45 h39 (Nat.le_of_ble_eq_true rfl) ?_
  refine go_gen (fun g40 eg40 => ?_)
  have eg40 : g40 = va_up g34 a (some (.inr (3, [.ref q1, .int 0, .ref q11, .int 0, .ref q24, .long 0]))) := eg40
  have h41 : g40 q1 = some (.inl (dA 3, 12, .inr (.inr (.inr (.inr (fun _ => none)))))) := by rw [eg40, va_up_ne _ _ (ne_kind2 h35 h39)]; exact h35
  have h42 : g40 q11 = some (.inl (dA 4, 60, .inr (.inr (.inr (.inr (fun _ => none)))))) := by rw [eg40, va_up_ne _ _ (ne_kind2 h36 h39)]; exact h36
  have h43 : g40 q24 = some (.inr (1, [.ref ar, .int 0, .int 0])) := by rw [eg40, va_up_ne _ _ (ne_cls h37 h39 (by decide))]; exact h37
  have h44 : g40 ar = some (.inl (dA 0, 1600, .inl (fun _ => 0))) := by rw [eg40, va_up_ne _ _ (ne_kind2 h38 h39)]; exact h38
  have h45 : g40 a = some (.inr (3, [.ref q1, .int 0, .ref q11, .int 0, .ref q24, .long 0])) := by rw [eg40]; exact va_up_self _ _ _
  have zq1 := hq1
  have nq1a : q1 ≠ a := (ne_fresh hS hq1).symm
  rw [eg8, eg5, eg2] at hq11
  simp only [bx_uu, up_mid] at hq11
  obtain ⟨nq11a, zq11⟩ := up_none hq11
  obtain ⟨nq11q1, zq11⟩ := up_none zq11
  rw [eg20, eg16, eg12, eg8, eg5, eg2] at hq24
  simp only [bx_uu, up_mid] at hq24
  obtain ⟨nq24a, zq24⟩ := up_none hq24
  obtain ⟨nq24q11, zq24⟩ := up_none zq24
  obtain ⟨nq24q1, zq24⟩ := up_none zq24
  rw [eg26, eg20, eg16, eg12, eg8, eg5, eg2] at zr
  simp only [bx_uu, up_mid] at zr
  obtain ⟨nre, zr⟩ := up_none zr
  obtain ⟨nra, zr⟩ := up_none zr
  obtain ⟨nr2, zr⟩ := up_none zr
  obtain ⟨nr1, zr⟩ := up_none zr
  have e0 : ∀ ad : Nat → Nat, bTab ad 0 = fun _ => none := fun ad => funext fun i => if_neg (Nat.not_lt_zero i)
  have e00 : ∀ ad : Nat → Nat, iTab ad 0 = fun _ => none := fun ad => funext fun i => if_neg (Nat.not_lt_zero i)
  refine go_widen (k := 4) (n := 1675) (by decide) (by decide) ?_
  refine go_retV X hr hlk d_S_init_48 ⟨fun r => if r = 0 then a else if r = 1 then q1 else if r = 2 then q11 else if r = 3 then q24 else ar, rfl, ?_, ?_, ?_⟩
  · intro r hr0 hne
    have h5 : r = 1 ∨ r = 2 ∨ r = 3 ∨ r = 4 := by rcases hr0 with z | z | z <;> omega
    rcases h5 with rfl | rfl | rfl | rfl
    · exact zq1
    · exact zq11
    · exact zq24
    · exact zr
  · intro z e0 hza hg
    rw [eg40, va_up_ne _ _ hza, eg34, va_up_ne _ _ hza, e9, va_up_ne _ _ (ne_fresh hg zq24), va_up_ne _ _ (ne_fresh hg zr), eg26, va_up_ne _ _ (ne_fresh hg zq24), eg20, va_up_ne _ _ hza, eg16, va_up_ne _ _ hza, eg12, va_up_ne _ _ (ne_fresh hg zq11), eg8, va_up_ne _ _ hza, eg5, va_up_ne _ _ hza, eg2, va_up_ne _ _ (ne_fresh hg zq1)]
    exact hg
  · intro B I
    refine ⟨?_, h45, ?_, ?_, h43, h44, fun i hi => absurd hi (Nat.not_lt_zero i), fun i hi => absurd hi (Nat.not_lt_zero i), by decide, by decide, fun i hi => absurd hi (Nat.not_lt_zero i), fun i hi => absurd hi (Nat.not_lt_zero i)⟩
    · intro r r' h1 h2 e
      have h5 : r = 0 ∨ r = 1 ∨ r = 2 ∨ r = 3 ∨ r = 4 := by rcases h1 with z | z | z <;> omega
      have h6 : r' = 0 ∨ r' = 1 ∨ r' = 2 ∨ r' = 3 ∨ r' = 4 := by rcases h2 with z | z | z <;> omega
      have d1 := ne_kind1 h45 h41
      have d2 := ne_kind1 h45 h42
      have d3 := ne_cls h45 h43 (by decide)
      have d4 := ne_kind1 h45 h44
      have d5 := nq11q1
      have d6 := ne_kind2 h41 h43
      have d7 := ne_arr20 h41 h44
      have d8 := ne_kind2 h42 h43
      have d9 := ne_arr20 h42 h44
      have d10 := ne_kind1 h43 h44
      rcases h5 with rfl | rfl | rfl | rfl | rfl <;> rcases h6 with rfl | rfl | rfl | rfl | rfl <;> first | rfl | exact absurd e d1 | exact absurd e d2 | exact absurd e d3 | exact absurd e d4 | exact absurd e d5 | exact absurd e d6 | exact absurd e d7 | exact absurd e d8 | exact absurd e d9 | exact absurd e d10 | exact absurd e.symm d1 | exact absurd e.symm d2 | exact absurd e.symm d3 | exact absurd e.symm d4 | exact absurd e.symm d5 | exact absurd e.symm d6 | exact absurd e.symm d7 | exact absurd e.symm d8 | exact absurd e.symm d9 | exact absurd e.symm d10
    · rw [e0]; exact h41
    · rw [e00]; exact h42
end S6
