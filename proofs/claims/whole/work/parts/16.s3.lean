/-! BeltSteps: passTo, placeAhead. -/
section S3
variable {ad : Nat → Nat} {nb ni : Nat} {now : Int64} {B : Nat → BT} {I : Nat → IT} {n : Nat} {tk : Int32} {fr : Nat → Int32}
set_option maxHeartbeats 4000000 in
set_option maxRecDepth 100000 in
theorem c_S_passTo {l : Launch} {D : va_G} {dA : Nat → ClassId} {g : Nat → Option va_E}  (h : SRep dA ad g nb ni now B I n tk fr) (hn : n ≤ 1000000000) (t : Int64) : CtV l D classes (tyL dA) y_S_passTo b_S_passTo 6 none rm_S_passTo [.ref (ad 0), .long t] g (fun g' => SRep dA ad g' nb ni t B (pasN B ni t 100000 I (n, fr)).1 (pasN B ni t 100000 I (n, fr)).2.1 tk (pasN B ni t 100000 I (n, fr)).2.2 ∧ SFr ad nb ni g g') := by
  refine CtV.of (by decide) (Nat.le_of_ble_eq_true rfl) ?_
  intro p e s m below meth c X hr hlk hnm
  have hni := h.ni60
  have loop : ∀ (f k : Nat) (g1 : Nat → Option va_E) (I1 : Nat → IT) (e1 : ET), k + f = 100000 → pasN B ni t f I1 e1 = pasN B ni t 100000 I (n, fr) → e1.1 ≤ 1000000000 + 120 * k → SRep dA ad g1 nb ni now B I1 e1.1 tk e1.2 → SFr ad nb ni g g1 → Go p l e rm_S_passTo s m [.ref (ad 0), .long t].toArray below meth c D classes (gA g s.heap.size) 6 (MQ below (va_Qv (fun g' => SRep dA ad g' nb ni t B (pasN B ni t 100000 I (n, fr)).1 (pasN B ni t 100000 I (n, fr)).2.1 tk (pasN B ni t 100000 I (n, fr)).2.2 ∧ SFr ad nb ni g g') (fun (g' : Nat → Option va_E) (t : State) => PW D classes (gA g s.heap.size) g' t.heap) (gA g s.heap.size)) [.ref (ad 0), .long t].toArray s 0 0 (gA g s.heap.size)) g1 0 0 2 [(3, .int ((nI k))), (0, .ref (ad 0)), (1, .long t)] [] := by
    intro f
    induction f with
    | zero =>
      intro k g1 I1 e1 hk hp hn1 h1 hF
      have hkn : k = 100000 := by omega
      subst hkn
      refine go_iload_n X (z := 0) d_S_passTo_2 rfl rfl ?_
      refine go_ldc X d_S_passTo_3 gm_k_S_151 ?_
      refine go_icmp_ge X (tgt := 42) d_S_passTo_5 rfl (fun c1 => ?_) (fun c1 => absurd (by decide) c1)
      refine go_aload_n X (z := 1) d_S_passTo_42 rfl rfl ?_
      refine go_lload_n X (z := 2) d_S_passTo_43 rfl rfl ?_
      refine go_put X u_S rfl 5 (by decide) gm_fl_S_35 rfl t_S t_S_ok n_S rfl rfl rfl d_S_passTo_44 h1.this (Nat.le_of_ble_eq_true rfl) ?_
      refine go_gen (fun gp ep2 => ?_)
      have hq := h1.setNow (t := t)
      rw [show va_up g1 (ad 0) (some (sCell ad nb ni t)) = gp from ep2.symm] at hq
      have hw := hp
      exact go_retV X hr hlk d_S_passTo_47 ⟨by rw [← hw]; exact hq, hF.trans (by rw [ep2]; exact SFr.up (ok0 (by omega)))⟩
    | succ f ih =>
      intro k g1 I1 e1 hkf hp hn1 h1 hF
      refine go_iload_n X (z := 0) d_S_passTo_2 rfl rfl ?_
      refine go_ldc X d_S_passTo_3 gm_k_S_151 ?_
      refine go_icmp_ge X (tgt := 42) d_S_passTo_5 rfl (fun c1 => absurd c1 (nI_ge (a := k) (b := 100000) (by omega) (by decide))) (fun c1 => ?_)
      refine go_aload_n X (z := 1) d_S_passTo_8 rfl rfl ?_
      refine go_callL_V X (As := []) (rest := []) (c_S_nextTurn h1) gm_ml_S_152 cw_S_nextTurn ⟨by decide, by decide⟩ rfl h1.this rfl rfl (Nat.le_of_ble_eq_true rfl) d_S_passTo_9 ⟨by decide, by decide⟩ (fun r1 gq hq1 => ?_)
      obtain ⟨rfl, rfl⟩ := hq1
      refine go_topl (fun x2 ex2 => ?_)
      refine go_lstore X (lv' := [(4, .long x2), (3, .int ((nI k))), (0, .ref (ad 0)), (1, .long t)]) d_S_passTo_12 (by decide) rfl ?_
      refine go_lload X (z := 0) d_S_passTo_14 rfl ?_
      refine go_lload_n X (z := 3) d_S_passTo_16 rfl rfl ?_
      refine go_lif_le X (tgt := 24) d_S_passTo_17 d_S_passTo_18 rfl (fun c3 => ?_) (fun c3 => ?_)
      · refine go_aload_n X (z := 2) d_S_passTo_24 rfl rfl ?_
        refine go_lload X (z := 0) d_S_passTo_25 rfl ?_
        refine go_callV_V X (As := [.long x2]) (rest := []) (c_S_moveItems h1 x2) gm_ml_S_156 cw_S_moveItems ⟨by decide, by decide⟩ rfl h1.this rfl rfl (Nat.le_of_ble_eq_true rfl) d_S_passTo_27 ⟨by decide, by decide⟩ (fun gm hm => ?_)
        obtain ⟨hm, hmF⟩ := hm
        refine go_aload_n X (z := 2) d_S_passTo_30 rfl rfl ?_
        refine go_lload X (z := 0) d_S_passTo_31 rfl ?_
        refine go_callV_V X (As := [.long x2]) (rest := []) (c_S_tellEdges hm (by omega) x2) gm_ml_S_159 cw_S_tellEdges ⟨by decide, by decide⟩ rfl hm.this rfl rfl (Nat.le_of_ble_eq_true rfl) d_S_passTo_33 ⟨by decide, by decide⟩ (fun gt ht => ?_)
        obtain ⟨ht, htF⟩ := ht
        refine go_iinc X (j := 1) (v := nI (k + 1)) d_S_passTo_36 rfl (nI_1 k) (by decide) rfl ?_
        refine go_goto X (tgt := 2) d_S_passTo_39 rfl ?_
        refine go_sub (lv' := [(3, .int (nI (k + 1))), (0, .ref (ad 0)), (1, .long t)]) [0, 2, 3] rfl ?_
        subst ex2
        have hnt : (tellN B ni (nextN I1 ni) (moveN B (nextN I1 ni) I1 ni) (e1.1, e1.2) ni).2.1 ≤ e1.1 + 2 * ni := tellN_n B ni (nextN I1 ni) (moveN B (nextN I1 ni) I1 ni) (e1.1, e1.2) ni
        exact ih (k + 1) _ _ _ (by omega) (by rw [← hp]; simp only [pasN]; rw [if_pos c3]) (by omega) ht (hF.trans (hmF.trans htF))
      · refine go_goto X (tgt := 42) d_S_passTo_21 rfl ?_
        refine go_aload_n X (z := 2) d_S_passTo_42 rfl rfl ?_
        refine go_lload_n X (z := 3) d_S_passTo_43 rfl rfl ?_
        refine go_put X u_S rfl 5 (by decide) gm_fl_S_35 rfl t_S t_S_ok n_S rfl rfl rfl d_S_passTo_44 h1.this (Nat.le_of_ble_eq_true rfl) ?_
        refine go_gen (fun gp ep2 => ?_)
        have hq := h1.setNow (t := t)
        rw [show va_up g1 (ad 0) (some (sCell ad nb ni t)) = gp from ep2.symm] at hq
        have hw := (show (I1, e1) = pasN B ni t 100000 I (n, fr) by rw [← hp]; simp only [pasN]; rw [if_neg (by rw [← ex2]; exact c3)])
        exact go_retV X hr hlk d_S_passTo_47 ⟨by rw [← hw]; exact hq, hF.trans (by rw [ep2]; exact SFr.up (ok0 (by omega)))⟩
  refine go_iconst X (v := 0) d_S_passTo_0 (by decide) ?_
  refine go_istore_n X (lv' := [(3, .int (nI 0)), (0, .ref (ad 0)), (1, .long t)]) d_S_passTo_1 rfl (by decide) rfl ?_
  exact loop 100000 0 g I (n, fr) rfl rfl hn h SFr.rfl'
set_option maxHeartbeats 4000000 in
set_option maxRecDepth 100000 in
theorem c_S_placeAhead_n {l : Launch} {D : va_G} {dA : Nat → ClassId} {g : Nat → Option va_E}  (h : SRep dA ad g nb ni now B I n tk fr) {i : Nat} (hi : i < ni) (hb : iBt (I i) = none) (t : Int64) : CtL l D classes (tyL dA) y_S_placeAhead b_S_placeAhead 12 (some .long) rm_S_placeAhead [.ref (iA ad i), .long t] g (fun r g' => g = g' ∧ r = paF B (I i) t) := by
  refine CtL.of (by decide) (Nat.le_of_ble_eq_true rfl) ?_
  intro p e s m below meth c X hr hlk hnm
  refine go_aload_n X (z := 0) d_S_placeAhead_0 rfl rfl ?_
  refine go_get X u_I rfl 2 (by decide) gm_fl_S_135 rfl d_S_placeAhead_1 (h.iN hi hb) rfl ?_
  refine go_astore_nN X (lv' := [(3, .null), (0, .ref (iA ad i)), (1, .long t)]) d_S_placeAhead_4 rfl (by decide) rfl ?_
  refine go_aload_nN X (z := 0) d_S_placeAhead_5 rfl rfl ?_
  refine go_ifnonnullN X d_S_placeAhead_6 ?_
  refine go_ldc2 X d_S_placeAhead_9 gm_k_S_196 ?_
  exact go_retL X hr hlk d_S_placeAhead_12 ⟨rfl, by unfold paF; rw [hb]⟩
set_option maxHeartbeats 4000000 in
set_option maxRecDepth 100000 in
theorem c_S_placeAhead_s {l : Launch} {D : va_G} {dA : Nat → ClassId} {g : Nat → Option va_E}  (h : SRep dA ad g nb ni now B I n tk fr) {i j0 : Nat} (hi : i < ni) (hb : iBt (I i) = some j0) (t : Int64) : CtL l D classes (tyL dA) y_S_placeAhead b_S_placeAhead 12 (some .long) rm_S_placeAhead [.ref (iA ad i), .long t] g (fun r g' => g = g' ∧ r = paF B (I i) t) := by
  refine CtL.of (by decide) (Nat.le_of_ble_eq_true rfl) ?_
  intro p e s m below meth c X hr hlk hnm
  have hj0 := h.bt hi hb
  have loop : ∀ (f k j : Nat) (s0 : Int64), k + f = 12 → j < nb → paF B (I i) t = paN B t f j s0 → Go p l e rm_S_placeAhead s m [.ref (iA ad i), .long t].toArray below meth c D classes (gA g s.heap.size) 12 (MQ below (va_Ql (fun r g' => g = g' ∧ r = paF B (I i) t) (fun (g' : Nat → Option va_E) (t : State) => PW D classes (gA g s.heap.size) g' t.heap) (gA g s.heap.size)) [.ref (iA ad i), .long t].toArray s 0 0 (gA g s.heap.size)) g 0 0 60 [(6, .int ((nI k))), (4, .long s0), (3, .ref (bA ad j)), (0, .ref (iA ad i)), (1, .long t)] [] := by
    intro f
    induction f with
    | zero =>
      intro k j s0 hk hj hp
      have hkn : k = 12 := by omega
      subst hkn
      refine go_iload X (z := 0) d_S_placeAhead_60 rfl ?_
      refine go_bipush X (v := 12) d_S_placeAhead_62 (by decide) ?_
      refine go_icmp_ge X (tgt := 158) d_S_placeAhead_64 rfl (fun c1 => ?_) (fun c1 => absurd (by decide) c1)
      refine go_ldc2 X d_S_placeAhead_158 gm_k_S_196 ?_
      exact go_retL X hr hlk d_S_placeAhead_161 ⟨rfl, hp.symm⟩
    | succ f ih =>
      intro k j s0 hkf hj hp
      cases ho : bOnto (B j) with
      | none =>
        refine go_iload X (z := 0) d_S_placeAhead_60 rfl ?_
        refine go_bipush X (v := 12) d_S_placeAhead_62 (by decide) ?_
        refine go_icmp_ge X (tgt := 158) d_S_placeAhead_64 rfl (fun c1 => absurd c1 (nI_ge (a := k) (b := 12) (by omega) (by decide))) (fun c1 => ?_)
        refine go_aload_n X (z := 2) d_S_placeAhead_67 rfl rfl ?_
        refine go_lload X (z := 1) d_S_placeAhead_68 rfl ?_
        refine go_aload_n X (z := 2) d_S_placeAhead_70 rfl rfl ?_
        refine go_get X u_B rfl 1 (by decide) gm_fl_S_203 rfl d_S_placeAhead_71 (h.bN hj ho) rfl ?_
        refine go_ladd X d_S_placeAhead_74 ?_
        refine go_callL_V X (As := [.long (s0 + ((bLen (B j))))]) (rest := []) (s_timeOfWay h hj (s0 + ((bLen (B j))))) gm_ml_S_204 cw_B_timeOfWay ⟨by decide, by decide⟩ rfl (h.bN hj ho) rfl rfl (Nat.le_of_ble_eq_true rfl) d_S_placeAhead_75 ⟨by decide, by decide⟩ (fun r1 gq hq1 => ?_)
        obtain ⟨rfl, rfl⟩ := hq1
        refine go_topl (fun x2 ex2 => ?_)
        refine go_lstore X (lv' := [(7, .long x2), (6, .int ((nI k))), (4, .long s0), (3, .ref (bA ad j)), (0, .ref (iA ad i)), (1, .long t)]) d_S_placeAhead_78 (by decide) rfl ?_
        refine go_lload_n X (z := 5) d_S_placeAhead_80 rfl rfl ?_
        refine go_lload X (z := 0) d_S_placeAhead_81 rfl ?_
        refine go_lif_ge X (tgt := 106) d_S_placeAhead_83 d_S_placeAhead_84 rfl (fun c3 => ?_) (fun c3 => ?_)
        · refine go_aload_n X (z := 3) d_S_placeAhead_106 rfl rfl ?_
          refine go_get X u_B rfl 4 (by decide) gm_fl_S_58 rfl d_S_placeAhead_107 (h.bN hj ho) rfl ?_
          refine go_astoreN X (lv' := [(9, .null), (7, .long x2), (6, .int ((nI k))), (4, .long s0), (3, .ref (bA ad j)), (0, .ref (iA ad i)), (1, .long t)]) d_S_placeAhead_110 (by decide) rfl ?_
          refine go_aloadN X (z := 0) d_S_placeAhead_112 rfl ?_
          refine go_ifnonnullN X d_S_placeAhead_114 ?_
          refine go_ldc2 X d_S_placeAhead_117 gm_k_S_196 ?_
          exact go_retL X hr hlk d_S_placeAhead_120 ⟨rfl, by rw [hp]; subst ex2; simp only [paN, ho]; rw [if_pos c3]⟩
        · refine go_aload_n X (z := 3) d_S_placeAhead_87 rfl rfl ?_
          refine go_get X u_B rfl 0 (by decide) gm_fl_S_51 rfl d_S_placeAhead_88 (h.bN hj ho) rfl ?_
          refine go_i2l X d_S_placeAhead_91 rfl ?_
          refine go_ldc2 X d_S_placeAhead_92 gm_k_S_105 ?_
          refine go_lmul X d_S_placeAhead_95 ?_
          refine go_aload_n X (z := 3) d_S_placeAhead_96 rfl rfl ?_
          refine go_lload_n X (z := 5) d_S_placeAhead_97 rfl rfl ?_
          refine go_callL_V X (As := [.long t]) (rest := [.long ((((nI j)).toInt64) * 1000000000)]) (s_wayAt h hj t) gm_ml_S_174 cw_B_wayAt ⟨by decide, by decide⟩ rfl (h.bN hj ho) rfl rfl (Nat.le_of_ble_eq_true rfl) d_S_placeAhead_98 ⟨by decide, by decide⟩ (fun ru4 gu4 hu4 => ?_)
          obtain ⟨rfl, rfl⟩ := hu4
          refine go_ladd X d_S_placeAhead_101 ?_
          refine go_lload X (z := 2) d_S_placeAhead_102 rfl ?_
          refine go_lsub X d_S_placeAhead_104 ?_
          exact go_retL X hr hlk d_S_placeAhead_105 ⟨rfl, by rw [hp]; subst ex2; simp only [paN, ho]; rw [if_neg c3]⟩
      | some j2 =>
        have hj2 := h.onto hj ho
        refine go_iload X (z := 0) d_S_placeAhead_60 rfl ?_
        refine go_bipush X (v := 12) d_S_placeAhead_62 (by decide) ?_
        refine go_icmp_ge X (tgt := 158) d_S_placeAhead_64 rfl (fun c1 => absurd c1 (nI_ge (a := k) (b := 12) (by omega) (by decide))) (fun c1 => ?_)
        refine go_aload_n X (z := 2) d_S_placeAhead_67 rfl rfl ?_
        refine go_lload X (z := 1) d_S_placeAhead_68 rfl ?_
        refine go_aload_n X (z := 2) d_S_placeAhead_70 rfl rfl ?_
        refine go_get X u_B rfl 1 (by decide) gm_fl_S_203 rfl d_S_placeAhead_71 (h.bS hj ho) rfl ?_
        refine go_ladd X d_S_placeAhead_74 ?_
        refine go_callL_V X (As := [.long (s0 + ((bLen (B j))))]) (rest := []) (s_timeOfWay h hj (s0 + ((bLen (B j))))) gm_ml_S_204 cw_B_timeOfWay ⟨by decide, by decide⟩ rfl (h.bS hj ho) rfl rfl (Nat.le_of_ble_eq_true rfl) d_S_placeAhead_75 ⟨by decide, by decide⟩ (fun r1 gq hq1 => ?_)
        obtain ⟨rfl, rfl⟩ := hq1
        refine go_topl (fun x2 ex2 => ?_)
        refine go_lstore X (lv' := [(7, .long x2), (6, .int ((nI k))), (4, .long s0), (3, .ref (bA ad j)), (0, .ref (iA ad i)), (1, .long t)]) d_S_placeAhead_78 (by decide) rfl ?_
        refine go_lload_n X (z := 5) d_S_placeAhead_80 rfl rfl ?_
        refine go_lload X (z := 0) d_S_placeAhead_81 rfl ?_
        refine go_lif_ge X (tgt := 106) d_S_placeAhead_83 d_S_placeAhead_84 rfl (fun c3 => ?_) (fun c3 => ?_)
        · refine go_aload_n X (z := 3) d_S_placeAhead_106 rfl rfl ?_
          refine go_get X u_B rfl 4 (by decide) gm_fl_S_58 rfl d_S_placeAhead_107 (h.bS hj ho) rfl ?_
          refine go_astore X (lv' := [(9, .ref (bA ad j2)), (7, .long x2), (6, .int ((nI k))), (4, .long s0), (3, .ref (bA ad j)), (0, .ref (iA ad i)), (1, .long t)]) d_S_placeAhead_110 (by decide) rfl ?_
          refine go_aload X (z := 0) d_S_placeAhead_112 rfl ?_
          refine go_ifnonnull X (tgt := 121) d_S_placeAhead_114 rfl ?_
          refine go_aload_n X (z := 4) d_S_placeAhead_121 rfl rfl ?_
          refine go_lload X (z := 1) d_S_placeAhead_122 rfl ?_
          refine go_callL_V X (As := [.long x2]) (rest := []) (s_wayAt h hj x2) gm_ml_S_174 cw_B_wayAt ⟨by decide, by decide⟩ rfl (h.bS hj ho) rfl rfl (Nat.le_of_ble_eq_true rfl) d_S_placeAhead_124 ⟨by decide, by decide⟩ (fun ru4 gu4 hu4 => ?_)
          obtain ⟨rfl, rfl⟩ := hu4
          refine go_lload X (z := 3) d_S_placeAhead_127 rfl ?_
          refine go_lsub X d_S_placeAhead_129 ?_
          refine go_aload_n X (z := 4) d_S_placeAhead_130 rfl rfl ?_
          refine go_get X u_B rfl 1 (by decide) gm_fl_S_203 rfl d_S_placeAhead_131 (h.bS hj ho) rfl ?_
          refine go_lsub X d_S_placeAhead_134 ?_
          refine go_topl (fun x5 ex5 => ?_)
          refine go_lstore X (lv' := [(10, .long x5), (9, .ref (bA ad j2)), (7, .long x2), (6, .int ((nI k))), (4, .long s0), (3, .ref (bA ad j)), (0, .ref (iA ad i)), (1, .long t)]) d_S_placeAhead_135 (by decide) rfl ?_
          refine go_aload X (z := 1) d_S_placeAhead_137 rfl ?_
          refine go_lload X (z := 2) d_S_placeAhead_139 rfl ?_
          refine go_callL_V X (As := [.long x2]) (rest := []) (s_wayAt h hj2 x2) gm_ml_S_174 cw_B_wayAt ⟨by decide, by decide⟩ rfl (h.b hj2) rfl rfl (Nat.le_of_ble_eq_true rfl) d_S_placeAhead_141 ⟨by decide, by decide⟩ (fun ru6 gu6 hu6 => ?_)
          obtain ⟨rfl, rfl⟩ := hu6
          refine go_lload X (z := 0) d_S_placeAhead_144 rfl ?_
          refine go_lsub X d_S_placeAhead_146 ?_
          refine go_topl (fun x7 ex7 => ?_)
          refine go_lstore X (lv' := [(4, .long x7), (10, .long x5), (9, .ref (bA ad j2)), (7, .long x2), (6, .int ((nI k))), (3, .ref (bA ad j)), (0, .ref (iA ad i)), (1, .long t)]) d_S_placeAhead_147 (by decide) rfl ?_
          refine go_aload X (z := 2) d_S_placeAhead_149 rfl ?_
          refine go_astore_n X (lv' := [(3, .ref (bA ad j2)), (4, .long x7), (10, .long x5), (9, .ref (bA ad j2)), (7, .long x2), (6, .int ((nI k))), (0, .ref (iA ad i)), (1, .long t)]) d_S_placeAhead_151 rfl (by decide) rfl ?_
          refine go_iinc X (j := 5) (v := nI (k + 1)) d_S_placeAhead_152 rfl (nI_1 k) (by decide) rfl ?_
          refine go_goto X (tgt := 60) d_S_placeAhead_155 rfl ?_
          refine go_sub (lv' := [(6, .int (nI (k + 1))), (4, .long x7), (3, .ref (bA ad j2)), (0, .ref (iA ad i)), (1, .long t)]) [0, 2, 1, 6, 7] rfl ?_
          exact ih (k + 1) j2 x7 (by omega) hj2 (by rw [hp]; subst ex2 ex5 ex7; simp only [paN, ho]; rw [if_pos c3])
        · refine go_aload_n X (z := 3) d_S_placeAhead_87 rfl rfl ?_
          refine go_get X u_B rfl 0 (by decide) gm_fl_S_51 rfl d_S_placeAhead_88 (h.bS hj ho) rfl ?_
          refine go_i2l X d_S_placeAhead_91 rfl ?_
          refine go_ldc2 X d_S_placeAhead_92 gm_k_S_105 ?_
          refine go_lmul X d_S_placeAhead_95 ?_
          refine go_aload_n X (z := 3) d_S_placeAhead_96 rfl rfl ?_
          refine go_lload_n X (z := 5) d_S_placeAhead_97 rfl rfl ?_
          refine go_callL_V X (As := [.long t]) (rest := [.long ((((nI j)).toInt64) * 1000000000)]) (s_wayAt h hj t) gm_ml_S_174 cw_B_wayAt ⟨by decide, by decide⟩ rfl (h.bS hj ho) rfl rfl (Nat.le_of_ble_eq_true rfl) d_S_placeAhead_98 ⟨by decide, by decide⟩ (fun ru8 gu8 hu8 => ?_)
          obtain ⟨rfl, rfl⟩ := hu8
          refine go_ladd X d_S_placeAhead_101 ?_
          refine go_lload X (z := 2) d_S_placeAhead_102 rfl ?_
          refine go_lsub X d_S_placeAhead_104 ?_
          exact go_retL X hr hlk d_S_placeAhead_105 ⟨rfl, by rw [hp]; subst ex2; simp only [paN, ho]; rw [if_neg c3]⟩
  refine go_aload_n X (z := 0) d_S_placeAhead_0 rfl rfl ?_
  refine go_get X u_I rfl 2 (by decide) gm_fl_S_135 rfl d_S_placeAhead_1 (h.iS hi hb) rfl ?_
  refine go_astore_n X (lv' := [(3, .ref (bA ad j0)), (0, .ref (iA ad i)), (1, .long t)]) d_S_placeAhead_4 rfl (by decide) rfl ?_
  refine go_aload_n X (z := 0) d_S_placeAhead_5 rfl rfl ?_
  refine go_ifnonnull X (tgt := 13) d_S_placeAhead_6 rfl ?_
  refine go_aload_n X (z := 1) d_S_placeAhead_13 rfl rfl ?_
  refine go_get X u_I rfl 3 (by decide) gm_fl_S_198 rfl d_S_placeAhead_14 (h.iS hi hb) rfl ?_
  refine go_if_eq X (tgt := 33) d_S_placeAhead_17 rfl (fun c1 => ?_) (fun c1 => ?_)
  · refine go_aload_n X (z := 1) d_S_placeAhead_33 rfl rfl ?_
    refine go_get X u_I rfl 3 (by decide) gm_fl_S_198 rfl d_S_placeAhead_34 (h.iS hi hb) rfl ?_
    refine go_if_eq X (tgt := 51) d_S_placeAhead_37 rfl (fun c2 => ?_) (fun c2 => absurd c1 c2)
    refine go_aload_n X (z := 1) d_S_placeAhead_51 rfl rfl ?_
    refine go_get X u_I rfl 5 (by decide) gm_fl_S_121 rfl d_S_placeAhead_52 (h.iS hi hb) rfl ?_
    refine go_topl (fun x3 ex3 => ?_)
    refine go_lstore X (lv' := [(4, .long x3), (3, .ref (bA ad j0)), (0, .ref (iA ad i)), (1, .long t)]) d_S_placeAhead_55 (by decide) rfl ?_
    refine go_iconst X (v := 0) d_S_placeAhead_57 (by decide) ?_
    refine go_istore X (lv' := [(6, .int 0), (4, .long x3), (3, .ref (bA ad j0)), (0, .ref (iA ad i)), (1, .long t)]) d_S_placeAhead_58 (by decide) rfl ?_
    refine go_sub (lv' := [(6, .int (nI 0)), (4, .long x3), (3, .ref (bA ad j0)), (0, .ref (iA ad i)), (1, .long t)]) [0, 1, 2, 3, 4] rfl ?_
    exact loop 12 0 j0 x3 rfl hj0 (by unfold paF; rw [hb]; simp only; rw [if_pos c1]; rw [ex3])
  · refine go_lload_n X (z := 2) d_S_placeAhead_20 rfl rfl ?_
    refine go_aload_n X (z := 1) d_S_placeAhead_21 rfl rfl ?_
    refine go_get X u_I rfl 4 (by decide) gm_fl_S_164 rfl d_S_placeAhead_22 (h.iS hi hb) rfl ?_
    refine go_lif_ge X (tgt := 33) d_S_placeAhead_25 d_S_placeAhead_26 rfl (fun c4 => ?_) (fun c4 => ?_)
    · refine go_aload_n X (z := 1) d_S_placeAhead_33 rfl rfl ?_
      refine go_get X u_I rfl 3 (by decide) gm_fl_S_198 rfl d_S_placeAhead_34 (h.iS hi hb) rfl ?_
      refine go_if_eq X (tgt := 51) d_S_placeAhead_37 rfl (fun c5 => absurd c5 c1) (fun c5 => ?_)
      refine go_aload_n X (z := 0) d_S_placeAhead_40 rfl rfl ?_
      refine go_aload_n X (z := 1) d_S_placeAhead_41 rfl rfl ?_
      refine go_get X u_I rfl 4 (by decide) gm_fl_S_164 rfl d_S_placeAhead_42 (h.iS hi hb) rfl ?_
      refine go_callL_V X (As := [.long ((iTurn (I i)))]) (rest := []) (s_wayAt h hj0 ((iTurn (I i)))) gm_ml_S_174 cw_B_wayAt ⟨by decide, by decide⟩ rfl (h.b hj0) rfl rfl (Nat.le_of_ble_eq_true rfl) d_S_placeAhead_45 ⟨by decide, by decide⟩ (fun ru6 gu6 hu6 => ?_)
      obtain ⟨rfl, rfl⟩ := hu6
      refine go_goto X (tgt := 55) d_S_placeAhead_48 rfl ?_
      refine go_topl (fun x7 ex7 => ?_)
      refine go_lstore X (lv' := [(4, .long x7), (3, .ref (bA ad j0)), (0, .ref (iA ad i)), (1, .long t)]) d_S_placeAhead_55 (by decide) rfl ?_
      refine go_iconst X (v := 0) d_S_placeAhead_57 (by decide) ?_
      refine go_istore X (lv' := [(6, .int 0), (4, .long x7), (3, .ref (bA ad j0)), (0, .ref (iA ad i)), (1, .long t)]) d_S_placeAhead_58 (by decide) rfl ?_
      refine go_sub (lv' := [(6, .int (nI 0)), (4, .long x7), (3, .ref (bA ad j0)), (0, .ref (iA ad i)), (1, .long t)]) [0, 1, 2, 3, 4] rfl ?_
      exact loop 12 0 j0 x7 rfl hj0 (by unfold paF; rw [hb]; simp only; rw [if_neg c1, if_pos c4]; rw [ex7])
    · refine go_ldc2 X d_S_placeAhead_29 gm_k_S_201 ?_
      exact go_retL X hr hlk d_S_placeAhead_32 ⟨rfl, by unfold paF; rw [hb]; simp only; rw [if_neg c1, if_neg c4]⟩
theorem c_S_placeAhead {l : Launch} {D : va_G} {dA : Nat → ClassId} {g : Nat → Option va_E} (h : SRep dA ad g nb ni now B I n tk fr) {i : Nat} (hi : i < ni) (t : Int64) : CtL l D classes (tyL dA) y_S_placeAhead b_S_placeAhead 12 (some .long) rm_S_placeAhead [.ref (iA ad i), .long t] g (fun r g' => g = g' ∧ r = paF B (I i) t) := by
  cases hb : iBt (I i) with
  | none => exact c_S_placeAhead_n h hi hb t
  | some j => exact c_S_placeAhead_s h hi hb t
end S3
