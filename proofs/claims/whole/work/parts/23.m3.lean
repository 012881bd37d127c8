/-! The reference: look, pass. -/
def rtL (L : LA) (J : JA) (now : Int64) : Nat → LA
  | 0 => L
  | b + 1 => va_up (rtL L J now b) 10 (vp_updL (rtL L J now b 10) b (rateMF (rtL L J now b) J b now))
def plL (now : Int64) (L : LA) (J : JA) : Nat → LA
  | 0 => L
  | k + 1 => va_up (plL now L J k) 15 (vp_updL (plL now L J k 15) (k + 1) (if thereF now (plL now L J k) J (k + 1) = 0 then plL now L J k 15 (k + 1) else plL now L J k 15 (k + 1) + plL now L J k 10 (oN J (k + 1))))
noncomputable def ms1 (nb ni : Nat) (now : Int64) (s : MS) : MS := lkN (now + 1) ni ((goN (now + 1) (plL now (rtL s.1 s.2.1 now nb) s.2.1 ni) s.2.1 ni).1, (goN (now + 1) (plL now (rtL s.1 s.2.1 now nb) s.2.1 ni) s.2.1 ni).2, s.2.2) ni
noncomputable def msN (nb ni : Nat) : Nat → Int64 → MS → MS
  | 0, _, s => s
  | f + 1, now, s => msN nb ni f (now + 1) (ms1 nb ni now s)
theorem ms1_n (nb ni : Nat) (now : Int64) (s : MS) : (ms1 nb ni now s).2.2 ≤ s.2.2 + 2 * ni := (lkN_n (now + 1) ni _ ni).1
theorem ms1_wf {nb ni : Nat} {now : Int64} {s : MS} (h : MWf nb ni s.2.1) : MWf nb ni (ms1 nb ni now s).2.1 := by
  have hx := lkN_n (now + 1) ni ((goN (now + 1) (plL now (rtL s.1 s.2.1 now nb) s.2.1 ni) s.2.1 ni).1, (goN (now + 1) (plL now (rtL s.1 s.2.1 now nb) s.2.1 ni) s.2.1 ni).2, s.2.2) ni
  exact (goN_wf h ni (Nat.le_refl _)).congr hx.2.1 hx.2.2.1
theorem i64_succ {a b : Int64} (h : a.toInt < b.toInt) : (a + 1).toInt = a.toInt + 1 := by
  have h1 := Int64.toInt_lt b
  have h2 := Int64.le_toInt a
  rw [Int64.toInt_add, show (1 : Int64).toInt = 1 from rfl, Int.bmod_eq_of_le (by omega) (by omega)]
section M3
variable {ad : Nat → Nat} {th : Int32} {now : Int64} {nb ni ed : Nat} {kn : Int32} {L : LA} {J : JA}
set_option maxHeartbeats 4000000 in
set_option maxRecDepth 100000 in
theorem c_M_look {l : Launch} {D : va_G} {dA : Nat → ClassId} {g : Nat → Option va_E}  (h : MRep dA ad g th now nb ni ed kn L J) (hW : MWf nb ni J) (hed : ed + 200 < 2 ^ 31) : CtV l D classes (tyL dA) y_M_look b_M_look 4 none rm_M_look [.ref (ad 0)] g (fun g' => MRep dA ad g' th now nb ni (lkN now ni (L, J, ed) ni).2.2 kn (lkN now ni (L, J, ed) ni).1 (lkN now ni (L, J, ed) ni).2.1 ∧ MFr ad g g') := by
  refine CtV.of (by decide) (Nat.le_of_ble_eq_true rfl) ?_
  intro p e s m below meth c X hr hlk hnm
  have hnb := hW.1
  have hni := hW.2.1
  have loop : ∀ (f k : Nat) (g1 : Nat → Option va_E) (s1 : MS), k + f = ni → s1 = lkN now ni (L, J, ed) k → MRep dA ad g1 th now nb ni s1.2.2 kn s1.1 s1.2.1 → MFr ad g g1 → Go p l e rm_M_look s m [.ref (ad 0)].toArray below meth c D classes (gA g s.heap.size) 4 (MQ below (va_Qv (fun g' => MRep dA ad g' th now nb ni (lkN now ni (L, J, ed) ni).2.2 kn (lkN now ni (L, J, ed) ni).1 (lkN now ni (L, J, ed) ni).2.1 ∧ MFr ad g g') (fun (g' : Nat → Option va_E) (t : State) => PW D classes (gA g s.heap.size) g' t.heap) (gA g s.heap.size)) [.ref (ad 0)].toArray s 0 0 (gA g s.heap.size)) g1 0 0 2 [(1, .int ((nI (k + 1)))), (0, .ref (ad 0))] [] := by
    intro f
    induction f with
    | zero =>
      intro k g1 s1 hk hs h1 hF
      have hkn : k = ni := by omega
      subst hkn
      refine go_iload_n X (z := 0) d_M_look_2 rfl rfl ?_
      refine go_aload_n X (z := 1) d_M_look_3 rfl rfl ?_
      refine go_get X u_M rfl 11 (by decide) gm_fl_M_76 rfl d_M_look_4 h1.this rfl ?_
      refine go_icmp_gt X (tgt := 134) d_M_look_7 rfl (fun c1 => ?_) (fun c1 => absurd (nI_lt (by omega) (by omega)) c1)
      exact go_retV X hr hlk d_M_look_134 ⟨hs ▸ h1, hF⟩
    | succ f ih =>
      intro k g1 s1 hkf hs h1 hF
      have hx := lkN_n now ni (L, J, ed) k
      rw [← hs] at hx
      obtain ⟨hxn, hx14, hx5, hx3⟩ := hx
      simp only at hxn hx14 hx5 hx3
      have hW1 : MWf nb ni s1.2.1 := hW.congr hx14 hx5
      obtain ⟨j, hj, ho⟩ := hW1.2.2.1 (k + 1) (by omega) (by omega)
      have hoN : oN s1.2.1 (k + 1) = j := by unfold oN; rw [ho]; exact nI_clamp (by omega)
      have back : ∀ (g3 : Nat → Option va_E) (s3 : MS), s3 = lk1 now ni (k + 1) s1 → MRep dA ad g3 th now nb ni s3.2.2 kn s3.1 s3.2.1 → MFr ad g g3 → Go p l e rm_M_look s m [.ref (ad 0)].toArray below meth c D classes (gA g s.heap.size) 4 (MQ below (va_Qv (fun g' => MRep dA ad g' th now nb ni (lkN now ni (L, J, ed) ni).2.2 kn (lkN now ni (L, J, ed) ni).1 (lkN now ni (L, J, ed) ni).2.1 ∧ MFr ad g g') (fun (g' : Nat → Option va_E) (t : State) => PW D classes (gA g s.heap.size) g' t.heap) (gA g s.heap.size)) [.ref (ad 0)].toArray s 0 0 (gA g s.heap.size)) g3 0 0 128 [(1, .int ((nI (k + 1)))), (0, .ref (ad 0))] [] := by
        intro g3 s3 e3 h3 hF3
        refine go_iinc X (j := 0) (v := nI (k + 1 + 1)) d_M_look_128 rfl (nI_1 (k + 1)) (by decide) rfl ?_
        refine go_goto X (tgt := 2) d_M_look_131 rfl ?_
        exact ih (k + 1) g3 s3 (by omega) (by rw [e3, hs]; rfl) h3 hF3
      have tailB : ∀ (g2 : Nat → Option va_E) (s2 : MS) (sn : Int64), sn = s1.1 3 j / 2 → s2 = lkA now ni (k + 1) s1 → ¬ thereF now s1.1 s1.2.1 (k + 1) = 0 → s2.2.2 + 1 < 2 ^ 31 → MRep dA ad g2 th now nb ni s2.2.2 kn s2.1 s2.2.1 → MFr ad g g2 → Go p l e rm_M_look s m [.ref (ad 0)].toArray below meth c D classes (gA g s.heap.size) 4 (MQ below (va_Qv (fun g' => MRep dA ad g' th now nb ni (lkN now ni (L, J, ed) ni).2.2 kn (lkN now ni (L, J, ed) ni).1 (lkN now ni (L, J, ed) ni).2.1 ∧ MFr ad g g') (fun (g' : Nat → Option va_E) (t : State) => PW D classes (gA g s.heap.size) g' t.heap) (gA g s.heap.size)) [.ref (ad 0)].toArray s 0 0 (gA g s.heap.size)) g2 0 0 79 [(2, .long sn), (1, .int ((nI (k + 1)))), (0, .ref (ad 0))] [] := by
        intro g2 s2 sn esn e2 hth hed2 h2 hF2
        refine go_aload_n X (z := 2) d_M_look_79 rfl rfl ?_
        refine go_get X u_M rfl 17 (by decide) gm_fl_M_51 rfl d_M_look_80 h2.this rfl ?_
        refine go_iload_n X (z := 1) d_M_look_83 rfl rfl ?_
        refine go_zald X 2 rfl d_M_look_84 h2.a17 (vp_in_nI (by omega) (by decide)) ?_
        rw [nI_clamp (show (k + 1) < 2 ^ 31 by omega)]
        refine go_if_eq X (tgt := 128) d_M_look_85 rfl (fun c1 => ?_) (fun c1 => ?_)
        · refine go_sub (lv' := [(1, .int (nI (k + 1))), (0, .ref (ad 0))]) [1, 2] rfl ?_
          exact back g2 s2 (by unfold lk1; rw [if_neg hth, hoN, ← esn, ← e2]; unfold lkB; rw [if_pos c1]) h2 hF2
        · refine go_aload_n X (z := 2) d_M_look_88 rfl rfl ?_
          refine go_get X u_M rfl 18 (by decide) gm_fl_M_54 rfl d_M_look_89 h2.this rfl ?_
          refine go_iload_n X (z := 1) d_M_look_92 rfl rfl ?_
          refine go_zald X 2 rfl d_M_look_93 h2.a18 (vp_in_nI (by omega) (by decide)) ?_
          rw [nI_clamp (show (k + 1) < 2 ^ 31 by omega)]
          refine go_if_ne X (tgt := 128) d_M_look_94 rfl (fun c2 => ?_) (fun c2 => ?_)
          · refine go_sub (lv' := [(1, .int (nI (k + 1))), (0, .ref (ad 0))]) [1, 2] rfl ?_
            exact back g2 s2 (by unfold lk1; rw [if_neg hth, hoN, ← esn, ← e2]; unfold lkB; rw [if_neg c1, if_neg c2]) h2 hF2
          · refine go_aload_n X (z := 2) d_M_look_97 rfl rfl ?_
            refine go_get X u_M rfl 15 (by decide) gm_fl_M_45 rfl d_M_look_98 h2.this rfl ?_
            refine go_iload_n X (z := 1) d_M_look_101 rfl rfl ?_
            refine go_lald X 1 rfl d_M_look_102 h2.a15 (vp_in_nI (by omega) (by decide)) ?_
            rw [nI_clamp (show (k + 1) < 2 ^ 31 by omega)]
            refine go_aload_n X (z := 2) d_M_look_103 rfl rfl ?_
            refine go_get X u_M rfl 12 (by decide) gm_fl_M_36 rfl d_M_look_104 h2.this rfl ?_
            refine go_iload_n X (z := 1) d_M_look_107 rfl rfl ?_
            refine go_lald X 1 rfl d_M_look_108 h2.a12 (vp_in_nI (by omega) (by decide)) ?_
            rw [nI_clamp (show (k + 1) < 2 ^ 31 by omega)]
            refine go_lsub X d_M_look_109 ?_
            refine go_lload_n X (z := 0) d_M_look_110 rfl rfl ?_
            refine go_lif_lt X (tgt := 128) d_M_look_111 d_M_look_112 rfl (fun c3 => ?_) (fun c3 => ?_)
            · refine go_sub (lv' := [(1, .int (nI (k + 1))), (0, .ref (ad 0))]) [1, 2] rfl ?_
              exact back g2 s2 (by unfold lk1; rw [if_neg hth, hoN, ← esn, ← e2]; unfold lkB; rw [if_neg c1, if_pos c2, if_pos c3]) h2 hF2
            · refine go_aload_n X (z := 2) d_M_look_115 rfl rfl ?_
              refine go_iload_n X (z := 1) d_M_look_116 rfl rfl ?_
              refine go_iconst X (v := 1) d_M_look_117 (by decide) ?_
              refine go_callV_V X (As := [.int ((nI (k + 1))), .int 1]) (rest := []) (c_M_tell h2 (by omega) hed2 1) gm_ml_M_124 cw_M_tell ⟨by decide, by decide⟩ rfl h2.this rfl rfl (Nat.le_of_ble_eq_true rfl) d_M_look_118 ⟨by decide, by decide⟩ (fun gz hz => ?_)
              obtain ⟨hz, hzF⟩ := hz
              refine go_aload_n X (z := 2) d_M_look_121 rfl rfl ?_
              refine go_get X u_M rfl 18 (by decide) gm_fl_M_54 rfl d_M_look_122 hz.this rfl ?_
              refine go_iload_n X (z := 1) d_M_look_125 rfl rfl ?_
              refine go_iconst X (v := 1) d_M_look_126 (by decide) ?_
              refine go_zast X 2 rfl d_M_look_127 hz.a18 (vp_in_nI (by omega) (by decide)) ?_
              refine go_gen (fun g4 eg4 => ?_)
              have eg4 : g4 = va_up gz (ad 18) (some (.inl (dA 2, 61, .inl (upd ((tlJ s2.2.1 s2.2.2 (k + 1) 1 18)) (k + 1) 1)))) := by rw [eg4, nI_clamp (show k + 1 < 2 ^ 31 by omega), show vp_nar .boolean (1 : Int32) = 1 from rfl]
              have h5 : g4 (ad 0) = some (.inr (4, [.int th, .long now, .int ((nI nb)), .ref (ad 3), .ref (ad 4), .ref (ad 5), .ref (ad 6), .ref (ad 7), .ref (ad 8), .ref (ad 9), .ref (ad 10), .int ((nI ni)), .ref (ad 12), .ref (ad 13), .ref (ad 14), .ref (ad 15), .ref (ad 16), .ref (ad 17), .ref (ad 18), .int ((nI (s2.2.2 + 1))), .int kn, .ref (ad 21), .ref (ad 22), .ref (ad 23), .ref (ad 24)])) := by rw [eg4, va_up_ne _ _ (hz.ne 0 18)]; exact hz.this
              have h6 : g4 (ad 18) = some (.inl (dA 2, 61, .inl (upd ((tlJ s2.2.1 s2.2.2 (k + 1) 1 18)) (k + 1) 1))) := by rw [eg4]; exact va_up_self _ _ _
              refine go_sub (lv' := [(1, .int (nI (k + 1))), (0, .ref (ad 0))]) [1, 2] rfl ?_
              have hM : MRep dA ad g4 th now nb ni (s2.2.2 + 1) kn (tlL s2.1 s2.2.2 now) (va_up (tlJ s2.2.1 s2.2.2 (k + 1) 1) 18 (upd (s2.2.1 18) (k + 1) 1)) := by
                rw [eg4, tlJ_k 18]
                exact hz.setZ 18 _
              exact back g4 (tlL s2.1 s2.2.2 now, va_up (tlJ s2.2.1 s2.2.2 (k + 1) 1) 18 (upd (s2.2.1 18) (k + 1) 1), s2.2.2 + 1) (by unfold lk1; rw [if_neg hth, hoN, ← esn, ← e2]; unfold lkB; rw [if_neg c1, if_pos c2, if_neg c3]) hM (hF2.trans (hzF.trans (by rw [eg4]; exact MFr.up rfl)))
      refine go_iload_n X (z := 0) d_M_look_2 rfl rfl ?_
      refine go_aload_n X (z := 1) d_M_look_3 rfl rfl ?_
      refine go_get X u_M rfl 11 (by decide) gm_fl_M_76 rfl d_M_look_4 h1.this rfl ?_
      refine go_icmp_gt X (tgt := 134) d_M_look_7 rfl (fun c1 => absurd c1 (nI_nlt (a := ni) (b := k + 1) (by omega) (by omega))) (fun c1 => ?_)
      refine go_aload_n X (z := 1) d_M_look_10 rfl rfl ?_
      refine go_iload_n X (z := 0) d_M_look_11 rfl rfl ?_
      refine go_callI_V X (As := [.int ((nI (k + 1)))]) (rest := []) (c_M_isThere h1 (by omega)) gm_ml_M_111 cw_M_isThere ⟨by decide, by decide⟩ rfl h1.this rfl rfl (Nat.le_of_ble_eq_true rfl) d_M_look_12 ⟨by decide, by decide⟩ (fun ru2 gu2 hu2 => ?_)
      obtain ⟨rfl, rfl⟩ := hu2
      refine go_if_eq X (tgt := 128) d_M_look_15 rfl (fun c3 => ?_) (fun c3 => ?_)
      · exact back g1 s1 (by unfold lk1; rw [if_pos c3]) h1 hF
      · refine go_aload_n X (z := 1) d_M_look_18 rfl rfl ?_
        refine go_get X u_M rfl 3 (by decide) gm_fl_M_7 rfl d_M_look_19 h1.this rfl ?_
        refine go_aload_n X (z := 1) d_M_look_22 rfl rfl ?_
        refine go_get X u_M rfl 14 (by decide) gm_fl_M_42 rfl d_M_look_23 h1.this rfl ?_
        refine go_iload_n X (z := 0) d_M_look_26 rfl rfl ?_
        refine go_iald X 0 rfl d_M_look_27 h1.a14 (vp_in_nI (by omega) (by decide)) ?_
        rw [nI_clamp (show (k + 1) < 2 ^ 31 by omega)]
        rw [ho]
        refine go_lald X 1 rfl d_M_look_28 h1.a3 (vp_in_nI (by omega) (by decide)) ?_
        rw [nI_clamp (show j < 2 ^ 31 by omega)]
        refine go_ldc2 X d_M_look_29 gm_k_M_119 ?_
        refine go_ldiv X d_M_look_32 (by decide) ?_
        refine go_topl (fun x4 ex4 => ?_)
        refine go_lstore_n X (lv' := [(2, .long x4), (1, .int ((nI (k + 1)))), (0, .ref (ad 0))]) d_M_look_33 rfl (by decide) rfl ?_
        refine go_aload_n X (z := 2) d_M_look_34 rfl rfl ?_
        refine go_get X u_M rfl 17 (by decide) gm_fl_M_51 rfl d_M_look_35 h1.this rfl ?_
        refine go_iload_n X (z := 1) d_M_look_38 rfl rfl ?_
        refine go_zald X 2 rfl d_M_look_39 h1.a17 (vp_in_nI (by omega) (by decide)) ?_
        rw [nI_clamp (show (k + 1) < 2 ^ 31 by omega)]
        refine go_if_ne X (tgt := 79) d_M_look_40 rfl (fun c5 => ?_) (fun c5 => ?_)
        · exact tailB g1 s1 x4 ex4 (by unfold lkA; rw [if_neg c5]) c3 (by omega) h1 hF
        · refine go_aload_n X (z := 2) d_M_look_43 rfl rfl ?_
          refine go_get X u_M rfl 15 (by decide) gm_fl_M_45 rfl d_M_look_44 h1.this rfl ?_
          refine go_iload_n X (z := 1) d_M_look_47 rfl rfl ?_
          refine go_lald X 1 rfl d_M_look_48 h1.a15 (vp_in_nI (by omega) (by decide)) ?_
          rw [nI_clamp (show (k + 1) < 2 ^ 31 by omega)]
          refine go_lload_n X (z := 0) d_M_look_49 rfl rfl ?_
          refine go_lif_lt X (tgt := 79) d_M_look_50 d_M_look_51 rfl (fun c6 => ?_) (fun c6 => ?_)
          · exact tailB g1 s1 x4 ex4 (by unfold lkA; rw [if_pos c5, hoN, ← ex4, if_pos c6]) c3 (by omega) h1 hF
          · refine go_aload_n X (z := 2) d_M_look_54 rfl rfl ?_
            refine go_iload_n X (z := 1) d_M_look_55 rfl rfl ?_
            refine go_aload_n X (z := 2) d_M_look_56 rfl rfl ?_
            refine go_iload_n X (z := 1) d_M_look_57 rfl rfl ?_
            refine go_callI_V X (As := [.int ((nI (k + 1)))]) (rest := [.int ((nI (k + 1))), .ref (ad 0)]) (c_M_isShort h1 hni (i := k + 1) (by omega)) gm_ml_M_121 cw_M_isShort ⟨by decide, by decide⟩ rfl h1.this rfl rfl (Nat.le_of_ble_eq_true rfl) d_M_look_58 ⟨by decide, by decide⟩ (fun ru7 gu7 hu7 => ?_)
            obtain ⟨rfl, rfl⟩ := hu7
            refine go_if_eq X (tgt := 68) d_M_look_61 rfl (fun c8 => ?_) (fun c8 => ?_)
            · refine go_iconst X (v := 0) d_M_look_68 (by decide) ?_
              refine go_callV_V X (As := [.int ((nI (k + 1))), .int 0]) (rest := []) (c_M_tell h1 (by omega) (by omega) 0) gm_ml_M_124 cw_M_tell ⟨by decide, by decide⟩ rfl h1.this rfl rfl (Nat.le_of_ble_eq_true rfl) d_M_look_69 ⟨by decide, by decide⟩ (fun gz hz => ?_)
              obtain ⟨hz, hzF⟩ := hz
              refine go_aload_n X (z := 2) d_M_look_72 rfl rfl ?_
              refine go_get X u_M rfl 17 (by decide) gm_fl_M_51 rfl d_M_look_73 hz.this rfl ?_
              refine go_iload_n X (z := 1) d_M_look_76 rfl rfl ?_
              refine go_iconst X (v := 1) d_M_look_77 (by decide) ?_
              refine go_zast X 2 rfl d_M_look_78 hz.a17 (vp_in_nI (by omega) (by decide)) ?_
              refine go_gen (fun g9 eg9 => ?_)
              have eg9 : g9 = va_up gz (ad 17) (some (.inl (dA 2, 61, .inl (upd ((tlJ s1.2.1 s1.2.2 (k + 1) 0 17)) (k + 1) 1)))) := by rw [eg9, nI_clamp (show k + 1 < 2 ^ 31 by omega), show vp_nar .boolean (1 : Int32) = 1 from rfl]
              have h10 : g9 (ad 0) = some (.inr (4, [.int th, .long now, .int ((nI nb)), .ref (ad 3), .ref (ad 4), .ref (ad 5), .ref (ad 6), .ref (ad 7), .ref (ad 8), .ref (ad 9), .ref (ad 10), .int ((nI ni)), .ref (ad 12), .ref (ad 13), .ref (ad 14), .ref (ad 15), .ref (ad 16), .ref (ad 17), .ref (ad 18), .int ((nI (s1.2.2 + 1))), .int kn, .ref (ad 21), .ref (ad 22), .ref (ad 23), .ref (ad 24)])) := by rw [eg9, va_up_ne _ _ (hz.ne 0 17)]; exact hz.this
              have h11 : g9 (ad 17) = some (.inl (dA 2, 61, .inl (upd ((tlJ s1.2.1 s1.2.2 (k + 1) 0 17)) (k + 1) 1))) := by rw [eg9]; exact va_up_self _ _ _
              have hM : MRep dA ad g9 th now nb ni (s1.2.2 + 1) kn (tlL s1.1 s1.2.2 now) (va_up (tlJ s1.2.1 s1.2.2 (k + 1) 0) 17 (upd (s1.2.1 17) (k + 1) 1)) := by
                rw [eg9, tlJ_k 17]
                exact hz.setZ 17 _
              exact tailB g9 (tlL s1.1 s1.2.2 now, va_up (tlJ s1.2.1 s1.2.2 (k + 1) 0) 17 (upd (s1.2.1 17) (k + 1) 1), s1.2.2 + 1) x4 ex4 (by unfold lkA; rw [if_pos c5, hoN, ← ex4, if_neg c6, if_pos c8]) c3 (by show s1.2.2 + 1 + 1 < _; omega) hM (hF.trans (hzF.trans (by rw [eg9]; exact MFr.up rfl)))
            · refine go_iconst X (v := 2) d_M_look_64 (by decide) ?_
              refine go_goto X (tgt := 69) d_M_look_65 rfl ?_
              refine go_callV_V X (As := [.int ((nI (k + 1))), .int 2]) (rest := []) (c_M_tell h1 (by omega) (by omega) 2) gm_ml_M_124 cw_M_tell ⟨by decide, by decide⟩ rfl h1.this rfl rfl (Nat.le_of_ble_eq_true rfl) d_M_look_69 ⟨by decide, by decide⟩ (fun gz hz => ?_)
              obtain ⟨hz, hzF⟩ := hz
              refine go_aload_n X (z := 2) d_M_look_72 rfl rfl ?_
              refine go_get X u_M rfl 17 (by decide) gm_fl_M_51 rfl d_M_look_73 hz.this rfl ?_
              refine go_iload_n X (z := 1) d_M_look_76 rfl rfl ?_
              refine go_iconst X (v := 1) d_M_look_77 (by decide) ?_
              refine go_zast X 2 rfl d_M_look_78 hz.a17 (vp_in_nI (by omega) (by decide)) ?_
              refine go_gen (fun g12 eg12 => ?_)
              have eg12 : g12 = va_up gz (ad 17) (some (.inl (dA 2, 61, .inl (upd ((tlJ s1.2.1 s1.2.2 (k + 1) 2 17)) (k + 1) 1)))) := by rw [eg12, nI_clamp (show k + 1 < 2 ^ 31 by omega), show vp_nar .boolean (1 : Int32) = 1 from rfl]
              have h13 : g12 (ad 0) = some (.inr (4, [.int th, .long now, .int ((nI nb)), .ref (ad 3), .ref (ad 4), .ref (ad 5), .ref (ad 6), .ref (ad 7), .ref (ad 8), .ref (ad 9), .ref (ad 10), .int ((nI ni)), .ref (ad 12), .ref (ad 13), .ref (ad 14), .ref (ad 15), .ref (ad 16), .ref (ad 17), .ref (ad 18), .int ((nI (s1.2.2 + 1))), .int kn, .ref (ad 21), .ref (ad 22), .ref (ad 23), .ref (ad 24)])) := by rw [eg12, va_up_ne _ _ (hz.ne 0 17)]; exact hz.this
              have h14 : g12 (ad 17) = some (.inl (dA 2, 61, .inl (upd ((tlJ s1.2.1 s1.2.2 (k + 1) 2 17)) (k + 1) 1))) := by rw [eg12]; exact va_up_self _ _ _
              have hM : MRep dA ad g12 th now nb ni (s1.2.2 + 1) kn (tlL s1.1 s1.2.2 now) (va_up (tlJ s1.2.1 s1.2.2 (k + 1) 2) 17 (upd (s1.2.1 17) (k + 1) 1)) := by
                rw [eg12, tlJ_k 17]
                exact hz.setZ 17 _
              exact tailB g12 (tlL s1.1 s1.2.2 now, va_up (tlJ s1.2.1 s1.2.2 (k + 1) 2) 17 (upd (s1.2.1 17) (k + 1) 1), s1.2.2 + 1) x4 ex4 (by unfold lkA; rw [if_pos c5, hoN, ← ex4, if_neg c6, if_neg c8]) c3 (by show s1.2.2 + 1 + 1 < _; omega) hM (hF.trans (hzF.trans (by rw [eg12]; exact MFr.up rfl)))
  refine go_iconst X (v := 1) d_M_look_0 (by decide) ?_
  refine go_istore_n X (lv' := [(1, .int (nI (0 + 1))), (0, .ref (ad 0))]) d_M_look_1 rfl (by decide) rfl ?_
  exact loop ni 0 g (L, J, ed) (Nat.zero_add _) rfl h MFr.rfl'
set_option maxHeartbeats 4000000 in
set_option maxRecDepth 100000 in
theorem c_M_pass {l : Launch} {D : va_G} {dA : Nat → ClassId} {g : Nat → Option va_E}  (h : MRep dA ad g th now nb ni ed kn L J) (hW : MWf nb ni J) (t : Int64) (hnt : now ≤ t) (hed : ed + 120 * (t.toInt - now.toInt).toNat ≤ 2000000000) : CtV l D classes (tyL dA) y_M_pass b_M_pass 4 none rm_M_pass [.ref (ad 0), .long t] g (fun g' => MRep dA ad g' th t nb ni (msN nb ni (t.toInt - now.toInt).toNat now (L, J, ed)).2.2 kn (msN nb ni (t.toInt - now.toInt).toNat now (L, J, ed)).1 (msN nb ni (t.toInt - now.toInt).toNat now (L, J, ed)).2.1 ∧ MFr ad g g') := by
  refine CtV.of (by decide) (Nat.le_of_ble_eq_true rfl) ?_
  intro p e s m below meth c X hr hlk hnm
  have hnb := hW.1
  have hni := hW.2.1
  have loop : ∀ (f : Nat) (now1 : Int64) (g1 : Nat → Option va_E) (s1 : MS), (t.toInt - now1.toInt).toNat = f → now1 ≤ t → msN nb ni f now1 s1 = (msN nb ni (t.toInt - now.toInt).toNat now (L, J, ed)) → s1.2.2 + 120 * f ≤ 2000000000 → MRep dA ad g1 th now1 nb ni s1.2.2 kn s1.1 s1.2.1 → MWf nb ni s1.2.1 → MFr ad g g1 → Go p l e rm_M_pass s m [.ref (ad 0), .long t].toArray below meth c D classes (gA g s.heap.size) 4 (MQ below (va_Qv (fun g' => MRep dA ad g' th t nb ni (msN nb ni (t.toInt - now.toInt).toNat now (L, J, ed)).2.2 kn (msN nb ni (t.toInt - now.toInt).toNat now (L, J, ed)).1 (msN nb ni (t.toInt - now.toInt).toNat now (L, J, ed)).2.1 ∧ MFr ad g g') (fun (g' : Nat → Option va_E) (t : State) => PW D classes (gA g s.heap.size) g' t.heap) (gA g s.heap.size)) [.ref (ad 0), .long t].toArray s 0 0 (gA g s.heap.size)) g1 0 0 0 [(0, .ref (ad 0)), (1, .long t)] [] := by
    intro f
    induction f with
    | zero =>
      intro now1 g1 s1 hf hle hs hn1 h1 hW1 hF
      have hle2 : t ≤ now1 := Int64.le_iff_toInt_le.mpr (by omega)
      have hen : now1 = t := Int64.toInt_inj.mp (Int.le_antisymm (Int64.le_iff_toInt_le.mp hle) (Int64.le_iff_toInt_le.mp hle2))
      subst hen
      refine go_aload_n X (z := 0) d_M_pass_0 rfl rfl ?_
      refine go_get X u_M rfl 1 (by decide) gm_fl_M_79 rfl d_M_pass_1 h1.this rfl ?_
      refine go_lload_n X (z := 1) d_M_pass_4 rfl rfl ?_
      refine go_lif_ge X (tgt := 118) d_M_pass_5 d_M_pass_6 rfl (fun _ => ?_) (fun c => absurd hle2 c)
      exact go_retV X hr hlk d_M_pass_118 ⟨by rw [← hs]; exact h1, hF⟩
    | succ f ih =>
      intro now1 g1 s1 hf hle hs hn1 h1 hW1 hF
      have hlt : now1.toInt < t.toInt := by omega
      have hlt2 : ¬ t ≤ now1 := fun q => by have := Int64.le_iff_toInt_le.mp q; omega
      have part3 : ∀ (g2 : Nat → Option va_E) (v3 : Int32), MRep dA ad g2 th now1 nb ni s1.2.2 kn (plL now1 (rtL s1.1 s1.2.1 now1 nb) s1.2.1 ni) s1.2.1 → MFr ad g g2 → Go p l e rm_M_pass s m [.ref (ad 0), .long t].toArray below meth c D classes (gA g s.heap.size) 4 (MQ below (va_Qv (fun g' => MRep dA ad g' th t nb ni (msN nb ni (t.toInt - now.toInt).toNat now (L, J, ed)).2.2 kn (msN nb ni (t.toInt - now.toInt).toNat now (L, J, ed)).1 (msN nb ni (t.toInt - now.toInt).toNat now (L, J, ed)).2.1 ∧ MFr ad g g') (fun (g' : Nat → Option va_E) (t : State) => PW D classes (gA g s.heap.size) g' t.heap) (gA g s.heap.size)) [.ref (ad 0), .long t].toArray s 0 0 (gA g s.heap.size)) g2 0 0 97 [(3, .int v3), (0, .ref (ad 0)), (1, .long t)] [] := by
        intro g2 v3 h2 hF2
        refine go_aload_n X (z := 1) d_M_pass_97 rfl rfl ?_
        refine go_dup X d_M_pass_98 rfl ?_
        refine go_get X u_M rfl 1 (by decide) gm_fl_M_79 rfl d_M_pass_99 h2.this rfl ?_
        refine go_lconst X (v := 1) d_M_pass_102 (by decide) ?_
        refine go_ladd X d_M_pass_103 ?_
        refine go_topl (fun x1 ex1 => ?_)
        refine go_put X u_M rfl 1 (by decide) gm_fl_M_79 rfl t_M t_M_ok n_M rfl rfl rfl d_M_pass_104 h2.this (Nat.le_of_ble_eq_true rfl) ?_
        refine go_gen (fun g3 e3 => ?_)
        have h3 : MRep dA ad g3 th (now1 + 1) nb ni s1.2.2 kn (plL now1 (rtL s1.1 s1.2.1 now1 nb) s1.2.1 ni) s1.2.1 := by subst ex1; rw [e3]; exact h2.set0
        have hF3 : MFr ad g2 g3 := by rw [e3]; exact MFr.up rfl
        refine go_aload_n X (z := 1) d_M_pass_107 rfl rfl ?_
        refine go_callV_V X (As := []) (rest := []) (c_M_goOver h3 hW1) gm_ml_M_132 cw_M_goOver ⟨by decide, by decide⟩ rfl h3.this rfl rfl (Nat.le_of_ble_eq_true rfl) d_M_pass_108 ⟨by decide, by decide⟩ (fun g4 h4 => ?_)
        obtain ⟨h4, hF4⟩ := h4
        refine go_aload_n X (z := 1) d_M_pass_111 rfl rfl ?_
        refine go_callV_V X (As := []) (rest := []) (c_M_look h4 (goN_wf hW1 ni (Nat.le_refl _)) (by omega)) gm_ml_M_135 cw_M_look ⟨by decide, by decide⟩ rfl h4.this rfl rfl (Nat.le_of_ble_eq_true rfl) d_M_pass_112 ⟨by decide, by decide⟩ (fun g5 h5 => ?_)
        obtain ⟨h5, hF5⟩ := h5
        refine go_goto X (tgt := 0) d_M_pass_115 rfl ?_
        refine go_sub (lv' := [(0, .ref (ad 0)), (1, .long t)]) [1, 2] rfl ?_
        have hns := i64_succ hlt
        have hmn := ms1_n nb ni now1 s1
        exact ih (now1 + 1) g5 (ms1 nb ni now1 s1) (by omega) (Int64.le_iff_toInt_le.mpr (by omega)) (by rw [← hs]; rfl) (by omega) h5 (ms1_wf hW1) (hF2.trans (hF3.trans (hF4.trans hF5)))
      have part2 : ∀ (q k : Nat) (g2 : Nat → Option va_E) (L2 : LA), k + q = ni → L2 = plL now1 (rtL s1.1 s1.2.1 now1 nb) s1.2.1 k → MRep dA ad g2 th now1 nb ni s1.2.2 kn L2 s1.2.1 → MFr ad g g2 → Go p l e rm_M_pass s m [.ref (ad 0), .long t].toArray below meth c D classes (gA g s.heap.size) 4 (MQ below (va_Qv (fun g' => MRep dA ad g' th t nb ni (msN nb ni (t.toInt - now.toInt).toNat now (L, J, ed)).2.2 kn (msN nb ni (t.toInt - now.toInt).toNat now (L, J, ed)).1 (msN nb ni (t.toInt - now.toInt).toNat now (L, J, ed)).2.1 ∧ MFr ad g g') (fun (g' : Nat → Option va_E) (t : State) => PW D classes (gA g s.heap.size) g' t.heap) (gA g s.heap.size)) [.ref (ad 0), .long t].toArray s 0 0 (gA g s.heap.size)) g2 0 0 42 [(3, .int ((nI (k + 1)))), (0, .ref (ad 0)), (1, .long t)] [] := by
        intro q
        induction q with
        | zero =>
          intro k g2 L2 hk e2 h2 hF2
          have hkn : k = ni := by omega
          subst hkn
          rw [e2] at h2
          refine go_iload_n X (z := 0) d_M_pass_42 rfl rfl ?_
          refine go_aload_n X (z := 1) d_M_pass_43 rfl rfl ?_
          refine go_get X u_M rfl 11 (by decide) gm_fl_M_76 rfl d_M_pass_44 h2.this rfl ?_
          refine go_icmp_gt X (tgt := 97) d_M_pass_47 rfl (fun c1 => ?_) (fun c1 => absurd (nI_lt (by omega) (by omega)) c1)
          exact part3 g2 _ h2 hF2
        | succ q ihq =>
          intro k g2 L2 hkq e2 h2 hF2
          obtain ⟨j, hj, ho⟩ := hW1.2.2.1 (k + 1) (by omega) (by omega)
          have hoN : oN s1.2.1 (k + 1) = j := by unfold oN; rw [ho]; exact nI_clamp (by omega)
          refine go_iload_n X (z := 0) d_M_pass_42 rfl rfl ?_
          refine go_aload_n X (z := 1) d_M_pass_43 rfl rfl ?_
          refine go_get X u_M rfl 11 (by decide) gm_fl_M_76 rfl d_M_pass_44 h2.this rfl ?_
          refine go_icmp_gt X (tgt := 97) d_M_pass_47 rfl (fun c1 => absurd c1 (nI_nlt (a := ni) (b := k + 1) (by omega) (by omega))) (fun c1 => ?_)
          refine go_aload_n X (z := 1) d_M_pass_50 rfl rfl ?_
          refine go_get X u_M rfl 15 (by decide) gm_fl_M_45 rfl d_M_pass_51 h2.this rfl ?_
          refine go_iload_n X (z := 0) d_M_pass_54 rfl rfl ?_
          refine go_aload_n X (z := 1) d_M_pass_55 rfl rfl ?_
          refine go_iload_n X (z := 0) d_M_pass_56 rfl rfl ?_
          refine go_callI_V X (As := [.int ((nI (k + 1)))]) (rest := [.int ((nI (k + 1))), .ref (ad 15)]) (c_M_isThere h2 (by omega)) gm_ml_M_111 cw_M_isThere ⟨by decide, by decide⟩ rfl h2.this rfl rfl (Nat.le_of_ble_eq_true rfl) d_M_pass_57 ⟨by decide, by decide⟩ (fun ru2 gu2 hu2 => ?_)
          obtain ⟨rfl, rfl⟩ := hu2
          refine go_if_eq X (tgt := 84) d_M_pass_60 rfl (fun c3 => ?_) (fun c3 => ?_)
          · refine go_aload_n X (z := 1) d_M_pass_84 rfl rfl ?_
            refine go_get X u_M rfl 15 (by decide) gm_fl_M_45 rfl d_M_pass_85 h2.this rfl ?_
            refine go_iload_n X (z := 0) d_M_pass_88 rfl rfl ?_
            refine go_lald X 1 rfl d_M_pass_89 h2.a15 (vp_in_nI (by omega) (by decide)) ?_
            rw [nI_clamp (show (k + 1) < 2 ^ 31 by omega)]
            refine go_topl (fun x4 ex4 => ?_)
            refine go_last X 1 rfl d_M_pass_90 h2.a15 (vp_in_nI (by omega) (by decide)) ?_
            refine go_gen (fun g5 eg5 => ?_)
            have eg5 : g5 = va_up g2 (ad 15) (some (.inl (dA 1, 61, .inr (.inl (vp_updL ((L2 15)) (k + 1) x4))))) := by rw [eg5, nI_clamp (show k + 1 < 2 ^ 31 by omega)]
            have h6 : g5 (ad 0) = some (.inr (4, [.int th, .long now1, .int ((nI nb)), .ref (ad 3), .ref (ad 4), .ref (ad 5), .ref (ad 6), .ref (ad 7), .ref (ad 8), .ref (ad 9), .ref (ad 10), .int ((nI ni)), .ref (ad 12), .ref (ad 13), .ref (ad 14), .ref (ad 15), .ref (ad 16), .ref (ad 17), .ref (ad 18), .int ((nI s1.2.2)), .int kn, .ref (ad 21), .ref (ad 22), .ref (ad 23), .ref (ad 24)])) := by rw [eg5, va_up_ne _ _ (h2.ne 0 15)]; exact h2.this
            have h7 : g5 (ad 10) = some (.inl (dA 1, 12, .inr (.inl ((L2 10))))) := by rw [eg5, va_up_ne _ _ (h2.ne 10 15)]; exact h2.a10
            have h8 : g5 (ad 14) = some (.inl (dA 0, 61, .inl ((s1.2.1 14)))) := by rw [eg5, va_up_ne _ _ (h2.ne 14 15)]; exact h2.a14
            have h9 : g5 (ad 15) = some (.inl (dA 1, 61, .inr (.inl (vp_updL ((L2 15)) (k + 1) x4)))) := by rw [eg5]; exact va_up_self _ _ _
            have hM : MRep dA ad g5 th now1 nb ni s1.2.2 kn (va_up L2 15 (vp_updL (L2 15) (k + 1) (if thereF now1 L2 s1.2.1 (k + 1) = 0 then L2 15 (k + 1) else L2 15 (k + 1) + L2 10 (oN s1.2.1 (k + 1))))) s1.2.1 := by
              subst ex4
              rw [if_pos c3, eg5]
              exact h2.setL 15 _
            refine go_iinc X (j := 0) (v := nI (k + 1 + 1)) d_M_pass_91 rfl (nI_1 (k + 1)) (by decide) rfl ?_
            refine go_goto X (tgt := 42) d_M_pass_94 rfl ?_
            exact ihq (k + 1) g5 _ (by omega) (by rw [e2]; rfl) hM (hF2.trans (by rw [eg5]; exact MFr.up rfl))
          · refine go_aload_n X (z := 1) d_M_pass_63 rfl rfl ?_
            refine go_get X u_M rfl 15 (by decide) gm_fl_M_45 rfl d_M_pass_64 h2.this rfl ?_
            refine go_iload_n X (z := 0) d_M_pass_67 rfl rfl ?_
            refine go_lald X 1 rfl d_M_pass_68 h2.a15 (vp_in_nI (by omega) (by decide)) ?_
            rw [nI_clamp (show (k + 1) < 2 ^ 31 by omega)]
            refine go_aload_n X (z := 1) d_M_pass_69 rfl rfl ?_
            refine go_get X u_M rfl 10 (by decide) gm_fl_M_33 rfl d_M_pass_70 h2.this rfl ?_
            refine go_aload_n X (z := 1) d_M_pass_73 rfl rfl ?_
            refine go_get X u_M rfl 14 (by decide) gm_fl_M_42 rfl d_M_pass_74 h2.this rfl ?_
            refine go_iload_n X (z := 0) d_M_pass_77 rfl rfl ?_
            refine go_iald X 0 rfl d_M_pass_78 h2.a14 (vp_in_nI (by omega) (by decide)) ?_
            rw [nI_clamp (show (k + 1) < 2 ^ 31 by omega)]
            rw [ho]
            refine go_lald X 1 rfl d_M_pass_79 h2.a10 (vp_in_nI (by omega) (by decide)) ?_
            rw [nI_clamp (show j < 2 ^ 31 by omega)]
            refine go_ladd X d_M_pass_80 ?_
            refine go_goto X (tgt := 90) d_M_pass_81 rfl ?_
            refine go_topl (fun x10 ex10 => ?_)
            refine go_last X 1 rfl d_M_pass_90 h2.a15 (vp_in_nI (by omega) (by decide)) ?_
            refine go_gen (fun g11 eg11 => ?_)
            have eg11 : g11 = va_up g2 (ad 15) (some (.inl (dA 1, 61, .inr (.inl (vp_updL ((L2 15)) (k + 1) x10))))) := by rw [eg11, nI_clamp (show k + 1 < 2 ^ 31 by omega)]
            have h12 : g11 (ad 0) = some (.inr (4, [.int th, .long now1, .int ((nI nb)), .ref (ad 3), .ref (ad 4), .ref (ad 5), .ref (ad 6), .ref (ad 7), .ref (ad 8), .ref (ad 9), .ref (ad 10), .int ((nI ni)), .ref (ad 12), .ref (ad 13), .ref (ad 14), .ref (ad 15), .ref (ad 16), .ref (ad 17), .ref (ad 18), .int ((nI s1.2.2)), .int kn, .ref (ad 21), .ref (ad 22), .ref (ad 23), .ref (ad 24)])) := by rw [eg11, va_up_ne _ _ (h2.ne 0 15)]; exact h2.this
            have h13 : g11 (ad 10) = some (.inl (dA 1, 12, .inr (.inl ((L2 10))))) := by rw [eg11, va_up_ne _ _ (h2.ne 10 15)]; exact h2.a10
            have h14 : g11 (ad 14) = some (.inl (dA 0, 61, .inl ((s1.2.1 14)))) := by rw [eg11, va_up_ne _ _ (h2.ne 14 15)]; exact h2.a14
            have h15 : g11 (ad 15) = some (.inl (dA 1, 61, .inr (.inl (vp_updL ((L2 15)) (k + 1) x10)))) := by rw [eg11]; exact va_up_self _ _ _
            have hM : MRep dA ad g11 th now1 nb ni s1.2.2 kn (va_up L2 15 (vp_updL (L2 15) (k + 1) (if thereF now1 L2 s1.2.1 (k + 1) = 0 then L2 15 (k + 1) else L2 15 (k + 1) + L2 10 (oN s1.2.1 (k + 1))))) s1.2.1 := by
              subst ex10
              rw [if_neg c3, hoN, eg11]
              exact h2.setL 15 _
            refine go_iinc X (j := 0) (v := nI (k + 1 + 1)) d_M_pass_91 rfl (nI_1 (k + 1)) (by decide) rfl ?_
            refine go_goto X (tgt := 42) d_M_pass_94 rfl ?_
            exact ihq (k + 1) g11 _ (by omega) (by rw [e2]; rfl) hM (hF2.trans (by rw [eg11]; exact MFr.up rfl))
      have part1 : ∀ (q k : Nat) (g2 : Nat → Option va_E) (L2 : LA), k + q = nb → L2 = rtL s1.1 s1.2.1 now1 k → MRep dA ad g2 th now1 nb ni s1.2.2 kn L2 s1.2.1 → MFr ad g g2 → Go p l e rm_M_pass s m [.ref (ad 0), .long t].toArray below meth c D classes (gA g s.heap.size) 4 (MQ below (va_Qv (fun g' => MRep dA ad g' th t nb ni (msN nb ni (t.toInt - now.toInt).toNat now (L, J, ed)).2.2 kn (msN nb ni (t.toInt - now.toInt).toNat now (L, J, ed)).1 (msN nb ni (t.toInt - now.toInt).toNat now (L, J, ed)).2.1 ∧ MFr ad g g') (fun (g' : Nat → Option va_E) (t : State) => PW D classes (gA g s.heap.size) g' t.heap) (gA g s.heap.size)) [.ref (ad 0), .long t].toArray s 0 0 (gA g s.heap.size)) g2 0 0 11 [(3, .int ((nI k))), (0, .ref (ad 0)), (1, .long t)] [] := by
        intro q
        induction q with
        | zero =>
          intro k g2 L2 hk e2 h2 hF2
          have hkn : k = nb := by omega
          subst hkn
          refine go_iload_n X (z := 0) d_M_pass_11 rfl rfl ?_
          refine go_aload_n X (z := 1) d_M_pass_12 rfl rfl ?_
          refine go_get X u_M rfl 2 (by decide) gm_fl_M_73 rfl d_M_pass_13 h2.this rfl ?_
          refine go_icmp_ge X (tgt := 40) d_M_pass_16 rfl (fun c1 => ?_) (fun c1 => absurd (Int32.le_refl _) c1)
          refine go_iconst X (v := 1) d_M_pass_40 (by decide) ?_
          refine go_istore_n X (lv' := [(3, .int (nI (0 + 1))), (0, .ref (ad 0)), (1, .long t)]) d_M_pass_41 rfl (by decide) rfl ?_
          exact part2 ni 0 g2 L2 (Nat.zero_add _) e2 h2 hF2
        | succ q ihq =>
          intro k g2 L2 hkq e2 h2 hF2
          refine go_iload_n X (z := 0) d_M_pass_11 rfl rfl ?_
          refine go_aload_n X (z := 1) d_M_pass_12 rfl rfl ?_
          refine go_get X u_M rfl 2 (by decide) gm_fl_M_73 rfl d_M_pass_13 h2.this rfl ?_
          refine go_icmp_ge X (tgt := 40) d_M_pass_16 rfl (fun c1 => absurd c1 (nI_ge (a := k) (b := nb) (by omega) (by omega))) (fun c1 => ?_)
          refine go_aload_n X (z := 1) d_M_pass_19 rfl rfl ?_
          refine go_get X u_M rfl 10 (by decide) gm_fl_M_33 rfl d_M_pass_20 h2.this rfl ?_
          refine go_iload_n X (z := 0) d_M_pass_23 rfl rfl ?_
          refine go_aload_n X (z := 1) d_M_pass_24 rfl rfl ?_
          refine go_iload_n X (z := 0) d_M_pass_25 rfl rfl ?_
          refine go_aload_n X (z := 1) d_M_pass_26 rfl rfl ?_
          refine go_get X u_M rfl 1 (by decide) gm_fl_M_79 rfl d_M_pass_27 h2.this rfl ?_
          refine go_callL_V X (As := [.int ((nI k)), .long now1]) (rest := [.int ((nI k)), .ref (ad 10)]) (c_M_rateAt h2 (b := k) (by omega) now1) gm_ml_M_128 cw_M_rateAt ⟨by decide, by decide⟩ rfl h2.this rfl rfl (Nat.le_of_ble_eq_true rfl) d_M_pass_30 ⟨by decide, by decide⟩ (fun ru2 gu2 hu2 => ?_)
          obtain ⟨rfl, rfl⟩ := hu2
          refine go_topl (fun x3 ex3 => ?_)
          refine go_last X 1 rfl d_M_pass_33 h2.a10 (vp_in_nI (by omega) (by decide)) ?_
          refine go_gen (fun g4 eg4 => ?_)
          have eg4 : g4 = va_up g2 (ad 10) (some (.inl (dA 1, 12, .inr (.inl (vp_updL ((L2 10)) k x3))))) := by rw [eg4, nI_clamp (show k < 2 ^ 31 by omega)]
          have h5 : g4 (ad 0) = some (.inr (4, [.int th, .long now1, .int ((nI nb)), .ref (ad 3), .ref (ad 4), .ref (ad 5), .ref (ad 6), .ref (ad 7), .ref (ad 8), .ref (ad 9), .ref (ad 10), .int ((nI ni)), .ref (ad 12), .ref (ad 13), .ref (ad 14), .ref (ad 15), .ref (ad 16), .ref (ad 17), .ref (ad 18), .int ((nI s1.2.2)), .int kn, .ref (ad 21), .ref (ad 22), .ref (ad 23), .ref (ad 24)])) := by rw [eg4, va_up_ne _ _ (h2.ne 0 10)]; exact h2.this
          have h6 : g4 (ad 15) = some (.inl (dA 1, 61, .inr (.inl ((L2 15))))) := by rw [eg4, va_up_ne _ _ (h2.ne 15 10)]; exact h2.a15
          have h7 : g4 (ad 14) = some (.inl (dA 0, 61, .inl ((s1.2.1 14)))) := by rw [eg4, va_up_ne _ _ (h2.ne 14 10)]; exact h2.a14
          have h8 : g4 (ad 10) = some (.inl (dA 1, 12, .inr (.inl (vp_updL ((L2 10)) k x3)))) := by rw [eg4]; exact va_up_self _ _ _
          have hM : MRep dA ad g4 th now1 nb ni s1.2.2 kn (va_up L2 10 (vp_updL (L2 10) k (rateMF L2 s1.2.1 k now1))) s1.2.1 := by
            subst ex3
            rw [eg4]
            exact h2.setL 10 _
          refine go_iinc X (j := 0) (v := nI (k + 1)) d_M_pass_34 rfl (nI_1 k) (by decide) rfl ?_
          refine go_goto X (tgt := 11) d_M_pass_37 rfl ?_
          exact ihq (k + 1) g4 _ (by omega) (by rw [e2]; rfl) hM (hF2.trans (by rw [eg4]; exact MFr.up rfl))
      refine go_aload_n X (z := 0) d_M_pass_0 rfl rfl ?_
      refine go_get X u_M rfl 1 (by decide) gm_fl_M_79 rfl d_M_pass_1 h1.this rfl ?_
      refine go_lload_n X (z := 1) d_M_pass_4 rfl rfl ?_
      refine go_lif_ge X (tgt := 118) d_M_pass_5 d_M_pass_6 rfl (fun c => absurd c hlt2) (fun _ => ?_)
      refine go_iconst X (v := 0) d_M_pass_9 (by decide) ?_
      refine go_istore_n X (lv' := [(3, .int (nI 0)), (0, .ref (ad 0)), (1, .long t)]) d_M_pass_10 rfl (by decide) rfl ?_
      exact part1 nb 0 g1 s1.1 (Nat.zero_add _) rfl h1 hF
  exact loop _ now g (L, J, ed) rfl hnt rfl hed h hW MFr.rfl'
end M3
