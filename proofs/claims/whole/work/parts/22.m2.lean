/-! The reference: goOver, look. -/
def oN (J : JA) (i : Nat) : Nat := (J 14 i).toNatClampNeg
def goL (L : LA) (J : JA) (i : Nat) : LA := va_up L 15 (vp_updL (L 15) i (L 15 i - L 3 (oN J i)))
def goJ (J : JA) (i : Nat) : JA := va_up (va_up (va_up (va_up J 16 (upd (J 16) i (if J 5 (oN J i) = -1 then 1 else 0))) 14 (upd (J 14) i (if J 5 (oN J i) = -1 then J 14 i else J 5 (oN J i)))) 17 (upd (J 17) i 0)) 18 (upd (J 18) i 0)
def go1 (now : Int64) (L : LA) (J : JA) (i : Nat) : LA × JA := if thereF now L J i = 0 then (L, J) else if L 15 i < L 3 (oN J i) then (L, J) else (goL L J i, goJ J i)
def goN (now : Int64) (L : LA) (J : JA) : Nat → LA × JA
  | 0 => (L, J)
  | k + 1 => go1 now (goN now L J k).1 (goN now L J k).2 (k + 1)
abbrev MS : Type := LA × JA × Nat
theorem tlJ_k {J : JA} {ed i : Nat} {kd : Int32} (k : Nat) (h1 : k ≠ 22 := by decide) (h2 : k ≠ 23 := by decide) (h3 : k ≠ 24 := by decide) : tlJ J ed i kd k = J k := by
  unfold tlJ
  split
  · rfl
  · rw [va_up_ne _ _ h3, va_up_ne _ _ h2, va_up_ne _ _ h1]
theorem tlL_k {L : LA} {ed : Nat} {now : Int64} (k : Nat) (h1 : k ≠ 21 := by decide) : tlL L ed now k = L k := by
  unfold tlL
  split
  · rfl
  · rw [va_up_ne _ _ h1]
noncomputable def lkA (now : Int64) (ni i : Nat) (s : MS) : MS := if s.2.1 17 i = 0 then (if s.1 15 i < s.1 3 (oN s.2.1 i) / 2 then s else (tlL s.1 s.2.2 now, va_up (tlJ s.2.1 s.2.2 i (if shMU now s.1 s.2.1 i (ni + 1) = 0 then 0 else 2)) 17 (upd (s.2.1 17) i 1), s.2.2 + 1)) else s
def lkB (now : Int64) (sn : Int64) (i : Nat) (s : MS) : MS := if s.2.1 17 i = 0 then s else if s.2.1 18 i = 0 then (if s.1 15 i - s.1 12 i < sn then s else (tlL s.1 s.2.2 now, va_up (tlJ s.2.1 s.2.2 i 1) 18 (upd (s.2.1 18) i 1), s.2.2 + 1)) else s
noncomputable def lk1 (now : Int64) (ni i : Nat) (s : MS) : MS := if thereF now s.1 s.2.1 i = 0 then s else lkB now (s.1 3 (oN s.2.1 i) / 2) i (lkA now ni i s)
noncomputable def lkN (now : Int64) (ni : Nat) (s : MS) : Nat → MS
  | 0 => s
  | k + 1 => lk1 now ni (k + 1) (lkN now ni s k)
theorem lkA_n (now : Int64) (ni i : Nat) (s : MS) : (lkA now ni i s).2.2 ≤ s.2.2 + 1 ∧ (lkA now ni i s).2.1 14 = s.2.1 14 ∧ (lkA now ni i s).2.1 5 = s.2.1 5 ∧ (lkA now ni i s).2.1 18 = s.2.1 18 ∧ (lkA now ni i s).1 15 = s.1 15 ∧ (lkA now ni i s).1 12 = s.1 12 ∧ (lkA now ni i s).1 3 = s.1 3 := by
  unfold lkA
  repeat' split
  all_goals first
    | exact ⟨Nat.le_succ _, rfl, rfl, rfl, rfl, rfl, rfl⟩
    | exact ⟨Nat.le_refl _, tlJ_k 14, tlJ_k 5, tlJ_k 18, tlL_k 15, tlL_k 12, tlL_k 3⟩
theorem lkB_n (now sn : Int64) (i : Nat) (s : MS) : (lkB now sn i s).2.2 ≤ s.2.2 + 1 ∧ (lkB now sn i s).2.1 14 = s.2.1 14 ∧ (lkB now sn i s).2.1 5 = s.2.1 5 ∧ (lkB now sn i s).1 3 = s.1 3 := by
  unfold lkB
  repeat' split
  all_goals first
    | exact ⟨Nat.le_succ _, rfl, rfl, rfl⟩
    | exact ⟨Nat.le_refl _, tlJ_k 14, tlJ_k 5, tlL_k 3⟩
theorem lk1_n (now : Int64) (ni i : Nat) (s : MS) : (lk1 now ni i s).2.2 ≤ s.2.2 + 2 ∧ (lk1 now ni i s).2.1 14 = s.2.1 14 ∧ (lk1 now ni i s).2.1 5 = s.2.1 5 ∧ (lk1 now ni i s).1 3 = s.1 3 := by
  unfold lk1
  split
  · exact ⟨Nat.le_add_right _ _, rfl, rfl, rfl⟩
  · obtain ⟨a1, a2, a3, -, -, -, a4⟩ := lkA_n now ni i s
    obtain ⟨b1, b2, b3, b4⟩ := lkB_n now (s.1 3 (oN s.2.1 i) / 2) i (lkA now ni i s)
    exact ⟨by omega, b2.trans a2, b3.trans a3, b4.trans a4⟩
theorem lkN_n (now : Int64) (ni : Nat) (s : MS) (k : Nat) : (lkN now ni s k).2.2 ≤ s.2.2 + 2 * k ∧ (lkN now ni s k).2.1 14 = s.2.1 14 ∧ (lkN now ni s k).2.1 5 = s.2.1 5 ∧ (lkN now ni s k).1 3 = s.1 3 := by
  induction k with
  | zero => exact ⟨Nat.le_refl _, rfl, rfl, rfl⟩
  | succ k ih =>
    obtain ⟨a1, a2, a3, a4⟩ := lk1_n now ni (k + 1) (lkN now ni s k)
    obtain ⟨b1, b2, b3, b4⟩ := ih
    refine ⟨?_, a2.trans b2, a3.trans b3, a4.trans b4⟩
    show (lk1 now ni (k + 1) (lkN now ni s k)).2.2 ≤ _
    omega
theorem MWf.congr {nb ni : Nat} {J J' : JA} (h : MWf nb ni J) (e14 : J' 14 = J 14) (e5 : J' 5 = J 5) : MWf nb ni J' := ⟨h.1, h.2.1, fun i a b => by rw [e14]; exact h.2.2.1 i a b, fun b hb => by rw [e5]; exact h.2.2.2 b hb⟩
theorem go1_wf {nb ni : Nat} {now : Int64} {L : LA} {J : JA} (h : MWf nb ni J) {i : Nat} (h1 : 1 ≤ i) (hi : i ≤ ni) : MWf nb ni (go1 now L J i).2 := by
  unfold go1
  split
  · exact h
  · split
    · exact h
    · refine ⟨h.1, h.2.1, fun k a b => ?_, fun b hb => ?_⟩
      · show ∃ j, j < nb ∧ upd (J 14) i (if J 5 (oN J i) = -1 then J 14 i else J 5 (oN J i)) k = nI j
        by_cases hk : k = i
        · subst hk
          rw [pk_us]
          obtain ⟨j, hj, e⟩ := h.2.2.1 k a b
          have hn := h.1
          have ho : oN J k = j := by unfold oN; rw [e]; exact nI_clamp (by omega)
          rw [ho]
          by_cases hc : J 5 j = -1
          · rw [if_pos hc]; exact ⟨j, hj, e⟩
          · rw [if_neg hc]
            exact (h.2.2.2 j hj).resolve_left hc
        · rw [pk_un hk]
          exact h.2.2.1 k a b
      · exact h.2.2.2 b hb
theorem goN_wf {nb ni : Nat} {now : Int64} {L : LA} {J : JA} (h : MWf nb ni J) (k : Nat) (hk : k ≤ ni) : MWf nb ni (goN now L J k).2 := by
  induction k with
  | zero => exact h
  | succ k ih => exact go1_wf (ih (by omega)) (by omega) hk
section M2
variable {ad : Nat → Nat} {th : Int32} {now : Int64} {nb ni ed : Nat} {kn : Int32} {L : LA} {J : JA}
set_option maxHeartbeats 4000000 in
set_option maxRecDepth 100000 in
theorem c_M_goOver {l : Launch} {D : va_G} {dA : Nat → ClassId} {g : Nat → Option va_E}  (h : MRep dA ad g th now nb ni ed kn L J) (hW : MWf nb ni J) : CtV l D classes (tyL dA) y_M_goOver b_M_goOver 3 none rm_M_goOver [.ref (ad 0)] g (fun g' => MRep dA ad g' th now nb ni ed kn (goN now L J ni).1 (goN now L J ni).2 ∧ MFr ad g g') := by
  refine CtV.of (by decide) (Nat.le_of_ble_eq_true rfl) ?_
  intro p e s m below meth c X hr hlk hnm
  have hnb := hW.1
  have hni := hW.2.1
  have loop : ∀ (f k : Nat) (g1 : Nat → Option va_E) (s1 : LA × JA), k + f = ni → s1 = goN now L J k → MRep dA ad g1 th now nb ni ed kn s1.1 s1.2 → MFr ad g g1 → Go p l e rm_M_goOver s m [.ref (ad 0)].toArray below meth c D classes (gA g s.heap.size) 3 (MQ below (va_Qv (fun g' => MRep dA ad g' th now nb ni ed kn (goN now L J ni).1 (goN now L J ni).2 ∧ MFr ad g g') (fun (g' : Nat → Option va_E) (t : State) => PW D classes (gA g s.heap.size) g' t.heap) (gA g s.heap.size)) [.ref (ad 0)].toArray s 0 0 (gA g s.heap.size)) g1 0 0 2 [(1, .int ((nI (k + 1)))), (0, .ref (ad 0))] [] := by
    intro f
    induction f with
    | zero =>
      intro k g1 s1 hk hs h1 hF
      have hkn : k = ni := by omega
      subst hkn
      refine go_iload_n X (z := 0) d_M_goOver_2 rfl rfl ?_
      refine go_aload_n X (z := 1) d_M_goOver_3 rfl rfl ?_
      refine go_get X u_M rfl 11 (by decide) gm_fl_M_76 rfl d_M_goOver_4 h1.this rfl ?_
      refine go_icmp_gt X (tgt := 132) d_M_goOver_7 rfl (fun c1 => ?_) (fun c1 => absurd (nI_lt (by omega) (by omega)) c1)
      exact go_retV X hr hlk d_M_goOver_132 ⟨hs ▸ h1, hF⟩
    | succ f ih =>
      intro k g1 s1 hkf hs h1 hF
      have hW1 : MWf nb ni s1.2 := hs ▸ goN_wf hW k (by omega)
      obtain ⟨j, hj, ho⟩ := hW1.2.2.1 (k + 1) (by omega) (by omega)
      have hoN : oN s1.2 (k + 1) = j := by unfold oN; rw [ho]; exact nI_clamp (by omega)
      refine go_iload_n X (z := 0) d_M_goOver_2 rfl rfl ?_
      refine go_aload_n X (z := 1) d_M_goOver_3 rfl rfl ?_
      refine go_get X u_M rfl 11 (by decide) gm_fl_M_76 rfl d_M_goOver_4 h1.this rfl ?_
      refine go_icmp_gt X (tgt := 132) d_M_goOver_7 rfl (fun c1 => absurd c1 (nI_nlt (a := ni) (b := k + 1) (by omega) (by omega))) (fun c1 => ?_)
      refine go_aload_n X (z := 1) d_M_goOver_10 rfl rfl ?_
      refine go_iload_n X (z := 0) d_M_goOver_11 rfl rfl ?_
      refine go_callI_V X (As := [.int ((nI (k + 1)))]) (rest := []) (c_M_isThere h1 (by omega)) gm_ml_M_111 cw_M_isThere ⟨by decide, by decide⟩ rfl h1.this rfl rfl (Nat.le_of_ble_eq_true rfl) d_M_goOver_12 ⟨by decide, by decide⟩ (fun ru2 gu2 hu2 => ?_)
      obtain ⟨rfl, rfl⟩ := hu2
      refine go_if_eq X (tgt := 126) d_M_goOver_15 rfl (fun c3 => ?_) (fun c3 => ?_)
      · refine go_iinc X (j := 0) (v := nI (k + 1 + 1)) d_M_goOver_126 rfl (nI_1 (k + 1)) (by decide) rfl ?_
        refine go_goto X (tgt := 2) d_M_goOver_129 rfl ?_
        refine go_sub (lv' := [(1, .int (nI (k + 1 + 1))), (0, .ref (ad 0))]) [0, 1] rfl ?_
        exact ih (k + 1) _ s1 (by omega) (by show s1 = go1 now (goN now L J k).1 (goN now L J k).2 (k + 1); rw [← hs]; unfold go1; rw [if_pos c3]) h1 hF
      · refine go_aload_n X (z := 1) d_M_goOver_18 rfl rfl ?_
        refine go_get X u_M rfl 15 (by decide) gm_fl_M_45 rfl d_M_goOver_19 h1.this rfl ?_
        refine go_iload_n X (z := 0) d_M_goOver_22 rfl rfl ?_
        refine go_lald X 1 rfl d_M_goOver_23 h1.a15 (vp_in_nI (by omega) (by decide)) ?_
        rw [nI_clamp (show (k + 1) < 2 ^ 31 by omega)]
        refine go_aload_n X (z := 1) d_M_goOver_24 rfl rfl ?_
        refine go_get X u_M rfl 3 (by decide) gm_fl_M_7 rfl d_M_goOver_25 h1.this rfl ?_
        refine go_aload_n X (z := 1) d_M_goOver_28 rfl rfl ?_
        refine go_get X u_M rfl 14 (by decide) gm_fl_M_42 rfl d_M_goOver_29 h1.this rfl ?_
        refine go_iload_n X (z := 0) d_M_goOver_32 rfl rfl ?_
        refine go_iald X 0 rfl d_M_goOver_33 h1.a14 (vp_in_nI (by omega) (by decide)) ?_
        rw [nI_clamp (show (k + 1) < 2 ^ 31 by omega)]
        rw [ho]
        refine go_lald X 1 rfl d_M_goOver_34 h1.a3 (vp_in_nI (by omega) (by decide)) ?_
        rw [nI_clamp (show j < 2 ^ 31 by omega)]
        refine go_lif_lt X (tgt := 126) d_M_goOver_35 d_M_goOver_36 rfl (fun c4 => ?_) (fun c4 => ?_)
        · refine go_iinc X (j := 0) (v := nI (k + 1 + 1)) d_M_goOver_126 rfl (nI_1 (k + 1)) (by decide) rfl ?_
          refine go_goto X (tgt := 2) d_M_goOver_129 rfl ?_
          refine go_sub (lv' := [(1, .int (nI (k + 1 + 1))), (0, .ref (ad 0))]) [0, 1] rfl ?_
          exact ih (k + 1) _ s1 (by omega) (by show s1 = go1 now (goN now L J k).1 (goN now L J k).2 (k + 1); rw [← hs]; unfold go1; rw [if_neg c3, hoN, if_pos c4]) h1 hF
        · refine go_aload_n X (z := 1) d_M_goOver_39 rfl rfl ?_
          refine go_get X u_M rfl 15 (by decide) gm_fl_M_45 rfl d_M_goOver_40 h1.this rfl ?_
          refine go_iload_n X (z := 0) d_M_goOver_43 rfl rfl ?_
          refine go_aload_n X (z := 1) d_M_goOver_44 rfl rfl ?_
          refine go_get X u_M rfl 15 (by decide) gm_fl_M_45 rfl d_M_goOver_45 h1.this rfl ?_
          refine go_iload_n X (z := 0) d_M_goOver_48 rfl rfl ?_
          refine go_lald X 1 rfl d_M_goOver_49 h1.a15 (vp_in_nI (by omega) (by decide)) ?_
          rw [nI_clamp (show (k + 1) < 2 ^ 31 by omega)]
          refine go_aload_n X (z := 1) d_M_goOver_50 rfl rfl ?_
          refine go_get X u_M rfl 3 (by decide) gm_fl_M_7 rfl d_M_goOver_51 h1.this rfl ?_
          refine go_aload_n X (z := 1) d_M_goOver_54 rfl rfl ?_
          refine go_get X u_M rfl 14 (by decide) gm_fl_M_42 rfl d_M_goOver_55 h1.this rfl ?_
          refine go_iload_n X (z := 0) d_M_goOver_58 rfl rfl ?_
          refine go_iald X 0 rfl d_M_goOver_59 h1.a14 (vp_in_nI (by omega) (by decide)) ?_
          rw [nI_clamp (show (k + 1) < 2 ^ 31 by omega)]
          rw [ho]
          refine go_lald X 1 rfl d_M_goOver_60 h1.a3 (vp_in_nI (by omega) (by decide)) ?_
          rw [nI_clamp (show j < 2 ^ 31 by omega)]
          refine go_lsub X d_M_goOver_61 ?_
          refine go_topl (fun x5 ex5 => ?_)
          refine go_last X 1 rfl d_M_goOver_62 h1.a15 (vp_in_nI (by omega) (by decide)) ?_
          refine go_gen (fun g6 eg6 => ?_)
          have eg6 : g6 = va_up g1 (ad 15) (some (.inl (dA 1, 61, .inr (.inl (vp_updL ((s1.1 15)) (k + 1) x5))))) := by rw [eg6, nI_clamp (show k + 1 < 2 ^ 31 by omega)]
          have h7 : g6 (ad 0) = some (.inr (4, [.int th, .long now, .int ((nI nb)), .ref (ad 3), .ref (ad 4), .ref (ad 5), .ref (ad 6), .ref (ad 7), .ref (ad 8), .ref (ad 9), .ref (ad 10), .int ((nI ni)), .ref (ad 12), .ref (ad 13), .ref (ad 14), .ref (ad 15), .ref (ad 16), .ref (ad 17), .ref (ad 18), .int ((nI ed)), .int kn, .ref (ad 21), .ref (ad 22), .ref (ad 23), .ref (ad 24)])) := by rw [eg6, va_up_ne _ _ (h1.ne 0 15)]; exact h1.this
          have h8 : g6 (ad 3) = some (.inl (dA 1, 12, .inr (.inl ((s1.1 3))))) := by rw [eg6, va_up_ne _ _ (h1.ne 3 15)]; exact h1.a3
          have h9 : g6 (ad 14) = some (.inl (dA 0, 61, .inl ((s1.2 14)))) := by rw [eg6, va_up_ne _ _ (h1.ne 14 15)]; exact h1.a14
          have h10 : g6 (ad 5) = some (.inl (dA 0, 12, .inl ((s1.2 5)))) := by rw [eg6, va_up_ne _ _ (h1.ne 5 15)]; exact h1.a5
          have h11 : g6 (ad 16) = some (.inl (dA 2, 61, .inl ((s1.2 16)))) := by rw [eg6, va_up_ne _ _ (h1.ne 16 15)]; exact h1.a16
          have h12 : g6 (ad 17) = some (.inl (dA 2, 61, .inl ((s1.2 17)))) := by rw [eg6, va_up_ne _ _ (h1.ne 17 15)]; exact h1.a17
          have h13 : g6 (ad 18) = some (.inl (dA 2, 61, .inl ((s1.2 18)))) := by rw [eg6, va_up_ne _ _ (h1.ne 18 15)]; exact h1.a18
          have h14 : g6 (ad 15) = some (.inl (dA 1, 61, .inr (.inl (vp_updL ((s1.1 15)) (k + 1) x5)))) := by rw [eg6]; exact va_up_self _ _ _
          refine go_aload_n X (z := 1) d_M_goOver_63 rfl rfl ?_
          refine go_get X u_M rfl 5 (by decide) gm_fl_M_16 rfl d_M_goOver_64 h7 rfl ?_
          refine go_aload_n X (z := 1) d_M_goOver_67 rfl rfl ?_
          refine go_get X u_M rfl 14 (by decide) gm_fl_M_42 rfl d_M_goOver_68 h7 rfl ?_
          refine go_iload_n X (z := 0) d_M_goOver_71 rfl rfl ?_
          refine go_iald X 0 rfl d_M_goOver_72 h9 (vp_in_nI (by omega) (by decide)) ?_
          rw [nI_clamp (show (k + 1) < 2 ^ 31 by omega)]
          rw [ho]
          refine go_iald X 0 rfl d_M_goOver_73 h10 (vp_in_nI (by omega) (by decide)) ?_
          rw [nI_clamp (show j < 2 ^ 31 by omega)]
          refine go_topi (fun x15 ex15 => ?_)
          refine go_istore_n X (lv' := [(2, .int x15), (1, .int ((nI (k + 1)))), (0, .ref (ad 0))]) d_M_goOver_74 rfl (by decide) rfl ?_
          refine go_aload_n X (z := 2) d_M_goOver_75 rfl rfl ?_
          refine go_get X u_M rfl 16 (by decide) gm_fl_M_48 rfl d_M_goOver_76 h7 rfl ?_
          refine go_iload_n X (z := 1) d_M_goOver_79 rfl rfl ?_
          refine go_iload_n X (z := 0) d_M_goOver_80 rfl rfl ?_
          refine go_iconst X (v := (-1)) d_M_goOver_81 (by decide) ?_
          refine go_icmp_ne X (tgt := 89) d_M_goOver_82 rfl (fun c16 => ?_) (fun c16 => ?_)
          · refine go_iconst X (v := 0) d_M_goOver_89 (by decide) ?_
            refine go_zast X 2 rfl d_M_goOver_90 h11 (vp_in_nI (by omega) (by decide)) ?_
            refine go_gen (fun g17 eg17 => ?_)
            have eg17 : g17 = va_up g6 (ad 16) (some (.inl (dA 2, 61, .inl (upd ((s1.2 16)) (k + 1) 0)))) := by rw [eg17, nI_clamp (show k + 1 < 2 ^ 31 by omega), show vp_nar .boolean (0 : Int32) = 0 from rfl]
            have h18 : g17 (ad 0) = some (.inr (4, [.int th, .long now, .int ((nI nb)), .ref (ad 3), .ref (ad 4), .ref (ad 5), .ref (ad 6), .ref (ad 7), .ref (ad 8), .ref (ad 9), .ref (ad 10), .int ((nI ni)), .ref (ad 12), .ref (ad 13), .ref (ad 14), .ref (ad 15), .ref (ad 16), .ref (ad 17), .ref (ad 18), .int ((nI ed)), .int kn, .ref (ad 21), .ref (ad 22), .ref (ad 23), .ref (ad 24)])) := by rw [eg17, va_up_ne _ _ (h1.ne 0 16)]; exact h7
            have h19 : g17 (ad 15) = some (.inl (dA 1, 61, .inr (.inl (vp_updL ((s1.1 15)) (k + 1) x5)))) := by rw [eg17, va_up_ne _ _ (h1.ne 15 16)]; exact h14
            have h20 : g17 (ad 3) = some (.inl (dA 1, 12, .inr (.inl ((s1.1 3))))) := by rw [eg17, va_up_ne _ _ (h1.ne 3 16)]; exact h8
            have h21 : g17 (ad 14) = some (.inl (dA 0, 61, .inl ((s1.2 14)))) := by rw [eg17, va_up_ne _ _ (h1.ne 14 16)]; exact h9
            have h22 : g17 (ad 5) = some (.inl (dA 0, 12, .inl ((s1.2 5)))) := by rw [eg17, va_up_ne _ _ (h1.ne 5 16)]; exact h10
            have h23 : g17 (ad 17) = some (.inl (dA 2, 61, .inl ((s1.2 17)))) := by rw [eg17, va_up_ne _ _ (h1.ne 17 16)]; exact h12
            have h24 : g17 (ad 18) = some (.inl (dA 2, 61, .inl ((s1.2 18)))) := by rw [eg17, va_up_ne _ _ (h1.ne 18 16)]; exact h13
            have h25 : g17 (ad 16) = some (.inl (dA 2, 61, .inl (upd ((s1.2 16)) (k + 1) 0))) := by rw [eg17]; exact va_up_self _ _ _
            refine go_aload_n X (z := 2) d_M_goOver_91 rfl rfl ?_
            refine go_get X u_M rfl 14 (by decide) gm_fl_M_42 rfl d_M_goOver_92 h18 rfl ?_
            refine go_iload_n X (z := 1) d_M_goOver_95 rfl rfl ?_
            refine go_iload_n X (z := 0) d_M_goOver_96 rfl rfl ?_
            refine go_iconst X (v := (-1)) d_M_goOver_97 (by decide) ?_
            refine go_icmp_ne X (tgt := 110) d_M_goOver_98 rfl (fun c26 => ?_) (fun c26 => absurd c26 c16)
            refine go_iload_n X (z := 0) d_M_goOver_110 rfl rfl ?_
            refine go_iast X 0 rfl d_M_goOver_111 h21 (vp_in_nI (by omega) (by decide)) ?_
            refine go_gen (fun g27 eg27 => ?_)
            have eg27 : g27 = va_up g17 (ad 14) (some (.inl (dA 0, 61, .inl (upd ((s1.2 14)) (k + 1) x15)))) := by rw [eg27, nI_clamp (show k + 1 < 2 ^ 31 by omega)]
            have h28 : g27 (ad 0) = some (.inr (4, [.int th, .long now, .int ((nI nb)), .ref (ad 3), .ref (ad 4), .ref (ad 5), .ref (ad 6), .ref (ad 7), .ref (ad 8), .ref (ad 9), .ref (ad 10), .int ((nI ni)), .ref (ad 12), .ref (ad 13), .ref (ad 14), .ref (ad 15), .ref (ad 16), .ref (ad 17), .ref (ad 18), .int ((nI ed)), .int kn, .ref (ad 21), .ref (ad 22), .ref (ad 23), .ref (ad 24)])) := by rw [eg27, va_up_ne _ _ (h1.ne 0 14)]; exact h18
            have h29 : g27 (ad 15) = some (.inl (dA 1, 61, .inr (.inl (vp_updL ((s1.1 15)) (k + 1) x5)))) := by rw [eg27, va_up_ne _ _ (h1.ne 15 14)]; exact h19
            have h30 : g27 (ad 3) = some (.inl (dA 1, 12, .inr (.inl ((s1.1 3))))) := by rw [eg27, va_up_ne _ _ (h1.ne 3 14)]; exact h20
            have h31 : g27 (ad 5) = some (.inl (dA 0, 12, .inl ((s1.2 5)))) := by rw [eg27, va_up_ne _ _ (h1.ne 5 14)]; exact h22
            have h32 : g27 (ad 16) = some (.inl (dA 2, 61, .inl (upd ((s1.2 16)) (k + 1) 0))) := by rw [eg27, va_up_ne _ _ (h1.ne 16 14)]; exact h25
            have h33 : g27 (ad 17) = some (.inl (dA 2, 61, .inl ((s1.2 17)))) := by rw [eg27, va_up_ne _ _ (h1.ne 17 14)]; exact h23
            have h34 : g27 (ad 18) = some (.inl (dA 2, 61, .inl ((s1.2 18)))) := by rw [eg27, va_up_ne _ _ (h1.ne 18 14)]; exact h24
            have h35 : g27 (ad 14) = some (.inl (dA 0, 61, .inl (upd ((s1.2 14)) (k + 1) x15))) := by rw [eg27]; exact va_up_self _ _ _
            refine go_aload_n X (z := 2) d_M_goOver_112 rfl rfl ?_
            refine go_get X u_M rfl 17 (by decide) gm_fl_M_51 rfl d_M_goOver_113 h28 rfl ?_
            refine go_iload_n X (z := 1) d_M_goOver_116 rfl rfl ?_
            refine go_iconst X (v := 0) d_M_goOver_117 (by decide) ?_
            refine go_zast X 2 rfl d_M_goOver_118 h33 (vp_in_nI (by omega) (by decide)) ?_
            refine go_gen (fun g36 eg36 => ?_)
            have eg36 : g36 = va_up g27 (ad 17) (some (.inl (dA 2, 61, .inl (upd ((s1.2 17)) (k + 1) 0)))) := by rw [eg36, nI_clamp (show k + 1 < 2 ^ 31 by omega), show vp_nar .boolean (0 : Int32) = 0 from rfl]
            have h37 : g36 (ad 0) = some (.inr (4, [.int th, .long now, .int ((nI nb)), .ref (ad 3), .ref (ad 4), .ref (ad 5), .ref (ad 6), .ref (ad 7), .ref (ad 8), .ref (ad 9), .ref (ad 10), .int ((nI ni)), .ref (ad 12), .ref (ad 13), .ref (ad 14), .ref (ad 15), .ref (ad 16), .ref (ad 17), .ref (ad 18), .int ((nI ed)), .int kn, .ref (ad 21), .ref (ad 22), .ref (ad 23), .ref (ad 24)])) := by rw [eg36, va_up_ne _ _ (h1.ne 0 17)]; exact h28
            have h38 : g36 (ad 15) = some (.inl (dA 1, 61, .inr (.inl (vp_updL ((s1.1 15)) (k + 1) x5)))) := by rw [eg36, va_up_ne _ _ (h1.ne 15 17)]; exact h29
            have h39 : g36 (ad 3) = some (.inl (dA 1, 12, .inr (.inl ((s1.1 3))))) := by rw [eg36, va_up_ne _ _ (h1.ne 3 17)]; exact h30
            have h40 : g36 (ad 14) = some (.inl (dA 0, 61, .inl (upd ((s1.2 14)) (k + 1) x15))) := by rw [eg36, va_up_ne _ _ (h1.ne 14 17)]; exact h35
            have h41 : g36 (ad 5) = some (.inl (dA 0, 12, .inl ((s1.2 5)))) := by rw [eg36, va_up_ne _ _ (h1.ne 5 17)]; exact h31
            have h42 : g36 (ad 16) = some (.inl (dA 2, 61, .inl (upd ((s1.2 16)) (k + 1) 0))) := by rw [eg36, va_up_ne _ _ (h1.ne 16 17)]; exact h32
            have h43 : g36 (ad 18) = some (.inl (dA 2, 61, .inl ((s1.2 18)))) := by rw [eg36, va_up_ne _ _ (h1.ne 18 17)]; exact h34
            have h44 : g36 (ad 17) = some (.inl (dA 2, 61, .inl (upd ((s1.2 17)) (k + 1) 0))) := by rw [eg36]; exact va_up_self _ _ _
            refine go_aload_n X (z := 2) d_M_goOver_119 rfl rfl ?_
            refine go_get X u_M rfl 18 (by decide) gm_fl_M_54 rfl d_M_goOver_120 h37 rfl ?_
            refine go_iload_n X (z := 1) d_M_goOver_123 rfl rfl ?_
            refine go_iconst X (v := 0) d_M_goOver_124 (by decide) ?_
            refine go_zast X 2 rfl d_M_goOver_125 h43 (vp_in_nI (by omega) (by decide)) ?_
            refine go_gen (fun g45 eg45 => ?_)
            have eg45 : g45 = va_up g36 (ad 18) (some (.inl (dA 2, 61, .inl (upd ((s1.2 18)) (k + 1) 0)))) := by rw [eg45, nI_clamp (show k + 1 < 2 ^ 31 by omega), show vp_nar .boolean (0 : Int32) = 0 from rfl]
            have h46 : g45 (ad 0) = some (.inr (4, [.int th, .long now, .int ((nI nb)), .ref (ad 3), .ref (ad 4), .ref (ad 5), .ref (ad 6), .ref (ad 7), .ref (ad 8), .ref (ad 9), .ref (ad 10), .int ((nI ni)), .ref (ad 12), .ref (ad 13), .ref (ad 14), .ref (ad 15), .ref (ad 16), .ref (ad 17), .ref (ad 18), .int ((nI ed)), .int kn, .ref (ad 21), .ref (ad 22), .ref (ad 23), .ref (ad 24)])) := by rw [eg45, va_up_ne _ _ (h1.ne 0 18)]; exact h37
            have h47 : g45 (ad 15) = some (.inl (dA 1, 61, .inr (.inl (vp_updL ((s1.1 15)) (k + 1) x5)))) := by rw [eg45, va_up_ne _ _ (h1.ne 15 18)]; exact h38
            have h48 : g45 (ad 3) = some (.inl (dA 1, 12, .inr (.inl ((s1.1 3))))) := by rw [eg45, va_up_ne _ _ (h1.ne 3 18)]; exact h39
            have h49 : g45 (ad 14) = some (.inl (dA 0, 61, .inl (upd ((s1.2 14)) (k + 1) x15))) := by rw [eg45, va_up_ne _ _ (h1.ne 14 18)]; exact h40
            have h50 : g45 (ad 5) = some (.inl (dA 0, 12, .inl ((s1.2 5)))) := by rw [eg45, va_up_ne _ _ (h1.ne 5 18)]; exact h41
            have h51 : g45 (ad 16) = some (.inl (dA 2, 61, .inl (upd ((s1.2 16)) (k + 1) 0))) := by rw [eg45, va_up_ne _ _ (h1.ne 16 18)]; exact h42
            have h52 : g45 (ad 17) = some (.inl (dA 2, 61, .inl (upd ((s1.2 17)) (k + 1) 0))) := by rw [eg45, va_up_ne _ _ (h1.ne 17 18)]; exact h44
            have h53 : g45 (ad 18) = some (.inl (dA 2, 61, .inl (upd ((s1.2 18)) (k + 1) 0))) := by rw [eg45]; exact va_up_self _ _ _
            have hM : MRep dA ad g45 th now nb ni ed kn (goL s1.1 s1.2 (k + 1)) (goJ s1.2 (k + 1)) := by
              unfold goL goJ
              rw [hoN, if_neg (show ¬ s1.2 5 j = -1 from ex15 ▸ c16), if_neg (show ¬ s1.2 5 j = -1 from ex15 ▸ c16), eg45, eg36, eg27, eg17, eg6]
              subst ex5 ex15
              exact ((((h1.setL 15 _).setZ 16 _).setJ 14 _).setZ 17 _).setZ 18 _
            have hF2 : MFr ad g1 g45 := by
              rw [eg45, eg36, eg27, eg17, eg6]
              exact (MFr.up rfl).trans ((MFr.up rfl).trans ((MFr.up rfl).trans ((MFr.up rfl).trans (MFr.up rfl))))
            refine go_iinc X (j := 1) (v := nI (k + 1 + 1)) d_M_goOver_126 rfl (nI_1 (k + 1)) (by decide) rfl ?_
            refine go_goto X (tgt := 2) d_M_goOver_129 rfl ?_
            refine go_sub (lv' := [(1, .int (nI (k + 1 + 1))), (0, .ref (ad 0))]) [0, 2] rfl ?_
            exact ih (k + 1) _ (goL s1.1 s1.2 (k + 1), goJ s1.2 (k + 1)) (by omega) (by show _ = go1 now (goN now L J k).1 (goN now L J k).2 (k + 1); rw [← hs]; unfold go1; rw [if_neg c3, hoN, if_neg c4]) hM (hF.trans hF2)
          · refine go_iconst X (v := 1) d_M_goOver_85 (by decide) ?_
            refine go_goto X (tgt := 90) d_M_goOver_86 rfl ?_
            refine go_zast X 2 rfl d_M_goOver_90 h11 (vp_in_nI (by omega) (by decide)) ?_
            refine go_gen (fun g54 eg54 => ?_)
            have eg54 : g54 = va_up g6 (ad 16) (some (.inl (dA 2, 61, .inl (upd ((s1.2 16)) (k + 1) 1)))) := by rw [eg54, nI_clamp (show k + 1 < 2 ^ 31 by omega), show vp_nar .boolean (1 : Int32) = 1 from rfl]
            have h55 : g54 (ad 0) = some (.inr (4, [.int th, .long now, .int ((nI nb)), .ref (ad 3), .ref (ad 4), .ref (ad 5), .ref (ad 6), .ref (ad 7), .ref (ad 8), .ref (ad 9), .ref (ad 10), .int ((nI ni)), .ref (ad 12), .ref (ad 13), .ref (ad 14), .ref (ad 15), .ref (ad 16), .ref (ad 17), .ref (ad 18), .int ((nI ed)), .int kn, .ref (ad 21), .ref (ad 22), .ref (ad 23), .ref (ad 24)])) := by rw [eg54, va_up_ne _ _ (h1.ne 0 16)]; exact h7
            have h56 : g54 (ad 15) = some (.inl (dA 1, 61, .inr (.inl (vp_updL ((s1.1 15)) (k + 1) x5)))) := by rw [eg54, va_up_ne _ _ (h1.ne 15 16)]; exact h14
            have h57 : g54 (ad 3) = some (.inl (dA 1, 12, .inr (.inl ((s1.1 3))))) := by rw [eg54, va_up_ne _ _ (h1.ne 3 16)]; exact h8
            have h58 : g54 (ad 14) = some (.inl (dA 0, 61, .inl ((s1.2 14)))) := by rw [eg54, va_up_ne _ _ (h1.ne 14 16)]; exact h9
            have h59 : g54 (ad 5) = some (.inl (dA 0, 12, .inl ((s1.2 5)))) := by rw [eg54, va_up_ne _ _ (h1.ne 5 16)]; exact h10
            have h60 : g54 (ad 17) = some (.inl (dA 2, 61, .inl ((s1.2 17)))) := by rw [eg54, va_up_ne _ _ (h1.ne 17 16)]; exact h12
            have h61 : g54 (ad 18) = some (.inl (dA 2, 61, .inl ((s1.2 18)))) := by rw [eg54, va_up_ne _ _ (h1.ne 18 16)]; exact h13
            have h62 : g54 (ad 16) = some (.inl (dA 2, 61, .inl (upd ((s1.2 16)) (k + 1) 1))) := by rw [eg54]; exact va_up_self _ _ _
            refine go_aload_n X (z := 2) d_M_goOver_91 rfl rfl ?_
            refine go_get X u_M rfl 14 (by decide) gm_fl_M_42 rfl d_M_goOver_92 h55 rfl ?_
            refine go_iload_n X (z := 1) d_M_goOver_95 rfl rfl ?_
            refine go_iload_n X (z := 0) d_M_goOver_96 rfl rfl ?_
            refine go_iconst X (v := (-1)) d_M_goOver_97 (by decide) ?_
            refine go_icmp_ne X (tgt := 110) d_M_goOver_98 rfl (fun c63 => absurd c16 c63) (fun c63 => ?_)
            refine go_aload_n X (z := 2) d_M_goOver_101 rfl rfl ?_
            refine go_get X u_M rfl 14 (by decide) gm_fl_M_42 rfl d_M_goOver_102 h55 rfl ?_
            refine go_iload_n X (z := 1) d_M_goOver_105 rfl rfl ?_
            refine go_iald X 0 rfl d_M_goOver_106 h58 (vp_in_nI (by omega) (by decide)) ?_
            rw [nI_clamp (show (k + 1) < 2 ^ 31 by omega)]
            refine go_goto X (tgt := 111) d_M_goOver_107 rfl ?_
            refine go_topi (fun x64 ex64 => ?_)
            refine go_iast X 0 rfl d_M_goOver_111 h58 (vp_in_nI (by omega) (by decide)) ?_
            refine go_gen (fun g65 eg65 => ?_)
            have eg65 : g65 = va_up g54 (ad 14) (some (.inl (dA 0, 61, .inl (upd ((s1.2 14)) (k + 1) x64)))) := by rw [eg65, nI_clamp (show k + 1 < 2 ^ 31 by omega)]
            have h66 : g65 (ad 0) = some (.inr (4, [.int th, .long now, .int ((nI nb)), .ref (ad 3), .ref (ad 4), .ref (ad 5), .ref (ad 6), .ref (ad 7), .ref (ad 8), .ref (ad 9), .ref (ad 10), .int ((nI ni)), .ref (ad 12), .ref (ad 13), .ref (ad 14), .ref (ad 15), .ref (ad 16), .ref (ad 17), .ref (ad 18), .int ((nI ed)), .int kn, .ref (ad 21), .ref (ad 22), .ref (ad 23), .ref (ad 24)])) := by rw [eg65, va_up_ne _ _ (h1.ne 0 14)]; exact h55
            have h67 : g65 (ad 15) = some (.inl (dA 1, 61, .inr (.inl (vp_updL ((s1.1 15)) (k + 1) x5)))) := by rw [eg65, va_up_ne _ _ (h1.ne 15 14)]; exact h56
            have h68 : g65 (ad 3) = some (.inl (dA 1, 12, .inr (.inl ((s1.1 3))))) := by rw [eg65, va_up_ne _ _ (h1.ne 3 14)]; exact h57
            have h69 : g65 (ad 5) = some (.inl (dA 0, 12, .inl ((s1.2 5)))) := by rw [eg65, va_up_ne _ _ (h1.ne 5 14)]; exact h59
            have h70 : g65 (ad 16) = some (.inl (dA 2, 61, .inl (upd ((s1.2 16)) (k + 1) 1))) := by rw [eg65, va_up_ne _ _ (h1.ne 16 14)]; exact h62
            have h71 : g65 (ad 17) = some (.inl (dA 2, 61, .inl ((s1.2 17)))) := by rw [eg65, va_up_ne _ _ (h1.ne 17 14)]; exact h60
            have h72 : g65 (ad 18) = some (.inl (dA 2, 61, .inl ((s1.2 18)))) := by rw [eg65, va_up_ne _ _ (h1.ne 18 14)]; exact h61
            have h73 : g65 (ad 14) = some (.inl (dA 0, 61, .inl (upd ((s1.2 14)) (k + 1) x64))) := by rw [eg65]; exact va_up_self _ _ _
            refine go_aload_n X (z := 2) d_M_goOver_112 rfl rfl ?_
            refine go_get X u_M rfl 17 (by decide) gm_fl_M_51 rfl d_M_goOver_113 h66 rfl ?_
            refine go_iload_n X (z := 1) d_M_goOver_116 rfl rfl ?_
            refine go_iconst X (v := 0) d_M_goOver_117 (by decide) ?_
            refine go_zast X 2 rfl d_M_goOver_118 h71 (vp_in_nI (by omega) (by decide)) ?_
            refine go_gen (fun g74 eg74 => ?_)
            have eg74 : g74 = va_up g65 (ad 17) (some (.inl (dA 2, 61, .inl (upd ((s1.2 17)) (k + 1) 0)))) := by rw [eg74, nI_clamp (show k + 1 < 2 ^ 31 by omega), show vp_nar .boolean (0 : Int32) = 0 from rfl]
            have h75 : g74 (ad 0) = some (.inr (4, [.int th, .long now, .int ((nI nb)), .ref (ad 3), .ref (ad 4), .ref (ad 5), .ref (ad 6), .ref (ad 7), .ref (ad 8), .ref (ad 9), .ref (ad 10), .int ((nI ni)), .ref (ad 12), .ref (ad 13), .ref (ad 14), .ref (ad 15), .ref (ad 16), .ref (ad 17), .ref (ad 18), .int ((nI ed)), .int kn, .ref (ad 21), .ref (ad 22), .ref (ad 23), .ref (ad 24)])) := by rw [eg74, va_up_ne _ _ (h1.ne 0 17)]; exact h66
            have h76 : g74 (ad 15) = some (.inl (dA 1, 61, .inr (.inl (vp_updL ((s1.1 15)) (k + 1) x5)))) := by rw [eg74, va_up_ne _ _ (h1.ne 15 17)]; exact h67
            have h77 : g74 (ad 3) = some (.inl (dA 1, 12, .inr (.inl ((s1.1 3))))) := by rw [eg74, va_up_ne _ _ (h1.ne 3 17)]; exact h68
            have h78 : g74 (ad 14) = some (.inl (dA 0, 61, .inl (upd ((s1.2 14)) (k + 1) x64))) := by rw [eg74, va_up_ne _ _ (h1.ne 14 17)]; exact h73
            have h79 : g74 (ad 5) = some (.inl (dA 0, 12, .inl ((s1.2 5)))) := by rw [eg74, va_up_ne _ _ (h1.ne 5 17)]; exact h69
            have h80 : g74 (ad 16) = some (.inl (dA 2, 61, .inl (upd ((s1.2 16)) (k + 1) 1))) := by rw [eg74, va_up_ne _ _ (h1.ne 16 17)]; exact h70
            have h81 : g74 (ad 18) = some (.inl (dA 2, 61, .inl ((s1.2 18)))) := by rw [eg74, va_up_ne _ _ (h1.ne 18 17)]; exact h72
            have h82 : g74 (ad 17) = some (.inl (dA 2, 61, .inl (upd ((s1.2 17)) (k + 1) 0))) := by rw [eg74]; exact va_up_self _ _ _
            refine go_aload_n X (z := 2) d_M_goOver_119 rfl rfl ?_
            refine go_get X u_M rfl 18 (by decide) gm_fl_M_54 rfl d_M_goOver_120 h75 rfl ?_
            refine go_iload_n X (z := 1) d_M_goOver_123 rfl rfl ?_
            refine go_iconst X (v := 0) d_M_goOver_124 (by decide) ?_
            refine go_zast X 2 rfl d_M_goOver_125 h81 (vp_in_nI (by omega) (by decide)) ?_
            refine go_gen (fun g83 eg83 => ?_)
            have eg83 : g83 = va_up g74 (ad 18) (some (.inl (dA 2, 61, .inl (upd ((s1.2 18)) (k + 1) 0)))) := by rw [eg83, nI_clamp (show k + 1 < 2 ^ 31 by omega), show vp_nar .boolean (0 : Int32) = 0 from rfl]
            have h84 : g83 (ad 0) = some (.inr (4, [.int th, .long now, .int ((nI nb)), .ref (ad 3), .ref (ad 4), .ref (ad 5), .ref (ad 6), .ref (ad 7), .ref (ad 8), .ref (ad 9), .ref (ad 10), .int ((nI ni)), .ref (ad 12), .ref (ad 13), .ref (ad 14), .ref (ad 15), .ref (ad 16), .ref (ad 17), .ref (ad 18), .int ((nI ed)), .int kn, .ref (ad 21), .ref (ad 22), .ref (ad 23), .ref (ad 24)])) := by rw [eg83, va_up_ne _ _ (h1.ne 0 18)]; exact h75
            have h85 : g83 (ad 15) = some (.inl (dA 1, 61, .inr (.inl (vp_updL ((s1.1 15)) (k + 1) x5)))) := by rw [eg83, va_up_ne _ _ (h1.ne 15 18)]; exact h76
            have h86 : g83 (ad 3) = some (.inl (dA 1, 12, .inr (.inl ((s1.1 3))))) := by rw [eg83, va_up_ne _ _ (h1.ne 3 18)]; exact h77
            have h87 : g83 (ad 14) = some (.inl (dA 0, 61, .inl (upd ((s1.2 14)) (k + 1) x64))) := by rw [eg83, va_up_ne _ _ (h1.ne 14 18)]; exact h78
            have h88 : g83 (ad 5) = some (.inl (dA 0, 12, .inl ((s1.2 5)))) := by rw [eg83, va_up_ne _ _ (h1.ne 5 18)]; exact h79
            have h89 : g83 (ad 16) = some (.inl (dA 2, 61, .inl (upd ((s1.2 16)) (k + 1) 1))) := by rw [eg83, va_up_ne _ _ (h1.ne 16 18)]; exact h80
            have h90 : g83 (ad 17) = some (.inl (dA 2, 61, .inl (upd ((s1.2 17)) (k + 1) 0))) := by rw [eg83, va_up_ne _ _ (h1.ne 17 18)]; exact h82
            have h91 : g83 (ad 18) = some (.inl (dA 2, 61, .inl (upd ((s1.2 18)) (k + 1) 0))) := by rw [eg83]; exact va_up_self _ _ _
            have hM : MRep dA ad g83 th now nb ni ed kn (goL s1.1 s1.2 (k + 1)) (goJ s1.2 (k + 1)) := by
              unfold goL goJ
              rw [hoN, if_pos (show s1.2 5 j = -1 from ex15 ▸ c16), if_pos (show s1.2 5 j = -1 from ex15 ▸ c16), eg83, eg74, eg65, eg54, eg6]
              subst ex5 ex15 ex64
              exact ((((h1.setL 15 _).setZ 16 _).setJ 14 _).setZ 17 _).setZ 18 _
            have hF2 : MFr ad g1 g83 := by
              rw [eg83, eg74, eg65, eg54, eg6]
              exact (MFr.up rfl).trans ((MFr.up rfl).trans ((MFr.up rfl).trans ((MFr.up rfl).trans (MFr.up rfl))))
            refine go_iinc X (j := 1) (v := nI (k + 1 + 1)) d_M_goOver_126 rfl (nI_1 (k + 1)) (by decide) rfl ?_
            refine go_goto X (tgt := 2) d_M_goOver_129 rfl ?_
            refine go_sub (lv' := [(1, .int (nI (k + 1 + 1))), (0, .ref (ad 0))]) [0, 2] rfl ?_
            exact ih (k + 1) _ (goL s1.1 s1.2 (k + 1), goJ s1.2 (k + 1)) (by omega) (by show _ = go1 now (goN now L J k).1 (goN now L J k).2 (k + 1); rw [← hs]; unfold go1; rw [if_neg c3, hoN, if_neg c4]) hM (hF.trans hF2)
  refine go_iconst X (v := 1) d_M_goOver_0 (by decide) ?_
  refine go_istore_n X (lv' := [(1, .int (nI (0 + 1))), (0, .ref (ad 0))]) d_M_goOver_1 rfl (by decide) rfl ?_
  exact loop ni 0 g (L, J) (Nat.zero_add _) rfl h MFr.rfl'
end M2
