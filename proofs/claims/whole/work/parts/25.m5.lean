/-! The reference: place, belt, feed, the constructor. -/
section M5
variable {ad : Nat → Nat} {th : Int32} {now : Int64} {nb ni ed : Nat} {kn : Int32} {L : LA} {J : JA}
set_option maxHeartbeats 4000000 in
set_option maxRecDepth 100000 in
theorem c_M_place {l : Launch} {D : va_G} {dA : Nat → ClassId} {g : Nat → Option va_E}  (h : MRep dA ad g th now nb ni ed kn L J) (hW : MWf nb ni J) (x : Int32) (t : Int64) : CtL l D classes (tyL dA) y_M_place b_M_place 9 (some .long) rm_M_place [.ref (ad 0), .int x, .long t] g (fun r g' => (MRep dA ad g' 0 now nb ni ed kn L J ∧ MFr ad g g') ∧ (((∀ k, k < ni → x ≠ nI (k + 1)) ∧ r = -11) ∨ (∃ k, k < ni ∧ x = nI (k + 1) ∧ ((inF t now 1000000 = 0 ∧ r = -12) ∨ (¬ inF t now 1000000 = 0 ∧ r = placeM now L J (k + 1) t))))) := by
  refine CtL.of (by decide) (Nat.le_of_ble_eq_true rfl) ?_
  intro p e s m below meth c X hr hlk hnm
  have hnb := hW.1
  have hni := hW.2.1
  refine go_aload_n X (z := 0) d_M_place_0 rfl rfl ?_
  refine go_iconst X (v := 0) d_M_place_1 (by decide) ?_
  refine go_put X u_M rfl 0 (by decide) gm_fl_M_69 rfl t_M t_M_ok n_M rfl rfl rfl d_M_place_2 h.this (Nat.le_of_ble_eq_true rfl) ?_
  refine go_gen (fun g1 e1 => ?_)
  have h1 : MRep dA ad g1 0 now nb ni ed kn L J := by rw [e1]; exact h.set0
  have hF1 : MFr ad g g1 := by rw [e1]; exact MFr.up rfl
  refine go_aload_n X (z := 0) d_M_place_5 rfl rfl ?_
  refine go_iload_n X (z := 1) d_M_place_6 rfl rfl ?_
  refine go_callI_V X (As := [.int x]) (rest := []) (c_M_isItem h1 x) gm_ml_M_145 cw_M_isItem ⟨by decide, by decide⟩ rfl h1.this rfl rfl (Nat.le_of_ble_eq_true rfl) d_M_place_7 ⟨by decide, by decide⟩ (fun ru1 gu1 hu1 => ?_)
  obtain ⟨rfl, rfl⟩ := hu1
  refine go_if_ne X (tgt := 17) d_M_place_10 rfl (fun c2 => ?_) (fun c2 => ?_)
  · obtain ⟨k, hk, rfl⟩ := isIF_1 c2 (by have := hW.2.1; omega)
    refine go_aload_n X (z := 0) d_M_place_17 rfl rfl ?_
    refine go_lload_n X (z := 2) d_M_place_18 rfl rfl ?_
    refine go_callI_V X (As := [.long t]) (rest := []) (c_M_isTime h1 t) gm_ml_M_99 cw_M_isTime ⟨by decide, by decide⟩ rfl h1.this rfl rfl (Nat.le_of_ble_eq_true rfl) d_M_place_19 ⟨by decide, by decide⟩ (fun ru3 gu3 hu3 => ?_)
    obtain ⟨rfl, rfl⟩ := hu3
    refine go_if_ne X (tgt := 29) d_M_place_22 rfl (fun c4 => ?_) (fun c4 => ?_)
    · refine go_aload_n X (z := 0) d_M_place_29 rfl rfl ?_
      refine go_get X u_M rfl 16 (by decide) gm_fl_M_48 rfl d_M_place_30 h1.this rfl ?_
      refine go_iload_n X (z := 1) d_M_place_33 rfl rfl ?_
      refine go_zald X 2 rfl d_M_place_34 h1.a16 (vp_in_nI (by omega) (by decide)) ?_
      rw [nI_clamp (show (k + 1) < 2 ^ 31 by omega)]
      refine go_if_eq X (tgt := 42) d_M_place_35 rfl (fun c5 => ?_) (fun c5 => ?_)
      · refine go_aload_n X (z := 0) d_M_place_42 rfl rfl ?_
        refine go_get X u_M rfl 13 (by decide) gm_fl_M_39 rfl d_M_place_43 h1.this rfl ?_
        refine go_iload_n X (z := 1) d_M_place_46 rfl rfl ?_
        refine go_lald X 1 rfl d_M_place_47 h1.a13 (vp_in_nI (by omega) (by decide)) ?_
        rw [nI_clamp (show (k + 1) < 2 ^ 31 by omega)]
        refine go_lload_n X (z := 2) d_M_place_48 rfl rfl ?_
        refine go_lif_le X (tgt := 57) d_M_place_49 d_M_place_50 rfl (fun c6 => ?_) (fun c6 => ?_)
        · refine go_aload_n X (z := 0) d_M_place_57 rfl rfl ?_
          refine go_get X u_M rfl 14 (by decide) gm_fl_M_42 rfl d_M_place_58 h1.this rfl ?_
          refine go_iload_n X (z := 1) d_M_place_61 rfl rfl ?_
          refine go_iald X 0 rfl d_M_place_62 h1.a14 (vp_in_nI (by omega) (by decide)) ?_
          rw [nI_clamp (show (k + 1) < 2 ^ 31 by omega)]
          refine go_topi (fun x7 ex7 => ?_)
          refine go_istore X (lv' := [(4, .int x7), (0, .ref (ad 0)), (1, .int ((nI (k + 1)))), (2, .long t)]) d_M_place_63 (by decide) rfl ?_
          refine go_aload_n X (z := 1) d_M_place_65 rfl rfl ?_
          refine go_get X u_M rfl 15 (by decide) gm_fl_M_45 rfl d_M_place_66 h1.this rfl ?_
          refine go_iload_n X (z := 2) d_M_place_69 rfl rfl ?_
          refine go_lald X 1 rfl d_M_place_70 h1.a15 (vp_in_nI (by omega) (by decide)) ?_
          rw [nI_clamp (show (k + 1) < 2 ^ 31 by omega)]
          refine go_topl (fun x8 ex8 => ?_)
          refine go_lstore X (lv' := [(5, .long x8), (4, .int x7), (0, .ref (ad 0)), (1, .int ((nI (k + 1)))), (2, .long t)]) d_M_place_71 (by decide) rfl ?_
          refine go_aload_n X (z := 2) d_M_place_73 rfl rfl ?_
          refine go_get X u_M rfl 13 (by decide) gm_fl_M_39 rfl d_M_place_74 h1.this rfl ?_
          refine go_iload_n X (z := 3) d_M_place_77 rfl rfl ?_
          refine go_lald X 1 rfl d_M_place_78 h1.a13 (vp_in_nI (by omega) (by decide)) ?_
          rw [nI_clamp (show (k + 1) < 2 ^ 31 by omega)]
          refine go_aload_n X (z := 2) d_M_place_79 rfl rfl ?_
          refine go_get X u_M rfl 1 (by decide) gm_fl_M_79 rfl d_M_place_80 h1.this rfl ?_
          refine go_lif_le X (tgt := 96) d_M_place_83 d_M_place_84 rfl (fun c9 => ?_) (fun c9 => ?_)
          · refine go_aload_n X (z := 2) d_M_place_96 rfl rfl ?_
            refine go_get X u_M rfl 1 (by decide) gm_fl_M_79 rfl d_M_place_97 h1.this rfl ?_
            refine go_lstore X (lv' := [(7, .long now), (5, .long x8), (4, .int x7), (0, .ref (ad 0)), (1, .int ((nI (k + 1)))), (2, .long t)]) d_M_place_100 (by decide) rfl ?_
            have hT : ¬ inF t now 1000000 = 0 := c4
            have loop : ∀ (f j : Nat) (p0 m1 : Int64), (t.toInt - m1.toInt).toNat = f → j < nb → placeM now L J (k + 1) t = plN L J f j p0 m1 → Go p l e rm_M_place s m [.ref (ad 0), .int ((nI (k + 1))), .long t].toArray below meth c D classes (gA g s.heap.size) 9 (MQ below (va_Ql (fun r g' => (MRep dA ad g' 0 now nb ni ed kn L J ∧ MFr ad g g') ∧ (((∀ k_1, k_1 < ni → nI (k + 1) ≠ nI (k_1 + 1)) ∧ r = -11) ∨ (∃ k_1, k_1 < ni ∧ nI (k + 1) = nI (k_1 + 1) ∧ ((inF t now 1000000 = 0 ∧ r = -12) ∨ (¬ inF t now 1000000 = 0 ∧ r = placeM now L J (k_1 + 1) t))))) (fun (g' : Nat → Option va_E) (t : State) => PW D classes (gA g s.heap.size) g' t.heap) (gA g s.heap.size)) [.ref (ad 0), .int ((nI (k + 1))), .long t].toArray s 0 0 (gA g s.heap.size)) g1 0 0 102 [(7, .long m1), (5, .long p0), (4, .int ((nI j))), (0, .ref (ad 0)), (1, .int ((nI (k + 1)))), (2, .long t)] [] := by
              intro f
              induction f with
              | zero =>
                intro j p0 m1 hf hj hp
                have hle : t ≤ m1 := Int64.le_iff_toInt_le.mpr (by omega)
                refine go_lload X (z := 0) d_M_place_102 rfl ?_
                refine go_lload_n X (z := 5) d_M_place_104 rfl rfl ?_
                refine go_lif_ge X (tgt := 175) d_M_place_105 d_M_place_106 rfl (fun _ => ?_) (fun c => absurd hle c)
                refine go_ldc2 X d_M_place_175 gm_k_M_148 ?_
                refine go_iload X (z := 2) d_M_place_178 rfl ?_
                refine go_i2l X d_M_place_180 rfl ?_
                refine go_lmul X d_M_place_181 ?_
                refine go_lload X (z := 1) d_M_place_182 rfl ?_
                refine go_ladd X d_M_place_184 ?_
                exact go_retL X hr hlk d_M_place_185 ⟨⟨h1, hF1⟩, Or.inr ⟨k, hk, rfl, Or.inr ⟨hT, hp.symm⟩⟩⟩
              | succ f ih =>
                intro j p0 m1 hf hj hp
                have hlt : m1.toInt < t.toInt := by omega
                have hlt2 : ¬ t ≤ m1 := fun q => by have := Int64.le_iff_toInt_le.mp q; omega
                refine go_lload X (z := 0) d_M_place_102 rfl ?_
                refine go_lload_n X (z := 5) d_M_place_104 rfl rfl ?_
                refine go_lif_ge X (tgt := 175) d_M_place_105 d_M_place_106 rfl (fun c => absurd c hlt2) (fun _ => ?_)
                refine go_lload X (z := 1) d_M_place_109 rfl ?_
                refine go_aload_n X (z := 3) d_M_place_111 rfl rfl ?_
                refine go_iload X (z := 2) d_M_place_112 rfl ?_
                refine go_lload X (z := 0) d_M_place_114 rfl ?_
                refine go_callL_V X (As := [.int ((nI j)), .long m1]) (rest := [.long p0]) (c_M_rateAt h1 (b := j) (by omega) m1) gm_ml_M_128 cw_M_rateAt ⟨by decide, by decide⟩ rfl h1.this rfl rfl (Nat.le_of_ble_eq_true rfl) d_M_place_116 ⟨by decide, by decide⟩ (fun ru901 gu901 hu901 => ?_)
                obtain ⟨rfl, rfl⟩ := hu901
                refine go_ladd X d_M_place_119 ?_
                refine go_topl (fun x902 ex902 => ?_)
                refine go_lstore X (lv' := [(5, .long x902), (7, .long m1), (4, .int ((nI j))), (0, .ref (ad 0)), (1, .int ((nI (k + 1)))), (2, .long t)]) d_M_place_120 (by decide) rfl ?_
                refine go_lload X (z := 0) d_M_place_122 rfl ?_
                refine go_aload_n X (z := 3) d_M_place_124 rfl rfl ?_
                refine go_get X u_M rfl 3 (by decide) gm_fl_M_7 rfl d_M_place_125 h1.this rfl ?_
                refine go_iload X (z := 2) d_M_place_128 rfl ?_
                refine go_lald X 1 rfl d_M_place_130 h1.a3 (vp_in_nI (by omega) (by decide)) ?_
                rw [nI_clamp (show j < 2 ^ 31 by omega)]
                refine go_lif_lt X (tgt := 166) d_M_place_131 d_M_place_132 rfl (fun c903 => ?_) (fun c903 => ?_)
                · refine go_lload X (z := 1) d_M_place_166 rfl ?_
                  refine go_lconst X (v := 1) d_M_place_168 (by decide) ?_
                  refine go_ladd X d_M_place_169 ?_
                  refine go_lstore X (lv' := [(7, .long ((m1 + 1))), (5, .long x902), (4, .int ((nI j))), (0, .ref (ad 0)), (1, .int ((nI (k + 1)))), (2, .long t)]) d_M_place_170 (by decide) rfl ?_
                  refine go_goto X (tgt := 102) d_M_place_172 rfl ?_
                  refine go_sub (lv' := [(7, .long (m1 + 1)), (5, .long x902), (4, .int (nI j)), (0, .ref (ad 0)), (1, .int (nI (k + 1))), (2, .long t)]) [0, 1, 2, 3, 4, 5] rfl ?_
                  have hns := i64_succ hlt
                  exact ih j x902 (m1 + 1) (by omega) hj (by rw [hp]; simp only [plN]; subst ex902; rw [if_pos c903])
                · refine go_lload X (z := 0) d_M_place_135 rfl ?_
                  refine go_aload_n X (z := 3) d_M_place_137 rfl rfl ?_
                  refine go_get X u_M rfl 3 (by decide) gm_fl_M_7 rfl d_M_place_138 h1.this rfl ?_
                  refine go_iload X (z := 2) d_M_place_141 rfl ?_
                  refine go_lald X 1 rfl d_M_place_143 h1.a3 (vp_in_nI (by omega) (by decide)) ?_
                  rw [nI_clamp (show j < 2 ^ 31 by omega)]
                  refine go_lsub X d_M_place_144 ?_
                  refine go_topl (fun x904 ex904 => ?_)
                  refine go_lstore X (lv' := [(5, .long x904), (7, .long m1), (4, .int ((nI j))), (0, .ref (ad 0)), (1, .int ((nI (k + 1)))), (2, .long t)]) d_M_place_145 (by decide) rfl ?_
                  refine go_aload_n X (z := 3) d_M_place_147 rfl rfl ?_
                  refine go_get X u_M rfl 5 (by decide) gm_fl_M_16 rfl d_M_place_148 h1.this rfl ?_
                  refine go_iload X (z := 2) d_M_place_151 rfl ?_
                  refine go_iald X 0 rfl d_M_place_153 h1.a5 (vp_in_nI (by omega) (by decide)) ?_
                  rw [nI_clamp (show j < 2 ^ 31 by omega)]
                  refine go_topi (fun x905 ex905 => ?_)
                  refine go_istore X (lv' := [(4, .int x905), (5, .long x904), (7, .long m1), (0, .ref (ad 0)), (1, .int ((nI (k + 1)))), (2, .long t)]) d_M_place_154 (by decide) rfl ?_
                  refine go_iload X (z := 0) d_M_place_156 rfl ?_
                  refine go_iconst X (v := (-1)) d_M_place_158 (by decide) ?_
                  refine go_icmp_ne X (tgt := 166) d_M_place_159 rfl (fun c906 => ?_) (fun c906 => ?_)
                  · obtain ⟨j2, hj2, e52⟩ := (hW.2.2.2 j hj).resolve_left (fun z => c906 (ex905.trans z))
                    refine go_lload X (z := 2) d_M_place_166 rfl ?_
                    refine go_lconst X (v := 1) d_M_place_168 (by decide) ?_
                    refine go_ladd X d_M_place_169 ?_
                    refine go_lstore X (lv' := [(7, .long ((m1 + 1))), (4, .int x905), (5, .long x904), (0, .ref (ad 0)), (1, .int ((nI (k + 1)))), (2, .long t)]) d_M_place_170 (by decide) rfl ?_
                    refine go_goto X (tgt := 102) d_M_place_172 rfl ?_
                    refine go_sub (lv' := [(7, .long (m1 + 1)), (5, .long x904), (4, .int x905), (0, .ref (ad 0)), (1, .int (nI (k + 1))), (2, .long t)]) [0, 2, 1, 3, 4, 5] rfl ?_
                    rw [ex905, e52]
                    have hns := i64_succ hlt
                    exact ih j2 x904 (m1 + 1) (by omega) hj2 (by rw [hp]; simp only [plN]; subst ex902 ex904 ex905; rw [if_neg c903, if_neg c906, e52, nI_clamp (show j2 < 2 ^ 31 by omega)])
                  · refine go_ldc2 X d_M_place_162 gm_k_M_154 ?_
                    exact go_retL X hr hlk d_M_place_165 ⟨⟨h1, hF1⟩, Or.inr ⟨k, hk, rfl, Or.inr ⟨hT, by rw [hp]; simp only [plN]; subst ex902 ex904 ex905; rw [if_neg c903, if_pos c906]⟩⟩⟩
            obtain ⟨j, hj, ho⟩ := hW.2.2.1 (k + 1) (by omega) (by omega)
            have hoN : oN J (k + 1) = j := by unfold oN; rw [ho]; exact nI_clamp (by omega)
            refine go_sub (lv' := [(7, .long now), (5, .long x8), (4, .int x7), (0, .ref (ad 0)), (1, .int (nI (k + 1))), (2, .long t)]) [0, 1, 2, 3, 4, 5] rfl ?_
            rw [ex7, ho]
            exact loop _ j x8 now rfl hj (by unfold placeM; rw [if_pos c5, if_pos c6, if_pos c9, hoN, ex8])
          · refine go_aload_n X (z := 2) d_M_place_87 rfl rfl ?_
            refine go_get X u_M rfl 13 (by decide) gm_fl_M_39 rfl d_M_place_88 h1.this rfl ?_
            refine go_iload_n X (z := 3) d_M_place_91 rfl rfl ?_
            refine go_lald X 1 rfl d_M_place_92 h1.a13 (vp_in_nI (by omega) (by decide)) ?_
            rw [nI_clamp (show (k + 1) < 2 ^ 31 by omega)]
            refine go_goto X (tgt := 100) d_M_place_93 rfl ?_
            refine go_topl (fun x10 ex10 => ?_)
            refine go_lstore X (lv' := [(7, .long x10), (5, .long x8), (4, .int x7), (0, .ref (ad 0)), (1, .int ((nI (k + 1)))), (2, .long t)]) d_M_place_100 (by decide) rfl ?_
            have hT : ¬ inF t now 1000000 = 0 := c4
            have loop : ∀ (f j : Nat) (p0 m1 : Int64), (t.toInt - m1.toInt).toNat = f → j < nb → placeM now L J (k + 1) t = plN L J f j p0 m1 → Go p l e rm_M_place s m [.ref (ad 0), .int ((nI (k + 1))), .long t].toArray below meth c D classes (gA g s.heap.size) 9 (MQ below (va_Ql (fun r g' => (MRep dA ad g' 0 now nb ni ed kn L J ∧ MFr ad g g') ∧ (((∀ k_1, k_1 < ni → nI (k + 1) ≠ nI (k_1 + 1)) ∧ r = -11) ∨ (∃ k_1, k_1 < ni ∧ nI (k + 1) = nI (k_1 + 1) ∧ ((inF t now 1000000 = 0 ∧ r = -12) ∨ (¬ inF t now 1000000 = 0 ∧ r = placeM now L J (k_1 + 1) t))))) (fun (g' : Nat → Option va_E) (t : State) => PW D classes (gA g s.heap.size) g' t.heap) (gA g s.heap.size)) [.ref (ad 0), .int ((nI (k + 1))), .long t].toArray s 0 0 (gA g s.heap.size)) g1 0 0 102 [(7, .long m1), (5, .long p0), (4, .int ((nI j))), (0, .ref (ad 0)), (1, .int ((nI (k + 1)))), (2, .long t)] [] := by
              intro f
              induction f with
              | zero =>
                intro j p0 m1 hf hj hp
                have hle : t ≤ m1 := Int64.le_iff_toInt_le.mpr (by omega)
                refine go_lload X (z := 0) d_M_place_102 rfl ?_
                refine go_lload_n X (z := 5) d_M_place_104 rfl rfl ?_
                refine go_lif_ge X (tgt := 175) d_M_place_105 d_M_place_106 rfl (fun _ => ?_) (fun c => absurd hle c)
                refine go_ldc2 X d_M_place_175 gm_k_M_148 ?_
                refine go_iload X (z := 2) d_M_place_178 rfl ?_
                refine go_i2l X d_M_place_180 rfl ?_
                refine go_lmul X d_M_place_181 ?_
                refine go_lload X (z := 1) d_M_place_182 rfl ?_
                refine go_ladd X d_M_place_184 ?_
                exact go_retL X hr hlk d_M_place_185 ⟨⟨h1, hF1⟩, Or.inr ⟨k, hk, rfl, Or.inr ⟨hT, hp.symm⟩⟩⟩
              | succ f ih =>
                intro j p0 m1 hf hj hp
                have hlt : m1.toInt < t.toInt := by omega
                have hlt2 : ¬ t ≤ m1 := fun q => by have := Int64.le_iff_toInt_le.mp q; omega
                refine go_lload X (z := 0) d_M_place_102 rfl ?_
                refine go_lload_n X (z := 5) d_M_place_104 rfl rfl ?_
                refine go_lif_ge X (tgt := 175) d_M_place_105 d_M_place_106 rfl (fun c => absurd c hlt2) (fun _ => ?_)
                refine go_lload X (z := 1) d_M_place_109 rfl ?_
                refine go_aload_n X (z := 3) d_M_place_111 rfl rfl ?_
                refine go_iload X (z := 2) d_M_place_112 rfl ?_
                refine go_lload X (z := 0) d_M_place_114 rfl ?_
                refine go_callL_V X (As := [.int ((nI j)), .long m1]) (rest := [.long p0]) (c_M_rateAt h1 (b := j) (by omega) m1) gm_ml_M_128 cw_M_rateAt ⟨by decide, by decide⟩ rfl h1.this rfl rfl (Nat.le_of_ble_eq_true rfl) d_M_place_116 ⟨by decide, by decide⟩ (fun ru901 gu901 hu901 => ?_)
                obtain ⟨rfl, rfl⟩ := hu901
                refine go_ladd X d_M_place_119 ?_
                refine go_topl (fun x902 ex902 => ?_)
                refine go_lstore X (lv' := [(5, .long x902), (7, .long m1), (4, .int ((nI j))), (0, .ref (ad 0)), (1, .int ((nI (k + 1)))), (2, .long t)]) d_M_place_120 (by decide) rfl ?_
                refine go_lload X (z := 0) d_M_place_122 rfl ?_
                refine go_aload_n X (z := 3) d_M_place_124 rfl rfl ?_
                refine go_get X u_M rfl 3 (by decide) gm_fl_M_7 rfl d_M_place_125 h1.this rfl ?_
                refine go_iload X (z := 2) d_M_place_128 rfl ?_
                refine go_lald X 1 rfl d_M_place_130 h1.a3 (vp_in_nI (by omega) (by decide)) ?_
                rw [nI_clamp (show j < 2 ^ 31 by omega)]
                refine go_lif_lt X (tgt := 166) d_M_place_131 d_M_place_132 rfl (fun c903 => ?_) (fun c903 => ?_)
                · refine go_lload X (z := 1) d_M_place_166 rfl ?_
                  refine go_lconst X (v := 1) d_M_place_168 (by decide) ?_
                  refine go_ladd X d_M_place_169 ?_
                  refine go_lstore X (lv' := [(7, .long ((m1 + 1))), (5, .long x902), (4, .int ((nI j))), (0, .ref (ad 0)), (1, .int ((nI (k + 1)))), (2, .long t)]) d_M_place_170 (by decide) rfl ?_
                  refine go_goto X (tgt := 102) d_M_place_172 rfl ?_
                  refine go_sub (lv' := [(7, .long (m1 + 1)), (5, .long x902), (4, .int (nI j)), (0, .ref (ad 0)), (1, .int (nI (k + 1))), (2, .long t)]) [0, 1, 2, 3, 4, 5] rfl ?_
                  have hns := i64_succ hlt
                  exact ih j x902 (m1 + 1) (by omega) hj (by rw [hp]; simp only [plN]; subst ex902; rw [if_pos c903])
                · refine go_lload X (z := 0) d_M_place_135 rfl ?_
                  refine go_aload_n X (z := 3) d_M_place_137 rfl rfl ?_
                  refine go_get X u_M rfl 3 (by decide) gm_fl_M_7 rfl d_M_place_138 h1.this rfl ?_
                  refine go_iload X (z := 2) d_M_place_141 rfl ?_
                  refine go_lald X 1 rfl d_M_place_143 h1.a3 (vp_in_nI (by omega) (by decide)) ?_
                  rw [nI_clamp (show j < 2 ^ 31 by omega)]
                  refine go_lsub X d_M_place_144 ?_
                  refine go_topl (fun x904 ex904 => ?_)
                  refine go_lstore X (lv' := [(5, .long x904), (7, .long m1), (4, .int ((nI j))), (0, .ref (ad 0)), (1, .int ((nI (k + 1)))), (2, .long t)]) d_M_place_145 (by decide) rfl ?_
                  refine go_aload_n X (z := 3) d_M_place_147 rfl rfl ?_
                  refine go_get X u_M rfl 5 (by decide) gm_fl_M_16 rfl d_M_place_148 h1.this rfl ?_
                  refine go_iload X (z := 2) d_M_place_151 rfl ?_
                  refine go_iald X 0 rfl d_M_place_153 h1.a5 (vp_in_nI (by omega) (by decide)) ?_
                  rw [nI_clamp (show j < 2 ^ 31 by omega)]
                  refine go_topi (fun x905 ex905 => ?_)
                  refine go_istore X (lv' := [(4, .int x905), (5, .long x904), (7, .long m1), (0, .ref (ad 0)), (1, .int ((nI (k + 1)))), (2, .long t)]) d_M_place_154 (by decide) rfl ?_
                  refine go_iload X (z := 0) d_M_place_156 rfl ?_
                  refine go_iconst X (v := (-1)) d_M_place_158 (by decide) ?_
                  refine go_icmp_ne X (tgt := 166) d_M_place_159 rfl (fun c906 => ?_) (fun c906 => ?_)
                  · obtain ⟨j2, hj2, e52⟩ := (hW.2.2.2 j hj).resolve_left (fun z => c906 (ex905.trans z))
                    refine go_lload X (z := 2) d_M_place_166 rfl ?_
                    refine go_lconst X (v := 1) d_M_place_168 (by decide) ?_
                    refine go_ladd X d_M_place_169 ?_
                    refine go_lstore X (lv' := [(7, .long ((m1 + 1))), (4, .int x905), (5, .long x904), (0, .ref (ad 0)), (1, .int ((nI (k + 1)))), (2, .long t)]) d_M_place_170 (by decide) rfl ?_
                    refine go_goto X (tgt := 102) d_M_place_172 rfl ?_
                    refine go_sub (lv' := [(7, .long (m1 + 1)), (5, .long x904), (4, .int x905), (0, .ref (ad 0)), (1, .int (nI (k + 1))), (2, .long t)]) [0, 2, 1, 3, 4, 5] rfl ?_
                    rw [ex905, e52]
                    have hns := i64_succ hlt
                    exact ih j2 x904 (m1 + 1) (by omega) hj2 (by rw [hp]; simp only [plN]; subst ex902 ex904 ex905; rw [if_neg c903, if_neg c906, e52, nI_clamp (show j2 < 2 ^ 31 by omega)])
                  · refine go_ldc2 X d_M_place_162 gm_k_M_154 ?_
                    exact go_retL X hr hlk d_M_place_165 ⟨⟨h1, hF1⟩, Or.inr ⟨k, hk, rfl, Or.inr ⟨hT, by rw [hp]; simp only [plN]; subst ex902 ex904 ex905; rw [if_neg c903, if_pos c906]⟩⟩⟩
            obtain ⟨j, hj, ho⟩ := hW.2.2.1 (k + 1) (by omega) (by omega)
            have hoN : oN J (k + 1) = j := by unfold oN; rw [ho]; exact nI_clamp (by omega)
            refine go_sub (lv' := [(7, .long x10), (5, .long x8), (4, .int x7), (0, .ref (ad 0)), (1, .int (nI (k + 1))), (2, .long t)]) [0, 1, 2, 3, 4, 5] rfl ?_
            rw [ex7, ho]
            exact loop _ j x8 x10 rfl hj (by unfold placeM; rw [if_pos c5, if_pos c6, if_neg c9, hoN, ex10, ex8])
        · refine go_ldc2 X d_M_place_53 gm_k_M_156 ?_
          exact go_retL X hr hlk d_M_place_56 ⟨⟨h1, hF1⟩, Or.inr ⟨k, hk, rfl, Or.inr ⟨c4, by unfold placeM; rw [if_pos c5, if_neg c6]⟩⟩⟩
      · refine go_ldc2 X d_M_place_38 gm_k_M_154 ?_
        exact go_retL X hr hlk d_M_place_41 ⟨⟨h1, hF1⟩, Or.inr ⟨k, hk, rfl, Or.inr ⟨c4, by unfold placeM; rw [if_neg c5]⟩⟩⟩
    · refine go_ldc2 X d_M_place_25 gm_k_M_152 ?_
      exact go_retL X hr hlk d_M_place_28 ⟨⟨h1, hF1⟩, Or.inr ⟨k, hk, rfl, Or.inl ⟨c4, rfl⟩⟩⟩
  · refine go_ldc2 X d_M_place_13 gm_k_M_150 ?_
    exact go_retL X hr hlk d_M_place_16 ⟨⟨h1, hF1⟩, Or.inl ⟨isIF_0 c2 (by have := hW.2.1; omega), rfl⟩⟩
set_option maxHeartbeats 4000000 in
set_option maxRecDepth 100000 in
theorem c_M_belt {l : Launch} {D : va_G} {dA : Nat → ClassId} {g : Nat → Option va_E}  (h : MRep dA ad g th now nb ni ed kn L J) (hW : MWf nb ni J) (len spd : Int64) : CtI l D classes (tyL dA) y_M_belt b_M_belt 5 (some .int) rm_M_belt [.ref (ad 0), .long len, .long spd] g (fun r g' => ((MRep dA ad g' 0 now nb ni ed kn L J ∧ MFr ad g g') ∧ (inF len 100000 100000000 = 0 ∨ inF spd 1 5000 = 0) ∧ r = -12) ∨ (¬ inF len 100000 100000000 = 0 ∧ ¬ inF spd 1 5000 = 0 ∧ (((MRep dA ad g' 0 now nb ni ed kn L J ∧ MFr ad g g') ∧ nI nb = 12 ∧ r = -14) ∨ (¬ nI nb = 12 ∧ r = nI nb ∧ MRep dA ad g' 0 now (nb + 1) ni ed kn (va_up (va_up L 3 (vp_updL (L 3) nb len)) 4 (vp_updL (L 4) nb spd)) (va_up (va_up (va_up J 5 (upd (J 5) nb (-1))) 7 (upd (J 7) nb 1)) 8 (upd (J 8) nb 8)) ∧ MFr ad g g')))) := by
  refine CtI.of (by decide) (Nat.le_of_ble_eq_true rfl) ?_
  intro p e s m below meth c X hr hlk hnm
  have hnb := hW.1
  have hni := hW.2.1
  refine go_aload_n X (z := 0) d_M_belt_0 rfl rfl ?_
  refine go_iconst X (v := 0) d_M_belt_1 (by decide) ?_
  refine go_put X u_M rfl 0 (by decide) gm_fl_M_69 rfl t_M t_M_ok n_M rfl rfl rfl d_M_belt_2 h.this (Nat.le_of_ble_eq_true rfl) ?_
  refine go_gen (fun g1 e1 => ?_)
  have h1 : MRep dA ad g1 0 now nb ni ed kn L J := by rw [e1]; exact h.set0
  have hF1 : MFr ad g g1 := by rw [e1]; exact MFr.up rfl
  refine go_lload_n X (z := 1) d_M_belt_5 rfl rfl ?_
  refine go_ldc2 X d_M_belt_6 gm_k_M_89 ?_
  refine go_ldc2 X d_M_belt_9 gm_k_M_91 ?_
  refine go_callI_S X (As := [.long len, .long 100000, .long 100000000]) (rest := []) (c_M_in len 100000 100000000) gm_ml_M_85 cw_M_in ⟨by decide, by decide⟩ rfl rfl (Nat.le_of_ble_eq_true rfl) d_M_belt_12 ⟨by decide, by decide⟩ (fun ru1 gu1 hu1 => ?_)
  obtain ⟨rfl, rfl⟩ := hu1
  refine go_if_eq X (tgt := 29) d_M_belt_15 rfl (fun c2 => ?_) (fun c2 => ?_)
  · refine go_bipush X (v := (-12)) d_M_belt_29 (by decide) ?_
    exact go_retI X hr hlk d_M_belt_31 (Or.inl ⟨⟨h1, hF1⟩, Or.inl c2, rfl⟩)
  · refine go_lload_n X (z := 2) d_M_belt_18 rfl rfl ?_
    refine go_lconst X (v := 1) d_M_belt_19 (by decide) ?_
    refine go_ldc2 X d_M_belt_20 gm_k_M_93 ?_
    refine go_callI_S X (As := [.long spd, .long 1, .long 5000]) (rest := []) (c_M_in spd 1 5000) gm_ml_M_85 cw_M_in ⟨by decide, by decide⟩ rfl rfl (Nat.le_of_ble_eq_true rfl) d_M_belt_23 ⟨by decide, by decide⟩ (fun ru3 gu3 hu3 => ?_)
    obtain ⟨rfl, rfl⟩ := hu3
    refine go_if_ne X (tgt := 32) d_M_belt_26 rfl (fun c4 => ?_) (fun c4 => ?_)
    · refine go_aload_n X (z := 0) d_M_belt_32 rfl rfl ?_
      refine go_get X u_M rfl 2 (by decide) gm_fl_M_73 rfl d_M_belt_33 h1.this rfl ?_
      refine go_bipush X (v := 12) d_M_belt_36 (by decide) ?_
      refine go_icmp_ne X (tgt := 44) d_M_belt_38 rfl (fun c5 => ?_) (fun c5 => ?_)
      · have hnb2 : nb < 12 := by rcases Nat.lt_or_ge nb 12 with z | z; exact z; exact absurd (show nI nb = nI 12 by rw [show nb = 12 by omega]) c5
        refine go_aload_n X (z := 0) d_M_belt_44 rfl rfl ?_
        refine go_get X u_M rfl 3 (by decide) gm_fl_M_7 rfl d_M_belt_45 h1.this rfl ?_
        refine go_aload_n X (z := 0) d_M_belt_48 rfl rfl ?_
        refine go_get X u_M rfl 2 (by decide) gm_fl_M_73 rfl d_M_belt_49 h1.this rfl ?_
        refine go_lload_n X (z := 1) d_M_belt_52 rfl rfl ?_
        refine go_last X 1 rfl d_M_belt_53 h1.a3 (vp_in_nI hnb2 (by decide)) ?_
        refine go_gen (fun g6 eg6 => ?_)
        have eg6 : g6 = va_up g1 (ad 3) (some (.inl (dA 1, 12, .inr (.inl (vp_updL ((L 3)) nb len))))) := by rw [eg6, nI_clamp (show nb < 2 ^ 31 by omega)]
        have h7 : g6 (ad 0) = some (.inr (4, [.int 0, .long now, .int ((nI nb)), .ref (ad 3), .ref (ad 4), .ref (ad 5), .ref (ad 6), .ref (ad 7), .ref (ad 8), .ref (ad 9), .ref (ad 10), .int ((nI ni)), .ref (ad 12), .ref (ad 13), .ref (ad 14), .ref (ad 15), .ref (ad 16), .ref (ad 17), .ref (ad 18), .int ((nI ed)), .int kn, .ref (ad 21), .ref (ad 22), .ref (ad 23), .ref (ad 24)])) := by rw [eg6, va_up_ne _ _ (h1.ne 0 3)]; exact h1.this
        have h8 : g6 (ad 4) = some (.inl (dA 1, 12, .inr (.inl ((L 4))))) := by rw [eg6, va_up_ne _ _ (h1.ne 4 3)]; exact h1.a4
        have h9 : g6 (ad 5) = some (.inl (dA 0, 12, .inl ((J 5)))) := by rw [eg6, va_up_ne _ _ (h1.ne 5 3)]; exact h1.a5
        have h10 : g6 (ad 7) = some (.inl (dA 2, 12, .inl ((J 7)))) := by rw [eg6, va_up_ne _ _ (h1.ne 7 3)]; exact h1.a7
        have h11 : g6 (ad 8) = some (.inl (dA 0, 12, .inl ((J 8)))) := by rw [eg6, va_up_ne _ _ (h1.ne 8 3)]; exact h1.a8
        have h12 : g6 (ad 3) = some (.inl (dA 1, 12, .inr (.inl (vp_updL ((L 3)) nb len)))) := by rw [eg6]; exact va_up_self _ _ _
        refine go_aload_n X (z := 0) d_M_belt_54 rfl rfl ?_
        refine go_get X u_M rfl 4 (by decide) gm_fl_M_13 rfl d_M_belt_55 h7 rfl ?_
        refine go_aload_n X (z := 0) d_M_belt_58 rfl rfl ?_
        refine go_get X u_M rfl 2 (by decide) gm_fl_M_73 rfl d_M_belt_59 h7 rfl ?_
        refine go_lload_n X (z := 2) d_M_belt_62 rfl rfl ?_
        refine go_last X 1 rfl d_M_belt_63 h8 (vp_in_nI hnb2 (by decide)) ?_
        refine go_gen (fun g13 eg13 => ?_)
        have eg13 : g13 = va_up g6 (ad 4) (some (.inl (dA 1, 12, .inr (.inl (vp_updL ((L 4)) nb spd))))) := by rw [eg13, nI_clamp (show nb < 2 ^ 31 by omega)]
        have h14 : g13 (ad 0) = some (.inr (4, [.int 0, .long now, .int ((nI nb)), .ref (ad 3), .ref (ad 4), .ref (ad 5), .ref (ad 6), .ref (ad 7), .ref (ad 8), .ref (ad 9), .ref (ad 10), .int ((nI ni)), .ref (ad 12), .ref (ad 13), .ref (ad 14), .ref (ad 15), .ref (ad 16), .ref (ad 17), .ref (ad 18), .int ((nI ed)), .int kn, .ref (ad 21), .ref (ad 22), .ref (ad 23), .ref (ad 24)])) := by rw [eg13, va_up_ne _ _ (h1.ne 0 4)]; exact h7
        have h15 : g13 (ad 3) = some (.inl (dA 1, 12, .inr (.inl (vp_updL ((L 3)) nb len)))) := by rw [eg13, va_up_ne _ _ (h1.ne 3 4)]; exact h12
        have h16 : g13 (ad 5) = some (.inl (dA 0, 12, .inl ((J 5)))) := by rw [eg13, va_up_ne _ _ (h1.ne 5 4)]; exact h9
        have h17 : g13 (ad 7) = some (.inl (dA 2, 12, .inl ((J 7)))) := by rw [eg13, va_up_ne _ _ (h1.ne 7 4)]; exact h10
        have h18 : g13 (ad 8) = some (.inl (dA 0, 12, .inl ((J 8)))) := by rw [eg13, va_up_ne _ _ (h1.ne 8 4)]; exact h11
        have h19 : g13 (ad 4) = some (.inl (dA 1, 12, .inr (.inl (vp_updL ((L 4)) nb spd)))) := by rw [eg13]; exact va_up_self _ _ _
        refine go_aload_n X (z := 0) d_M_belt_64 rfl rfl ?_
        refine go_get X u_M rfl 5 (by decide) gm_fl_M_16 rfl d_M_belt_65 h14 rfl ?_
        refine go_aload_n X (z := 0) d_M_belt_68 rfl rfl ?_
        refine go_get X u_M rfl 2 (by decide) gm_fl_M_73 rfl d_M_belt_69 h14 rfl ?_
        refine go_iconst X (v := (-1)) d_M_belt_72 (by decide) ?_
        refine go_iast X 0 rfl d_M_belt_73 h16 (vp_in_nI hnb2 (by decide)) ?_
        refine go_gen (fun g20 eg20 => ?_)
        have eg20 : g20 = va_up g13 (ad 5) (some (.inl (dA 0, 12, .inl (upd ((J 5)) nb ((-1)))))) := by rw [eg20, nI_clamp (show nb < 2 ^ 31 by omega)]
        have h21 : g20 (ad 0) = some (.inr (4, [.int 0, .long now, .int ((nI nb)), .ref (ad 3), .ref (ad 4), .ref (ad 5), .ref (ad 6), .ref (ad 7), .ref (ad 8), .ref (ad 9), .ref (ad 10), .int ((nI ni)), .ref (ad 12), .ref (ad 13), .ref (ad 14), .ref (ad 15), .ref (ad 16), .ref (ad 17), .ref (ad 18), .int ((nI ed)), .int kn, .ref (ad 21), .ref (ad 22), .ref (ad 23), .ref (ad 24)])) := by rw [eg20, va_up_ne _ _ (h1.ne 0 5)]; exact h14
        have h22 : g20 (ad 3) = some (.inl (dA 1, 12, .inr (.inl (vp_updL ((L 3)) nb len)))) := by rw [eg20, va_up_ne _ _ (h1.ne 3 5)]; exact h15
        have h23 : g20 (ad 4) = some (.inl (dA 1, 12, .inr (.inl (vp_updL ((L 4)) nb spd)))) := by rw [eg20, va_up_ne _ _ (h1.ne 4 5)]; exact h19
        have h24 : g20 (ad 7) = some (.inl (dA 2, 12, .inl ((J 7)))) := by rw [eg20, va_up_ne _ _ (h1.ne 7 5)]; exact h17
        have h25 : g20 (ad 8) = some (.inl (dA 0, 12, .inl ((J 8)))) := by rw [eg20, va_up_ne _ _ (h1.ne 8 5)]; exact h18
        have h26 : g20 (ad 5) = some (.inl (dA 0, 12, .inl (upd ((J 5)) nb ((-1))))) := by rw [eg20]; exact va_up_self _ _ _
        refine go_aload_n X (z := 0) d_M_belt_74 rfl rfl ?_
        refine go_get X u_M rfl 7 (by decide) gm_fl_M_23 rfl d_M_belt_75 h21 rfl ?_
        refine go_aload_n X (z := 0) d_M_belt_78 rfl rfl ?_
        refine go_get X u_M rfl 2 (by decide) gm_fl_M_73 rfl d_M_belt_79 h21 rfl ?_
        refine go_iconst X (v := 1) d_M_belt_82 (by decide) ?_
        refine go_zast X 2 rfl d_M_belt_83 h24 (vp_in_nI hnb2 (by decide)) ?_
        refine go_gen (fun g27 eg27 => ?_)
        have eg27 : g27 = va_up g20 (ad 7) (some (.inl (dA 2, 12, .inl (upd ((J 7)) nb 1)))) := by rw [eg27, nI_clamp (show nb < 2 ^ 31 by omega), show vp_nar .boolean (1 : Int32) = 1 from rfl]
        have h28 : g27 (ad 0) = some (.inr (4, [.int 0, .long now, .int ((nI nb)), .ref (ad 3), .ref (ad 4), .ref (ad 5), .ref (ad 6), .ref (ad 7), .ref (ad 8), .ref (ad 9), .ref (ad 10), .int ((nI ni)), .ref (ad 12), .ref (ad 13), .ref (ad 14), .ref (ad 15), .ref (ad 16), .ref (ad 17), .ref (ad 18), .int ((nI ed)), .int kn, .ref (ad 21), .ref (ad 22), .ref (ad 23), .ref (ad 24)])) := by rw [eg27, va_up_ne _ _ (h1.ne 0 7)]; exact h21
        have h29 : g27 (ad 3) = some (.inl (dA 1, 12, .inr (.inl (vp_updL ((L 3)) nb len)))) := by rw [eg27, va_up_ne _ _ (h1.ne 3 7)]; exact h22
        have h30 : g27 (ad 4) = some (.inl (dA 1, 12, .inr (.inl (vp_updL ((L 4)) nb spd)))) := by rw [eg27, va_up_ne _ _ (h1.ne 4 7)]; exact h23
        have h31 : g27 (ad 5) = some (.inl (dA 0, 12, .inl (upd ((J 5)) nb ((-1))))) := by rw [eg27, va_up_ne _ _ (h1.ne 5 7)]; exact h26
        have h32 : g27 (ad 8) = some (.inl (dA 0, 12, .inl ((J 8)))) := by rw [eg27, va_up_ne _ _ (h1.ne 8 7)]; exact h25
        have h33 : g27 (ad 7) = some (.inl (dA 2, 12, .inl (upd ((J 7)) nb 1))) := by rw [eg27]; exact va_up_self _ _ _
        refine go_aload_n X (z := 0) d_M_belt_84 rfl rfl ?_
        refine go_get X u_M rfl 8 (by decide) gm_fl_M_27 rfl d_M_belt_85 h28 rfl ?_
        refine go_aload_n X (z := 0) d_M_belt_88 rfl rfl ?_
        refine go_get X u_M rfl 2 (by decide) gm_fl_M_73 rfl d_M_belt_89 h28 rfl ?_
        refine go_bipush X (v := 8) d_M_belt_92 (by decide) ?_
        refine go_iast X 0 rfl d_M_belt_94 h32 (vp_in_nI hnb2 (by decide)) ?_
        refine go_gen (fun g34 eg34 => ?_)
        have eg34 : g34 = va_up g27 (ad 8) (some (.inl (dA 0, 12, .inl (upd ((J 8)) nb 8)))) := by rw [eg34, nI_clamp (show nb < 2 ^ 31 by omega)]
        have h35 : g34 (ad 0) = some (.inr (4, [.int 0, .long now, .int ((nI nb)), .ref (ad 3), .ref (ad 4), .ref (ad 5), .ref (ad 6), .ref (ad 7), .ref (ad 8), .ref (ad 9), .ref (ad 10), .int ((nI ni)), .ref (ad 12), .ref (ad 13), .ref (ad 14), .ref (ad 15), .ref (ad 16), .ref (ad 17), .ref (ad 18), .int ((nI ed)), .int kn, .ref (ad 21), .ref (ad 22), .ref (ad 23), .ref (ad 24)])) := by rw [eg34, va_up_ne _ _ (h1.ne 0 8)]; exact h28
        have h36 : g34 (ad 3) = some (.inl (dA 1, 12, .inr (.inl (vp_updL ((L 3)) nb len)))) := by rw [eg34, va_up_ne _ _ (h1.ne 3 8)]; exact h29
        have h37 : g34 (ad 4) = some (.inl (dA 1, 12, .inr (.inl (vp_updL ((L 4)) nb spd)))) := by rw [eg34, va_up_ne _ _ (h1.ne 4 8)]; exact h30
        have h38 : g34 (ad 5) = some (.inl (dA 0, 12, .inl (upd ((J 5)) nb ((-1))))) := by rw [eg34, va_up_ne _ _ (h1.ne 5 8)]; exact h31
        have h39 : g34 (ad 7) = some (.inl (dA 2, 12, .inl (upd ((J 7)) nb 1))) := by rw [eg34, va_up_ne _ _ (h1.ne 7 8)]; exact h33
        have h40 : g34 (ad 8) = some (.inl (dA 0, 12, .inl (upd ((J 8)) nb 8))) := by rw [eg34]; exact va_up_self _ _ _
        refine go_aload_n X (z := 0) d_M_belt_95 rfl rfl ?_
        refine go_dup X d_M_belt_96 rfl ?_
        refine go_get X u_M rfl 2 (by decide) gm_fl_M_73 rfl d_M_belt_97 h35 rfl ?_
        refine go_iconst X (v := 1) d_M_belt_100 (by decide) ?_
        refine go_iadd X d_M_belt_101 ?_
        refine go_topi (fun x41 ex41 => ?_)
        refine go_put X u_M rfl 2 (by decide) gm_fl_M_73 rfl t_M t_M_ok n_M rfl rfl rfl d_M_belt_102 h35 (Nat.le_of_ble_eq_true rfl) ?_
        refine go_gen (fun g42 eg42 => ?_)
        have eg42 : g42 = va_up g34 (ad 0) (some (.inr (4, [.int 0, .long now, .int x41, .ref (ad 3), .ref (ad 4), .ref (ad 5), .ref (ad 6), .ref (ad 7), .ref (ad 8), .ref (ad 9), .ref (ad 10), .int ((nI ni)), .ref (ad 12), .ref (ad 13), .ref (ad 14), .ref (ad 15), .ref (ad 16), .ref (ad 17), .ref (ad 18), .int ((nI ed)), .int kn, .ref (ad 21), .ref (ad 22), .ref (ad 23), .ref (ad 24)]))) := eg42
        have h43 : g42 (ad 3) = some (.inl (dA 1, 12, .inr (.inl (vp_updL ((L 3)) nb len)))) := by rw [eg42, va_up_ne _ _ (h1.ne 3 0)]; exact h36
        have h44 : g42 (ad 4) = some (.inl (dA 1, 12, .inr (.inl (vp_updL ((L 4)) nb spd)))) := by rw [eg42, va_up_ne _ _ (h1.ne 4 0)]; exact h37
        have h45 : g42 (ad 5) = some (.inl (dA 0, 12, .inl (upd ((J 5)) nb ((-1))))) := by rw [eg42, va_up_ne _ _ (h1.ne 5 0)]; exact h38
        have h46 : g42 (ad 7) = some (.inl (dA 2, 12, .inl (upd ((J 7)) nb 1))) := by rw [eg42, va_up_ne _ _ (h1.ne 7 0)]; exact h39
        have h47 : g42 (ad 8) = some (.inl (dA 0, 12, .inl (upd ((J 8)) nb 8))) := by rw [eg42, va_up_ne _ _ (h1.ne 8 0)]; exact h40
        have h48 : g42 (ad 0) = some (.inr (4, [.int 0, .long now, .int x41, .ref (ad 3), .ref (ad 4), .ref (ad 5), .ref (ad 6), .ref (ad 7), .ref (ad 8), .ref (ad 9), .ref (ad 10), .int ((nI ni)), .ref (ad 12), .ref (ad 13), .ref (ad 14), .ref (ad 15), .ref (ad 16), .ref (ad 17), .ref (ad 18), .int ((nI ed)), .int kn, .ref (ad 21), .ref (ad 22), .ref (ad 23), .ref (ad 24)])) := by rw [eg42]; exact va_up_self _ _ _
        refine go_aload_n X (z := 0) d_M_belt_105 rfl rfl ?_
        refine go_get X u_M rfl 2 (by decide) gm_fl_M_73 rfl d_M_belt_106 h48 rfl ?_
        refine go_iconst X (v := 1) d_M_belt_109 (by decide) ?_
        refine go_isub X d_M_belt_110 ?_
        have qx : x41 = nI (nb + 1) := ex41.trans (nI_1 nb)
        subst qx
        have hM : MRep dA ad g42 0 now (nb + 1) ni ed kn (va_up (va_up L 3 (vp_updL (L 3) nb len)) 4 (vp_updL (L 4) nb spd)) (va_up (va_up (va_up J 5 (upd (J 5) nb (-1))) 7 (upd (J 7) nb 1)) 8 (upd (J 8) nb 8)) := by
          rw [eg42, eg34, eg27, eg20, eg13, eg6]
          exact (((((h1.setL 3 _).setL 4 _).setJ 5 _).setZ 7 _).setJ 8 _).set0
        exact go_retI X hr hlk d_M_belt_111 (Or.inr ⟨c2, c4, Or.inr ⟨c5, nI_pred nb, hM, hF1.trans (by rw [eg42, eg34, eg27, eg20, eg13, eg6]; exact (MFr.up rfl).trans ((MFr.up rfl).trans ((MFr.up rfl).trans ((MFr.up rfl).trans ((MFr.up rfl).trans (MFr.up rfl))))))⟩⟩)
      · refine go_bipush X (v := (-14)) d_M_belt_41 (by decide) ?_
        exact go_retI X hr hlk d_M_belt_43 (Or.inr ⟨c2, c4, Or.inl ⟨⟨h1, hF1⟩, c5, rfl⟩⟩)
    · refine go_bipush X (v := (-12)) d_M_belt_29 (by decide) ?_
      exact go_retI X hr hlk d_M_belt_31 (Or.inl ⟨⟨h1, hF1⟩, Or.inr c4, rfl⟩)
set_option maxHeartbeats 4000000 in
set_option maxRecDepth 100000 in
theorem c_M_feed {l : Launch} {D : va_G} {dA : Nat → ClassId} {g : Nat → Option va_E}  (h : MRep dA ad g th now nb ni ed kn L J) (hW : MWf nb ni J) (x : Int32) (len at0 : Int64) : CtI l D classes (tyL dA) y_M_feed b_M_feed 6 (some .int) rm_M_feed [.ref (ad 0), .int x, .long len, .long at0] g (fun r g' => ((MRep dA ad g' 0 now nb ni ed kn L J ∧ MFr ad g g') ∧ (∀ k, k < nb → x ≠ nI k) ∧ r = -11) ∨ (∃ k, k < nb ∧ x = nI k ∧ (((MRep dA ad g' 0 now nb ni ed kn L J ∧ MFr ad g g') ∧ (inF len 1 100000 = 0 ∨ inF at0 now 1000000 = 0) ∧ r = -12) ∨ (¬ inF len 1 100000 = 0 ∧ ¬ inF at0 now 1000000 = 0 ∧ (((MRep dA ad g' 0 now nb ni ed kn L J ∧ MFr ad g g') ∧ nI ni = 60 ∧ r = -14) ∨ (¬ nI ni = 60 ∧ r = nI (ni + 1) ∧ MRep dA ad g' 0 now nb (ni + 1) ed kn (va_up (va_up L 12 (vp_updL (L 12) (ni + 1) len)) 13 (vp_updL (L 13) (ni + 1) at0)) (va_up J 14 (upd (J 14) (ni + 1) (nI k))) ∧ MFr ad g g')))))) := by
  refine CtI.of (by decide) (Nat.le_of_ble_eq_true rfl) ?_
  intro p e s m below meth c X hr hlk hnm
  have hnb := hW.1
  have hni := hW.2.1
  refine go_aload_n X (z := 0) d_M_feed_0 rfl rfl ?_
  refine go_iconst X (v := 0) d_M_feed_1 (by decide) ?_
  refine go_put X u_M rfl 0 (by decide) gm_fl_M_69 rfl t_M t_M_ok n_M rfl rfl rfl d_M_feed_2 h.this (Nat.le_of_ble_eq_true rfl) ?_
  refine go_gen (fun g1 e1 => ?_)
  have h1 : MRep dA ad g1 0 now nb ni ed kn L J := by rw [e1]; exact h.set0
  have hF1 : MFr ad g g1 := by rw [e1]; exact MFr.up rfl
  refine go_aload_n X (z := 0) d_M_feed_5 rfl rfl ?_
  refine go_iload_n X (z := 1) d_M_feed_6 rfl rfl ?_
  refine go_callI_V X (As := [.int x]) (rest := []) (c_M_isBelt h1 x) gm_ml_M_95 cw_M_isBelt ⟨by decide, by decide⟩ rfl h1.this rfl rfl (Nat.le_of_ble_eq_true rfl) d_M_feed_7 ⟨by decide, by decide⟩ (fun ru1 gu1 hu1 => ?_)
  obtain ⟨rfl, rfl⟩ := hu1
  refine go_if_ne X (tgt := 16) d_M_feed_10 rfl (fun c2 => ?_) (fun c2 => ?_)
  · obtain ⟨k, hk, rfl⟩ := isBF_1 c2 (by have := hW.1; omega)
    refine go_lload_n X (z := 2) d_M_feed_16 rfl rfl ?_
    refine go_lconst X (v := 1) d_M_feed_17 (by decide) ?_
    refine go_ldc2 X d_M_feed_18 gm_k_M_89 ?_
    refine go_callI_S X (As := [.long len, .long 1, .long 100000]) (rest := []) (c_M_in len 1 100000) gm_ml_M_85 cw_M_in ⟨by decide, by decide⟩ rfl rfl (Nat.le_of_ble_eq_true rfl) d_M_feed_21 ⟨by decide, by decide⟩ (fun ru3 gu3 hu3 => ?_)
    obtain ⟨rfl, rfl⟩ := hu3
    refine go_if_eq X (tgt := 36) d_M_feed_24 rfl (fun c4 => ?_) (fun c4 => ?_)
    · refine go_bipush X (v := (-12)) d_M_feed_36 (by decide) ?_
      exact go_retI X hr hlk d_M_feed_38 (Or.inr ⟨k, hk, rfl, Or.inl ⟨⟨h1, hF1⟩, Or.inl c4, rfl⟩⟩)
    · refine go_aload_n X (z := 0) d_M_feed_27 rfl rfl ?_
      refine go_lload X (z := 3) d_M_feed_28 rfl ?_
      refine go_callI_V X (As := [.long at0]) (rest := []) (c_M_isTime h1 at0) gm_ml_M_99 cw_M_isTime ⟨by decide, by decide⟩ rfl h1.this rfl rfl (Nat.le_of_ble_eq_true rfl) d_M_feed_30 ⟨by decide, by decide⟩ (fun ru5 gu5 hu5 => ?_)
      obtain ⟨rfl, rfl⟩ := hu5
      refine go_if_ne X (tgt := 39) d_M_feed_33 rfl (fun c6 => ?_) (fun c6 => ?_)
      · refine go_aload_n X (z := 0) d_M_feed_39 rfl rfl ?_
        refine go_get X u_M rfl 11 (by decide) gm_fl_M_76 rfl d_M_feed_40 h1.this rfl ?_
        refine go_bipush X (v := 60) d_M_feed_43 (by decide) ?_
        refine go_icmp_ne X (tgt := 51) d_M_feed_45 rfl (fun c7 => ?_) (fun c7 => ?_)
        · have hni2 : ni < 60 := by rcases Nat.lt_or_ge ni 60 with z | z; exact z; exact absurd (show nI ni = nI 60 by rw [show ni = 60 by omega]) c7
          refine go_aload_n X (z := 0) d_M_feed_51 rfl rfl ?_
          refine go_dup X d_M_feed_52 rfl ?_
          refine go_get X u_M rfl 11 (by decide) gm_fl_M_76 rfl d_M_feed_53 h1.this rfl ?_
          refine go_iconst X (v := 1) d_M_feed_56 (by decide) ?_
          refine go_iadd X d_M_feed_57 ?_
          refine go_topi (fun x8 ex8 => ?_)
          refine go_put X u_M rfl 11 (by decide) gm_fl_M_76 rfl t_M t_M_ok n_M rfl rfl rfl d_M_feed_58 h1.this (Nat.le_of_ble_eq_true rfl) ?_
          refine go_gen (fun g9 eg9 => ?_)
          have eg9 : g9 = va_up g1 (ad 0) (some (.inr (4, [.int 0, .long now, .int ((nI nb)), .ref (ad 3), .ref (ad 4), .ref (ad 5), .ref (ad 6), .ref (ad 7), .ref (ad 8), .ref (ad 9), .ref (ad 10), .int x8, .ref (ad 12), .ref (ad 13), .ref (ad 14), .ref (ad 15), .ref (ad 16), .ref (ad 17), .ref (ad 18), .int ((nI ed)), .int kn, .ref (ad 21), .ref (ad 22), .ref (ad 23), .ref (ad 24)]))) := eg9
          have h10 : g9 (ad 12) = some (.inl (dA 1, 61, .inr (.inl ((L 12))))) := by rw [eg9, va_up_ne _ _ (h1.ne 12 0)]; exact h1.a12
          have h11 : g9 (ad 13) = some (.inl (dA 1, 61, .inr (.inl ((L 13))))) := by rw [eg9, va_up_ne _ _ (h1.ne 13 0)]; exact h1.a13
          have h12 : g9 (ad 14) = some (.inl (dA 0, 61, .inl ((J 14)))) := by rw [eg9, va_up_ne _ _ (h1.ne 14 0)]; exact h1.a14
          have h13 : g9 (ad 0) = some (.inr (4, [.int 0, .long now, .int ((nI nb)), .ref (ad 3), .ref (ad 4), .ref (ad 5), .ref (ad 6), .ref (ad 7), .ref (ad 8), .ref (ad 9), .ref (ad 10), .int x8, .ref (ad 12), .ref (ad 13), .ref (ad 14), .ref (ad 15), .ref (ad 16), .ref (ad 17), .ref (ad 18), .int ((nI ed)), .int kn, .ref (ad 21), .ref (ad 22), .ref (ad 23), .ref (ad 24)])) := by rw [eg9]; exact va_up_self _ _ _
          have qx : x8 = nI (ni + 1) := ex8.trans (nI_1 ni)
          subst qx
          refine go_aload_n X (z := 0) d_M_feed_61 rfl rfl ?_
          refine go_get X u_M rfl 12 (by decide) gm_fl_M_36 rfl d_M_feed_62 h13 rfl ?_
          refine go_aload_n X (z := 0) d_M_feed_65 rfl rfl ?_
          refine go_get X u_M rfl 11 (by decide) gm_fl_M_76 rfl d_M_feed_66 h13 rfl ?_
          refine go_lload_n X (z := 2) d_M_feed_69 rfl rfl ?_
          refine go_last X 1 rfl d_M_feed_70 h10 (vp_in_nI (by omega) (by decide)) ?_
          refine go_gen (fun g14 eg14 => ?_)
          have eg14 : g14 = va_up g9 (ad 12) (some (.inl (dA 1, 61, .inr (.inl (vp_updL ((L 12)) (ni + 1) len))))) := by rw [eg14, nI_clamp (show ni + 1 < 2 ^ 31 by omega)]
          have h15 : g14 (ad 0) = some (.inr (4, [.int 0, .long now, .int ((nI nb)), .ref (ad 3), .ref (ad 4), .ref (ad 5), .ref (ad 6), .ref (ad 7), .ref (ad 8), .ref (ad 9), .ref (ad 10), .int ((nI (ni + 1))), .ref (ad 12), .ref (ad 13), .ref (ad 14), .ref (ad 15), .ref (ad 16), .ref (ad 17), .ref (ad 18), .int ((nI ed)), .int kn, .ref (ad 21), .ref (ad 22), .ref (ad 23), .ref (ad 24)])) := by rw [eg14, va_up_ne _ _ (h1.ne 0 12)]; exact h13
          have h16 : g14 (ad 13) = some (.inl (dA 1, 61, .inr (.inl ((L 13))))) := by rw [eg14, va_up_ne _ _ (h1.ne 13 12)]; exact h11
          have h17 : g14 (ad 14) = some (.inl (dA 0, 61, .inl ((J 14)))) := by rw [eg14, va_up_ne _ _ (h1.ne 14 12)]; exact h12
          have h18 : g14 (ad 12) = some (.inl (dA 1, 61, .inr (.inl (vp_updL ((L 12)) (ni + 1) len)))) := by rw [eg14]; exact va_up_self _ _ _
          refine go_aload_n X (z := 0) d_M_feed_71 rfl rfl ?_
          refine go_get X u_M rfl 13 (by decide) gm_fl_M_39 rfl d_M_feed_72 h15 rfl ?_
          refine go_aload_n X (z := 0) d_M_feed_75 rfl rfl ?_
          refine go_get X u_M rfl 11 (by decide) gm_fl_M_76 rfl d_M_feed_76 h15 rfl ?_
          refine go_lload X (z := 3) d_M_feed_79 rfl ?_
          refine go_last X 1 rfl d_M_feed_81 h16 (vp_in_nI (by omega) (by decide)) ?_
          refine go_gen (fun g19 eg19 => ?_)
          have eg19 : g19 = va_up g14 (ad 13) (some (.inl (dA 1, 61, .inr (.inl (vp_updL ((L 13)) (ni + 1) at0))))) := by rw [eg19, nI_clamp (show ni + 1 < 2 ^ 31 by omega)]
          have h20 : g19 (ad 0) = some (.inr (4, [.int 0, .long now, .int ((nI nb)), .ref (ad 3), .ref (ad 4), .ref (ad 5), .ref (ad 6), .ref (ad 7), .ref (ad 8), .ref (ad 9), .ref (ad 10), .int ((nI (ni + 1))), .ref (ad 12), .ref (ad 13), .ref (ad 14), .ref (ad 15), .ref (ad 16), .ref (ad 17), .ref (ad 18), .int ((nI ed)), .int kn, .ref (ad 21), .ref (ad 22), .ref (ad 23), .ref (ad 24)])) := by rw [eg19, va_up_ne _ _ (h1.ne 0 13)]; exact h15
          have h21 : g19 (ad 12) = some (.inl (dA 1, 61, .inr (.inl (vp_updL ((L 12)) (ni + 1) len)))) := by rw [eg19, va_up_ne _ _ (h1.ne 12 13)]; exact h18
          have h22 : g19 (ad 14) = some (.inl (dA 0, 61, .inl ((J 14)))) := by rw [eg19, va_up_ne _ _ (h1.ne 14 13)]; exact h17
          have h23 : g19 (ad 13) = some (.inl (dA 1, 61, .inr (.inl (vp_updL ((L 13)) (ni + 1) at0)))) := by rw [eg19]; exact va_up_self _ _ _
          refine go_aload_n X (z := 0) d_M_feed_82 rfl rfl ?_
          refine go_get X u_M rfl 14 (by decide) gm_fl_M_42 rfl d_M_feed_83 h20 rfl ?_
          refine go_aload_n X (z := 0) d_M_feed_86 rfl rfl ?_
          refine go_get X u_M rfl 11 (by decide) gm_fl_M_76 rfl d_M_feed_87 h20 rfl ?_
          refine go_iload_n X (z := 1) d_M_feed_90 rfl rfl ?_
          refine go_topi (fun x24 ex24 => ?_)
          refine go_iast X 0 rfl d_M_feed_91 h22 (vp_in_nI (by omega) (by decide)) ?_
          refine go_gen (fun g25 eg25 => ?_)
          have eg25 : g25 = va_up g19 (ad 14) (some (.inl (dA 0, 61, .inl (upd ((J 14)) (ni + 1) x24)))) := by rw [eg25, nI_clamp (show ni + 1 < 2 ^ 31 by omega)]
          have h26 : g25 (ad 0) = some (.inr (4, [.int 0, .long now, .int ((nI nb)), .ref (ad 3), .ref (ad 4), .ref (ad 5), .ref (ad 6), .ref (ad 7), .ref (ad 8), .ref (ad 9), .ref (ad 10), .int ((nI (ni + 1))), .ref (ad 12), .ref (ad 13), .ref (ad 14), .ref (ad 15), .ref (ad 16), .ref (ad 17), .ref (ad 18), .int ((nI ed)), .int kn, .ref (ad 21), .ref (ad 22), .ref (ad 23), .ref (ad 24)])) := by rw [eg25, va_up_ne _ _ (h1.ne 0 14)]; exact h20
          have h27 : g25 (ad 12) = some (.inl (dA 1, 61, .inr (.inl (vp_updL ((L 12)) (ni + 1) len)))) := by rw [eg25, va_up_ne _ _ (h1.ne 12 14)]; exact h21
          have h28 : g25 (ad 13) = some (.inl (dA 1, 61, .inr (.inl (vp_updL ((L 13)) (ni + 1) at0)))) := by rw [eg25, va_up_ne _ _ (h1.ne 13 14)]; exact h23
          have h29 : g25 (ad 14) = some (.inl (dA 0, 61, .inl (upd ((J 14)) (ni + 1) x24))) := by rw [eg25]; exact va_up_self _ _ _
          refine go_aload_n X (z := 0) d_M_feed_92 rfl rfl ?_
          refine go_get X u_M rfl 11 (by decide) gm_fl_M_76 rfl d_M_feed_93 h26 rfl ?_
          subst ex24
          have hM : MRep dA ad g25 0 now nb (ni + 1) ed kn (va_up (va_up L 12 (vp_updL (L 12) (ni + 1) len)) 13 (vp_updL (L 13) (ni + 1) at0)) (va_up J 14 (upd (J 14) (ni + 1) (nI k))) := by
            rw [eg25, eg19, eg14, eg9]
            exact ((h1.set0.setL 12 _).setL 13 _).setJ 14 _
          exact go_retI X hr hlk d_M_feed_96 (Or.inr ⟨k, hk, rfl, Or.inr ⟨c4, c6, Or.inr ⟨c7, rfl, hM, hF1.trans (by rw [eg25, eg19, eg14, eg9]; exact (MFr.up rfl).trans ((MFr.up rfl).trans ((MFr.up rfl).trans (MFr.up rfl))))⟩⟩⟩)
        · refine go_bipush X (v := (-14)) d_M_feed_48 (by decide) ?_
          exact go_retI X hr hlk d_M_feed_50 (Or.inr ⟨k, hk, rfl, Or.inr ⟨c4, c6, Or.inl ⟨⟨h1, hF1⟩, c7, rfl⟩⟩⟩)
      · refine go_bipush X (v := (-12)) d_M_feed_36 (by decide) ?_
        exact go_retI X hr hlk d_M_feed_38 (Or.inr ⟨k, hk, rfl, Or.inl ⟨⟨h1, hF1⟩, Or.inr c6, rfl⟩⟩)
  · refine go_bipush X (v := (-11)) d_M_feed_13 (by decide) ?_
    exact go_retI X hr hlk d_M_feed_15 (Or.inl ⟨⟨h1, hF1⟩, isBF_0 c2 (by have := hW.1; omega), rfl⟩)
end M5
