/-! BeltSteps: isShort, tellEdgesOf, tellEdges, passTo. -/
section S2
variable {ad : Nat → Nat} {nb ni : Nat} {now : Int64} {B : Nat → BT} {I : Nat → IT} {n : Nat} {tk : Int32} {fr : Nat → Int32}
set_option maxHeartbeats 4000000 in
set_option maxRecDepth 100000 in
theorem c_S_isShort {l : Launch} {D : va_G} {dA : Nat → ClassId} {g : Nat → Option va_E}  (h : SRep dA ad g nb ni now B I n tk fr) {i j : Nat} (hi : i < ni) (hb : iBt (I i) = some j) (way : Int64) : CtI l D classes (tyL dA) y_S_isShort b_S_isShort 11 (some .boolean) rm_S_isShort [.ref (ad 0), .ref (iA ad i), .long way] g (fun r g' => g = g' ∧ r = shF I ni i way) := by
  refine CtI.of (by decide) (Nat.le_of_ble_eq_true rfl) ?_
  intro p e s m below meth c X hr hlk hnm
  have hni := h.ni60
  have hj := h.bt hi hb
  have loop : ∀ (f k : Nat) (fv : Int64), k + f = ni → fv = way - iStart (I i) → (∀ q, q < k → ¬ shK I i way q) → Go p l e rm_S_isShort s m [.ref (ad 0), .ref (iA ad i), .long way].toArray below meth c D classes (gA g s.heap.size) 11 (MQ below (va_Qi (fun r g' => g = g' ∧ r = shF I ni i way) (fun (g' : Nat → Option va_E) (t : State) => PW D classes (gA g s.heap.size) g' t.heap) (gA g s.heap.size)) [.ref (ad 0), .ref (iA ad i), .long way].toArray s 0 0 (gA g s.heap.size)) g 0 0 11 [(6, .int ((nI k))), (4, .long fv), (0, .ref (ad 0)), (1, .ref (iA ad i)), (2, .long way)] [] := by
    intro f
    induction f with
    | zero =>
      intro k fv hk hv hno
      have hkn : k = ni := by omega
      subst hkn
      refine go_iload X (z := 0) d_S_isShort_11 rfl ?_
      refine go_aload_n X (z := 2) d_S_isShort_13 rfl rfl ?_
      refine go_get X u_S rfl 3 (by decide) gm_fl_S_25 rfl d_S_isShort_14 h.this rfl ?_
      refine go_icmp_ge X (tgt := 125) d_S_isShort_17 rfl (fun c1 => ?_) (fun c1 => absurd (Int32.le_refl _) c1)
      refine go_iconst X (v := 0) d_S_isShort_125 (by decide) ?_
      exact go_retZ X hr rfl hlk d_S_isShort_126 ⟨rfl, (shF_0 (fun q => by obtain ⟨k, hk, hs⟩ := q; exact hno k hk hs)).symm⟩
    | succ f ih =>
      intro k fv hkf hv hno
      have hk : k < ni := by omega
      refine go_iload X (z := 0) d_S_isShort_11 rfl ?_
      refine go_aload_n X (z := 2) d_S_isShort_13 rfl rfl ?_
      refine go_get X u_S rfl 3 (by decide) gm_fl_S_25 rfl d_S_isShort_14 h.this rfl ?_
      refine go_icmp_ge X (tgt := 125) d_S_isShort_17 rfl (fun c1 => absurd c1 (nI_ge (a := k) (b := ni) hk (by omega))) (fun c1 => ?_)
      refine go_aload_n X (z := 2) d_S_isShort_20 rfl rfl ?_
      refine go_get X u_S rfl 2 (by decide) gm_fl_S_21 rfl d_S_isShort_21 h.this rfl ?_
      refine go_iload X (z := 0) d_S_isShort_24 rfl ?_
      refine go_aald X 4 rfl d_S_isShort_26 h.is (vp_in_nI (by omega) (by decide)) ?_
      rw [iTab_at hk h.ni60]
      refine go_astore X (lv' := [(7, .ref (iA ad k)), (6, .int ((nI k))), (4, .long fv), (0, .ref (ad 0)), (1, .ref (iA ad i)), (2, .long way)]) d_S_isShort_27 (by decide) rfl ?_
      refine go_aload X (z := 0) d_S_isShort_29 rfl ?_
      refine go_aload_n X (z := 4) d_S_isShort_31 rfl rfl ?_
      refine go_acmp_eq X (ry := (some (iA ad i))) (rx := (some (iA ad k))) (tgt := 119) d_S_isShort_32 rfl (fun c2 => ?_) (fun c2 => ?_)
      · have hn1 : ¬ shK I i way k := by
          subst hv
          intro ⟨s1, s2, s3, s4, s5⟩
          exact s1 (by have := h.1 _ _ (okI hk) (okI hi) (Option.some.inj c2); omega)
        refine go_iinc X (j := 1) (v := nI (k + 1)) d_S_isShort_119 rfl (nI_1 k) (by decide) rfl ?_
        refine go_goto X (tgt := 11) d_S_isShort_122 rfl ?_
        refine go_sub (lv' := [(6, .int (nI (k + 1))), (4, .long fv), (0, .ref (ad 0)), (1, .ref (iA ad i)), (2, .long way)]) [0, 2, 3, 4, 5] rfl ?_
        exact ih (k + 1) fv (by omega) hv (lt_s hno hn1)
      · refine go_aload X (z := 0) d_S_isShort_35 rfl ?_
        refine go_aload_n X (z := 4) d_S_isShort_37 rfl rfl ?_
        refine go_get X u_I rfl 2 (by decide) gm_fl_S_135 rfl d_S_isShort_38 (h.iS hi hb) rfl ?_
        refine go_callI_V X (As := [.ref (bA ad j)]) (rest := []) (s_isOn h hk hj) gm_ml_S_141 cw_I_isOn ⟨by decide, by decide⟩ rfl (h.i hk) rfl rfl (Nat.le_of_ble_eq_true rfl) d_S_isShort_41 ⟨by decide, by decide⟩ (fun ru gu hu => ?_)
        obtain ⟨rfl, rfl⟩ := hu
        refine go_if_ne X (tgt := 50) d_S_isShort_44 rfl (fun c3 => ?_) (fun c3 => ?_)
        · refine go_lload_n X (z := 5) d_S_isShort_50 rfl rfl ?_
          refine go_aload X (z := 0) d_S_isShort_51 rfl ?_
          refine go_get X u_I rfl 5 (by decide) gm_fl_S_121 rfl d_S_isShort_53 (h.i hk) rfl ?_
          refine go_lsub X d_S_isShort_56 ?_
          refine go_topl (fun x4 ex4 => ?_)
          refine go_lstore X (lv' := [(8, .long x4), (7, .ref (iA ad k)), (6, .int ((nI k))), (4, .long fv), (0, .ref (ad 0)), (1, .ref (iA ad i)), (2, .long way)]) d_S_isShort_57 (by decide) rfl ?_
          refine go_lload X (z := 0) d_S_isShort_59 rfl ?_
          refine go_lload X (z := 3) d_S_isShort_61 rfl ?_
          refine go_lif_gt X (tgt := 87) d_S_isShort_63 d_S_isShort_64 rfl (fun c5 => ?_) (fun c5 => ?_)
          · refine go_iconst X (v := 1) d_S_isShort_87 (by decide) ?_
            refine go_goto X (tgt := 92) d_S_isShort_88 rfl ?_
            refine go_istore X (lv' := [(10, .int 1), (8, .long x4), (7, .ref (iA ad k)), (6, .int ((nI k))), (4, .long fv), (0, .ref (ad 0)), (1, .ref (iA ad i)), (2, .long way)]) d_S_isShort_92 (by decide) rfl ?_
            refine go_iload X (z := 0) d_S_isShort_94 rfl ?_
            refine go_if_eq X (tgt := 119) d_S_isShort_96 rfl (fun h => absurd h (by decide)) (fun _ => ?_)
            refine go_lload X (z := 1) d_S_isShort_99 rfl ?_
            refine go_aload X (z := 2) d_S_isShort_101 rfl ?_
            refine go_get X u_I rfl 1 (by decide) gm_fl_S_138 rfl d_S_isShort_103 (h.i hk) rfl ?_
            refine go_lsub X d_S_isShort_106 ?_
            refine go_lload X (z := 4) d_S_isShort_107 rfl ?_
            refine go_lsub X d_S_isShort_109 ?_
            refine go_ldc2 X d_S_isShort_110 gm_k_S_194 ?_
            refine go_lif_ge X (tgt := 119) d_S_isShort_113 d_S_isShort_114 rfl (fun c7 => ?_) (fun c7 => ?_)
            · have hn1 : ¬ shK I i way k := by
                subst ex4
                subst hv
                intro ⟨s1, s2, s3, s4, s5⟩
                exact absurd s5 (Int64.not_lt.mpr c7)
              refine go_iinc X (j := 3) (v := nI (k + 1)) d_S_isShort_119 rfl (nI_1 k) (by decide) rfl ?_
              refine go_goto X (tgt := 11) d_S_isShort_122 rfl ?_
              refine go_sub (lv' := [(6, .int (nI (k + 1))), (4, .long fv), (0, .ref (ad 0)), (1, .ref (iA ad i)), (2, .long way)]) [0, 4, 5, 6, 7] rfl ?_
              exact ih (k + 1) fv (by omega) hv (lt_s hno hn1)
            · refine go_iconst X (v := 1) d_S_isShort_117 (by decide) ?_
              have hs : shK I i way k := by
                subst ex4
                subst hv
                exact ⟨fun q => c2 (by rw [q]), (isOn_1 c3).1.trans hb.symm, (isOn_1 c3).2, Or.inl c5, Int64.not_le.mp c7⟩
              exact go_retZ X hr rfl hlk d_S_isShort_118 ⟨rfl, (shF_1 ⟨k, hk, hs⟩).symm⟩
          · refine go_lload X (z := 0) d_S_isShort_67 rfl ?_
            refine go_lload X (z := 3) d_S_isShort_69 rfl ?_
            refine go_lif_ne X (tgt := 91) d_S_isShort_71 d_S_isShort_72 rfl (fun c8 => ?_) (fun c8 => ?_)
            · refine go_iconst X (v := 0) d_S_isShort_91 (by decide) ?_
              refine go_istore X (lv' := [(10, .int 0), (8, .long x4), (7, .ref (iA ad k)), (6, .int ((nI k))), (4, .long fv), (0, .ref (ad 0)), (1, .ref (iA ad i)), (2, .long way)]) d_S_isShort_92 (by decide) rfl ?_
              refine go_iload X (z := 0) d_S_isShort_94 rfl ?_
              refine go_if_eq X (tgt := 119) d_S_isShort_96 rfl (fun _ => ?_) (fun h => absurd (by decide) h)
              have hn1 : ¬ shK I i way k := by
                subst ex4
                subst hv
                intro ⟨s1, s2, s3, s4, s5⟩
                exact s4.elim (fun q => c5 q) (fun q => c8 q.1)
              refine go_iinc X (j := 3) (v := nI (k + 1)) d_S_isShort_119 rfl (nI_1 k) (by decide) rfl ?_
              refine go_goto X (tgt := 11) d_S_isShort_122 rfl ?_
              refine go_sub (lv' := [(6, .int (nI (k + 1))), (4, .long fv), (0, .ref (ad 0)), (1, .ref (iA ad i)), (2, .long way)]) [0, 4, 5, 6, 7] rfl ?_
              exact ih (k + 1) fv (by omega) hv (lt_s hno hn1)
            · refine go_aload X (z := 1) d_S_isShort_75 rfl ?_
              refine go_get X u_I rfl 0 (by decide) gm_fl_S_73 rfl d_S_isShort_77 (h.i hk) rfl ?_
              refine go_aload_n X (z := 5) d_S_isShort_80 rfl rfl ?_
              refine go_get X u_I rfl 0 (by decide) gm_fl_S_73 rfl d_S_isShort_81 (h.iS hi hb) rfl ?_
              refine go_icmp_ge X (tgt := 91) d_S_isShort_84 rfl (fun c10 => ?_) (fun c10 => ?_)
              · refine go_iconst X (v := 0) d_S_isShort_91 (by decide) ?_
                refine go_istore X (lv' := [(10, .int 0), (8, .long x4), (7, .ref (iA ad k)), (6, .int ((nI k))), (4, .long fv), (0, .ref (ad 0)), (1, .ref (iA ad i)), (2, .long way)]) d_S_isShort_92 (by decide) rfl ?_
                refine go_iload X (z := 0) d_S_isShort_94 rfl ?_
                refine go_if_eq X (tgt := 119) d_S_isShort_96 rfl (fun _ => ?_) (fun h => absurd (by decide) h)
                have hn1 : ¬ shK I i way k := by
                  subst ex4
                  subst hv
                  intro ⟨s1, s2, s3, s4, s5⟩
                  exact s4.elim (fun q => c5 q) (fun q => absurd q.2 (Int32.not_lt.mpr c10))
                refine go_iinc X (j := 3) (v := nI (k + 1)) d_S_isShort_119 rfl (nI_1 k) (by decide) rfl ?_
                refine go_goto X (tgt := 11) d_S_isShort_122 rfl ?_
                refine go_sub (lv' := [(6, .int (nI (k + 1))), (4, .long fv), (0, .ref (ad 0)), (1, .ref (iA ad i)), (2, .long way)]) [0, 4, 5, 6, 7] rfl ?_
                exact ih (k + 1) fv (by omega) hv (lt_s hno hn1)
              · refine go_iconst X (v := 1) d_S_isShort_87 (by decide) ?_
                refine go_goto X (tgt := 92) d_S_isShort_88 rfl ?_
                refine go_istore X (lv' := [(10, .int 1), (8, .long x4), (7, .ref (iA ad k)), (6, .int ((nI k))), (4, .long fv), (0, .ref (ad 0)), (1, .ref (iA ad i)), (2, .long way)]) d_S_isShort_92 (by decide) rfl ?_
                refine go_iload X (z := 0) d_S_isShort_94 rfl ?_
                refine go_if_eq X (tgt := 119) d_S_isShort_96 rfl (fun h => absurd h (by decide)) (fun _ => ?_)
                refine go_lload X (z := 1) d_S_isShort_99 rfl ?_
                refine go_aload X (z := 2) d_S_isShort_101 rfl ?_
                refine go_get X u_I rfl 1 (by decide) gm_fl_S_138 rfl d_S_isShort_103 (h.i hk) rfl ?_
                refine go_lsub X d_S_isShort_106 ?_
                refine go_lload X (z := 4) d_S_isShort_107 rfl ?_
                refine go_lsub X d_S_isShort_109 ?_
                refine go_ldc2 X d_S_isShort_110 gm_k_S_194 ?_
                refine go_lif_ge X (tgt := 119) d_S_isShort_113 d_S_isShort_114 rfl (fun c13 => ?_) (fun c13 => ?_)
                · have hn1 : ¬ shK I i way k := by
                    subst ex4
                    subst hv
                    intro ⟨s1, s2, s3, s4, s5⟩
                    exact absurd s5 (Int64.not_lt.mpr c13)
                  refine go_iinc X (j := 3) (v := nI (k + 1)) d_S_isShort_119 rfl (nI_1 k) (by decide) rfl ?_
                  refine go_goto X (tgt := 11) d_S_isShort_122 rfl ?_
                  refine go_sub (lv' := [(6, .int (nI (k + 1))), (4, .long fv), (0, .ref (ad 0)), (1, .ref (iA ad i)), (2, .long way)]) [0, 4, 5, 6, 7] rfl ?_
                  exact ih (k + 1) fv (by omega) hv (lt_s hno hn1)
                · refine go_iconst X (v := 1) d_S_isShort_117 (by decide) ?_
                  have hs : shK I i way k := by
                    subst ex4
                    subst hv
                    exact ⟨fun q => c2 (by rw [q]), (isOn_1 c3).1.trans hb.symm, (isOn_1 c3).2, Or.inr ⟨c8, Int32.not_le.mp c10⟩, Int64.not_le.mp c13⟩
                  exact go_retZ X hr rfl hlk d_S_isShort_118 ⟨rfl, (shF_1 ⟨k, hk, hs⟩).symm⟩
        · refine go_goto X (tgt := 119) d_S_isShort_47 rfl ?_
          have hn1 : ¬ shK I i way k := by
            subst hv
            intro ⟨s1, s2, s3, s4, s5⟩
            exact absurd c3 (by unfold isOnF; rw [if_pos (s2.trans hb), if_pos s3]; decide)
          refine go_iinc X (j := 1) (v := nI (k + 1)) d_S_isShort_119 rfl (nI_1 k) (by decide) rfl ?_
          refine go_goto X (tgt := 11) d_S_isShort_122 rfl ?_
          refine go_sub (lv' := [(6, .int (nI (k + 1))), (4, .long fv), (0, .ref (ad 0)), (1, .ref (iA ad i)), (2, .long way)]) [0, 2, 3, 4, 5] rfl ?_
          exact ih (k + 1) fv (by omega) hv (lt_s hno hn1)
  refine go_lload_n X (z := 2) d_S_isShort_0 rfl rfl ?_
  refine go_aload_n X (z := 1) d_S_isShort_1 rfl rfl ?_
  refine go_get X u_I rfl 5 (by decide) gm_fl_S_121 rfl d_S_isShort_2 (h.iS hi hb) rfl ?_
  refine go_lsub X d_S_isShort_5 ?_
  refine go_topl (fun x1 ex1 => ?_)
  refine go_lstore X (lv' := [(4, .long x1), (0, .ref (ad 0)), (1, .ref (iA ad i)), (2, .long way)]) d_S_isShort_6 (by decide) rfl ?_
  refine go_iconst X (v := 0) d_S_isShort_8 (by decide) ?_
  refine go_istore X (lv' := [(6, .int 0), (4, .long x1), (0, .ref (ad 0)), (1, .ref (iA ad i)), (2, .long way)]) d_S_isShort_9 (by decide) rfl ?_
  refine go_sub (lv' := [(6, .int (nI 0)), (4, .long x1), (0, .ref (ad 0)), (1, .ref (iA ad i)), (2, .long way)]) [0, 1, 2, 3, 4] rfl ?_
  exact loop ni 0 x1 (Nat.zero_add _) ex1 lt_0
theorem fr_bt (x : IT) : iBt (frI x) = iBt x := rfl
theorem SRep.selfI {dA : Nat → ClassId} {ad : Nat → Nat} {g : Nat → Option va_E} {nb ni : Nat} {now : Int64} {B : Nat → BT} {I : Nat → IT} {n : Nat} {tk : Int32} {fr : Nat → Int32} (h : SRep dA ad g nb ni now B I n tk fr) (i : Nat) : SRep dA ad g nb ni now B (va_up I i (I i)) n tk fr := by
  have e : va_up I i (I i) = I := by
    funext j
    by_cases hj : j = i
    · subst hj; rw [va_up_self]
    · rw [va_up_ne _ _ hj]
  rw [e]; exact h
/-- item i is x, and its belt is j: its cell -/
theorem SRep.iX {dA : Nat → ClassId} {ad : Nat → Nat} {g : Nat → Option va_E} {nb ni : Nat} {now : Int64} {B : Nat → BT} {I : Nat → IT} {n : Nat} {tk : Int32} {fr : Nat → Int32} {x : IT} {i j : Nat} (h : SRep dA ad g nb ni now B (va_up I i x) n tk fr) (hi : i < ni) (hb : iBt x = some j) : g (iA ad i) = some (itemE (nI (i + 1)) (iLen x) (some (bA ad j)) (iWt x) (iTurn x) (iStart x) (iFt x) (iEt x)) := by
  have := h.iS hi (show iBt (va_up I i x i) = some j by rw [va_up_self]; exact hb)
  rw [va_up_self] at this
  exact this
theorem SRep.setX {dA : Nat → ClassId} {ad : Nat → Nat} {g g' : Nat → Option va_E} {nb ni : Nat} {now : Int64} {B : Nat → BT} {I : Nat → IT} {n : Nat} {tk : Int32} {fr : Nat → Int32} {x y : IT} {i j : Nat} (h : SRep dA ad g nb ni now B (va_up I i x) n tk fr) (hi : i < ni) (hj : j < nb) (hb : iBt y = some j) (e : g' = va_up g (iA ad i) (some (iCell ad i y))) : SRep dA ad g' nb ni now B (va_up I i y) n tk fr := by
  have := h.setI hi (x := y) (fun q hq => by rw [hb] at hq; cases hq; exact hj)
  rw [bx_uu] at this
  rw [e]; exact this
set_option maxHeartbeats 4000000 in
set_option maxRecDepth 100000 in
theorem c_S_tellEdgesOf_n {l : Launch} {D : va_G} {dA : Nat → ClassId} {g : Nat → Option va_E}  (h : SRep dA ad g nb ni now B I n tk fr) {i : Nat} (hi : i < ni) (hb : iBt (I i) = none) (t : Int64) : CtV l D classes (tyL dA) y_S_tellEdgesOf b_S_tellEdgesOf 10 none rm_S_tellEdgesOf [.ref (ad 0), .ref (iA ad i), .long t] g (fun g' => SRep dA ad g' nb ni now B (tellO B I ni t i (n, fr)).1 (tellO B I ni t i (n, fr)).2.1 tk (tellO B I ni t i (n, fr)).2.2 ∧ SFr ad nb ni g g') := by
  refine CtV.of (by decide) (Nat.le_of_ble_eq_true rfl) ?_
  intro p e s m below meth c X hr hlk hnm
  refine go_aload_n X (z := 1) d_S_tellEdgesOf_0 rfl rfl ?_
  refine go_get X u_I rfl 2 (by decide) gm_fl_S_135 rfl d_S_tellEdgesOf_1 (h.iN hi hb) rfl ?_
  refine go_astoreN X (lv' := [(4, .null), (0, .ref (ad 0)), (1, .ref (iA ad i)), (2, .long t)]) d_S_tellEdgesOf_4 (by decide) rfl ?_
  refine go_aloadN X (z := 0) d_S_tellEdgesOf_6 rfl ?_
  refine go_ifnonnullN X d_S_tellEdgesOf_8 ?_
  exact go_retV X hr hlk d_S_tellEdgesOf_11 ⟨by unfold tellO; rw [hb]; exact h, SFr.rfl'⟩
set_option maxHeartbeats 4000000 in
set_option maxRecDepth 100000 in
theorem c_S_tellEdgesOf_s {l : Launch} {D : va_G} {dA : Nat → ClassId} {g : Nat → Option va_E}  (h : SRep dA ad g nb ni now B I n tk fr) {i j : Nat} (hi : i < ni) (hb : iBt (I i) = some j) (hn : n + 2 < 2 ^ 31) (t : Int64) : CtV l D classes (tyL dA) y_S_tellEdgesOf b_S_tellEdgesOf 10 none rm_S_tellEdgesOf [.ref (ad 0), .ref (iA ad i), .long t] g (fun g' => SRep dA ad g' nb ni now B (tellO B I ni t i (n, fr)).1 (tellO B I ni t i (n, fr)).2.1 tk (tellO B I ni t i (n, fr)).2.2 ∧ SFr ad nb ni g g') := by
  refine CtV.of (by decide) (Nat.le_of_ble_eq_true rfl) ?_
  intro p e s m below meth c X hr hlk hnm
  have hj := h.bt hi hb
  have tail2 : ∀ (g2 : Nat → Option va_E) (p2 : IT × ET) (ps wy : Int64), p2 = tel2 B (I i) t i j (tel1 B I ni t i j (n, fr)) → iBt p2.1 = some j → SRep dA ad g2 nb ni now B (va_up I i p2.1) p2.2.1 tk p2.2.2 → SFr ad nb ni g g2 → Go p l e rm_S_tellEdgesOf s m [.ref (ad 0), .ref (iA ad i), .long t].toArray below meth c D classes (gA g s.heap.size) 10 (MQ below (va_Qv (fun g' => SRep dA ad g' nb ni now B (tellO B I ni t i (n, fr)).1 (tellO B I ni t i (n, fr)).2.1 tk (tellO B I ni t i (n, fr)).2.2 ∧ SFr ad nb ni g g') (fun (g' : Nat → Option va_E) (t : State) => PW D classes (gA g s.heap.size) g' t.heap) (gA g s.heap.size)) [.ref (ad 0), .ref (iA ad i), .long t].toArray s 0 0 (gA g s.heap.size)) g2 0 0 137 [(7, .long ps), (5, .long wy), (4, .ref (bA ad j)), (0, .ref (ad 0)), (1, .ref (iA ad i)), (2, .long t)] [] := by
    intro g2 p2 ps wy ep hb2 h2 hF
    refine go_aload_n X (z := 4) d_S_tellEdgesOf_137 rfl rfl ?_
    refine go_callV_V X (As := []) (rest := []) (s_aim h2 hi) gm_ml_S_124 cw_I_aim ⟨by decide, by decide⟩ rfl (h2.iX hi hb2) rfl rfl (Nat.le_of_ble_eq_true rfl) d_S_tellEdgesOf_138 ⟨by decide, by decide⟩ (fun gz hz => ?_)
    rw [va_up_self] at hz
    have hz2 := h2.setX hi hj (y := aimI B p2.1) (by rw [aimI_bt]; exact hb2) hz
    have et : tellO B I ni t i (n, fr) = (va_up I i (aimI B p2.1), p2.2) := by unfold tellO; rw [hb]; simp only [tellF]; rw [← ep]
    exact go_retV X hr hlk d_S_tellEdgesOf_141 ⟨by rw [et]; exact hz2, hF.trans (hz ▸ SFr.up (okI hi))⟩
  have tail1 : ∀ (g1 : Nat → Option va_E) (p1 : IT × ET) (ps wy : Int64), p1 = tel1 B I ni t i j (n, fr) → ps = wayB (B j) t - iStart (I i) - bSen (B j) → iBt p1.1 = some j → iLen p1.1 = iLen (I i) → p1.2.1 + 1 < 2 ^ 31 → SRep dA ad g1 nb ni now B (va_up I i p1.1) p1.2.1 tk p1.2.2 → SFr ad nb ni g g1 → Go p l e rm_S_tellEdgesOf s m [.ref (ad 0), .ref (iA ad i), .long t].toArray below meth c D classes (gA g s.heap.size) 10 (MQ below (va_Qv (fun g' => SRep dA ad g' nb ni now B (tellO B I ni t i (n, fr)).1 (tellO B I ni t i (n, fr)).2.1 tk (tellO B I ni t i (n, fr)).2.2 ∧ SFr ad nb ni g g') (fun (g' : Nat → Option va_E) (t : State) => PW D classes (gA g s.heap.size) g' t.heap) (gA g s.heap.size)) [.ref (ad 0), .ref (iA ad i), .long t].toArray s 0 0 (gA g s.heap.size)) g1 0 0 90 [(7, .long ps), (5, .long wy), (4, .ref (bA ad j)), (0, .ref (ad 0)), (1, .ref (iA ad i)), (2, .long t)] [] := by
    intro g1 p1 ps wy ep eps hb1 hl1 hn1 h1 hF
    refine go_aload_n X (z := 4) d_S_tellEdgesOf_90 rfl rfl ?_
    refine go_get X u_I rfl 6 (by decide) gm_fl_S_180 rfl d_S_tellEdgesOf_91 (h1.iX hi hb1) rfl ?_
    refine go_if_eq X (tgt := 137) d_S_tellEdgesOf_94 rfl (fun c1 => ?_) (fun c1 => ?_)
    · exact tail2 g1 p1 ps wy (by rw [← ep]; unfold tel2; rw [if_pos c1]) hb1 h1 hF
    · refine go_aload_n X (z := 4) d_S_tellEdgesOf_97 rfl rfl ?_
      refine go_get X u_I rfl 7 (by decide) gm_fl_S_191 rfl d_S_tellEdgesOf_98 (h1.iX hi hb1) rfl ?_
      refine go_if_ne X (tgt := 137) d_S_tellEdgesOf_101 rfl (fun c2 => ?_) (fun c2 => ?_)
      · exact tail2 g1 p1 ps wy (by rw [← ep]; unfold tel2; rw [if_neg c1, if_neg c2]) hb1 h1 hF
      · refine go_lload X (z := 0) d_S_tellEdgesOf_104 rfl ?_
        refine go_aload_n X (z := 4) d_S_tellEdgesOf_106 rfl rfl ?_
        refine go_get X u_I rfl 1 (by decide) gm_fl_S_138 rfl d_S_tellEdgesOf_107 (h1.iX hi hb1) rfl ?_
        refine go_lif_lt X (tgt := 137) d_S_tellEdgesOf_110 d_S_tellEdgesOf_111 rfl (fun c3 => ?_) (fun c3 => ?_)
        · exact tail2 g1 p1 ps wy (by rw [← ep]; unfold tel2; rw [if_neg c1, if_pos c2, ← eps, ← hl1, if_pos c3]) hb1 h1 hF
        · refine go_aload_n X (z := 3) d_S_tellEdgesOf_114 rfl rfl ?_
          refine go_get X u_S rfl 4 (by decide) gm_fl_S_31 rfl d_S_tellEdgesOf_115 h1.this rfl ?_
          refine go_lload_n X (z := 5) d_S_tellEdgesOf_118 rfl rfl ?_
          refine go_aload X (z := 2) d_S_tellEdgesOf_119 rfl ?_
          refine go_get X u_B rfl 0 (by decide) gm_fl_S_51 rfl d_S_tellEdgesOf_121 (h1.b hj) rfl ?_
          refine go_aload_n X (z := 4) d_S_tellEdgesOf_124 rfl rfl ?_
          refine go_get X u_I rfl 0 (by decide) gm_fl_S_73 rfl d_S_tellEdgesOf_125 (h1.iX hi hb1) rfl ?_
          refine go_iconst X (v := 1) d_S_tellEdgesOf_128 (by decide) ?_
          refine go_callV_V X (As := [.long t, .int ((nI j)), .int ((nI (i + 1))), .int 1]) (rest := []) (s_add h1 (by omega) t (nI j) (nI (i + 1)) 1) gm_ml_S_187 cw_E_add ⟨by decide, by decide⟩ rfl h1.es rfl rfl (Nat.le_of_ble_eq_true rfl) d_S_tellEdgesOf_129 ⟨by decide, by decide⟩ (fun ga ha => ?_)
          obtain ⟨ha, haF⟩ := ha
          refine go_aload_n X (z := 4) d_S_tellEdgesOf_132 rfl rfl ?_
          refine go_iconst X (v := 1) d_S_tellEdgesOf_133 (by decide) ?_
          refine go_put X u_I rfl 7 (by decide) gm_fl_S_191 rfl t_I t_I_ok n_I rfl rfl rfl d_S_tellEdgesOf_134 (ha.iX hi hb1) (Nat.le_of_ble_eq_true rfl) ?_
          refine go_gen (fun gp ep2 => ?_)
          have hp := ha.setX hi hj (y := enI p1.1) (g' := gp) hb1 (by rw [ep2, iC_s (x := enI p1.1) hb1]; rfl)
          exact tail2 gp (enI p1.1, addE p1.2 t (nI j) (nI (i + 1)) 1) ps wy (by rw [← ep]; unfold tel2; rw [if_neg c1, if_pos c2, ← eps, ← hl1, if_neg c3]) hb1 hp (hF.trans (haF.trans (by rw [ep2]; exact SFr.up (okI hi))))
  refine go_aload_n X (z := 1) d_S_tellEdgesOf_0 rfl rfl ?_
  refine go_get X u_I rfl 2 (by decide) gm_fl_S_135 rfl d_S_tellEdgesOf_1 (h.iS hi hb) rfl ?_
  refine go_astore X (lv' := [(4, .ref (bA ad j)), (0, .ref (ad 0)), (1, .ref (iA ad i)), (2, .long t)]) d_S_tellEdgesOf_4 (by decide) rfl ?_
  refine go_aload X (z := 0) d_S_tellEdgesOf_6 rfl ?_
  refine go_ifnonnull X (tgt := 12) d_S_tellEdgesOf_8 rfl ?_
  refine go_aload X (z := 0) d_S_tellEdgesOf_12 rfl ?_
  refine go_lload_n X (z := 3) d_S_tellEdgesOf_14 rfl rfl ?_
  refine go_callL_V X (As := [.long t]) (rest := []) (s_wayAt h hj t) gm_ml_S_174 cw_B_wayAt ⟨by decide, by decide⟩ rfl (h.b hj) rfl rfl (Nat.le_of_ble_eq_true rfl) d_S_tellEdgesOf_15 ⟨by decide, by decide⟩ (fun r1 gq hp => ?_)
  obtain ⟨rfl, rfl⟩ := hp
  refine go_topl (fun x1 ex1 => ?_)
  refine go_lstore X (lv' := [(5, .long x1), (4, .ref (bA ad j)), (0, .ref (ad 0)), (1, .ref (iA ad i)), (2, .long t)]) d_S_tellEdgesOf_18 (by decide) rfl ?_
  refine go_lload X (z := 0) d_S_tellEdgesOf_20 rfl ?_
  refine go_aload_n X (z := 3) d_S_tellEdgesOf_22 rfl rfl ?_
  refine go_get X u_I rfl 5 (by decide) gm_fl_S_121 rfl d_S_tellEdgesOf_23 (h.iS hi hb) rfl ?_
  refine go_lsub X d_S_tellEdgesOf_26 ?_
  refine go_aload X (z := 1) d_S_tellEdgesOf_27 rfl ?_
  refine go_get X u_B rfl 3 (by decide) gm_fl_S_177 rfl d_S_tellEdgesOf_29 (h.b hj) rfl ?_
  refine go_lsub X d_S_tellEdgesOf_32 ?_
  refine go_topl (fun x2 ex2 => ?_)
  refine go_lstore X (lv' := [(7, .long x2), (5, .long x1), (4, .ref (bA ad j)), (0, .ref (ad 0)), (1, .ref (iA ad i)), (2, .long t)]) d_S_tellEdgesOf_33 (by decide) rfl ?_
  refine go_aload_n X (z := 4) d_S_tellEdgesOf_35 rfl rfl ?_
  refine go_get X u_I rfl 6 (by decide) gm_fl_S_180 rfl d_S_tellEdgesOf_36 (h.iS hi hb) rfl ?_
  refine go_if_ne X (tgt := 90) d_S_tellEdgesOf_39 rfl (fun c3 => ?_) (fun c3 => ?_)
  · refine go_sub (lv' := [(7, .long x2), (5, .long x1), (4, .ref (bA ad j)), (0, .ref (ad 0)), (1, .ref (iA ad i)), (2, .long t)]) [0, 1, 2, 3, 4, 5] rfl ?_
    have eps : x2 = wayB (B j) t - iStart (I i) - bSen (B j) := by rw [ex2, ex1]
    exact tail1 g (I i, (n, fr)) x2 x1 (by unfold tel1; rw [if_neg c3]) eps hb rfl (by show n + 1 < _; omega) (h.selfI i) SFr.rfl'
  · refine go_lload X (z := 0) d_S_tellEdgesOf_42 rfl ?_
    refine go_lconst X (v := 0) d_S_tellEdgesOf_44 (by decide) ?_
    refine go_lif_lt X (tgt := 90) d_S_tellEdgesOf_45 d_S_tellEdgesOf_46 rfl (fun c4 => ?_) (fun c4 => ?_)
    · refine go_sub (lv' := [(7, .long x2), (5, .long x1), (4, .ref (bA ad j)), (0, .ref (ad 0)), (1, .ref (iA ad i)), (2, .long t)]) [0, 1, 2, 3, 4, 5] rfl ?_
      have eps : x2 = wayB (B j) t - iStart (I i) - bSen (B j) := by rw [ex2, ex1]
      exact tail1 g (I i, (n, fr)) x2 x1 (by unfold tel1; rw [if_pos c3, ← eps, if_pos c4]) eps hb rfl (by show n + 1 < _; omega) (h.selfI i) SFr.rfl'
    · refine go_aload_n X (z := 3) d_S_tellEdgesOf_49 rfl rfl ?_
      refine go_aload_n X (z := 4) d_S_tellEdgesOf_50 rfl rfl ?_
      refine go_lload X (z := 1) d_S_tellEdgesOf_51 rfl ?_
      refine go_callI_V X (As := [.ref (iA ad i), .long x1]) (rest := []) (c_S_isShort h hi hb x1) gm_ml_S_183 cw_S_isShort ⟨by decide, by decide⟩ rfl h.this rfl rfl (Nat.le_of_ble_eq_true rfl) d_S_tellEdgesOf_53 ⟨by decide, by decide⟩ (fun r2 gq2 hp2 => ?_)
      obtain ⟨rfl, rfl⟩ := hp2
      refine go_if_eq X (tgt := 63) d_S_tellEdgesOf_56 rfl (fun c5 => ?_) (fun c5 => ?_)
      · refine go_iconst X (v := 0) d_S_tellEdgesOf_63 (by decide) ?_
        refine go_istore X (lv' := [(9, .int 0), (7, .long x2), (5, .long x1), (4, .ref (bA ad j)), (0, .ref (ad 0)), (1, .ref (iA ad i)), (2, .long t)]) d_S_tellEdgesOf_64 (by decide) rfl ?_
        refine go_aload_n X (z := 4) d_S_tellEdgesOf_66 rfl rfl ?_
        refine go_get X u_S rfl 4 (by decide) gm_fl_S_31 rfl d_S_tellEdgesOf_67 h.this rfl ?_
        refine go_lload_n X (z := 6) d_S_tellEdgesOf_70 rfl rfl ?_
        refine go_aload X (z := 3) d_S_tellEdgesOf_71 rfl ?_
        refine go_get X u_B rfl 0 (by decide) gm_fl_S_51 rfl d_S_tellEdgesOf_73 (h.b hj) rfl ?_
        refine go_aload_n X (z := 5) d_S_tellEdgesOf_76 rfl rfl ?_
        refine go_get X u_I rfl 0 (by decide) gm_fl_S_73 rfl d_S_tellEdgesOf_77 (h.iS hi hb) rfl ?_
        refine go_iload X (z := 0) d_S_tellEdgesOf_80 rfl ?_
        refine go_callV_V X (As := [.long t, .int ((nI j)), .int ((nI (i + 1))), .int 0]) (rest := []) (s_add h (by omega) t (nI j) (nI (i + 1)) 0) gm_ml_S_187 cw_E_add ⟨by decide, by decide⟩ rfl h.es rfl rfl (Nat.le_of_ble_eq_true rfl) d_S_tellEdgesOf_82 ⟨by decide, by decide⟩ (fun ga ha => ?_)
        obtain ⟨ha, haF⟩ := ha
        refine go_aload_n X (z := 5) d_S_tellEdgesOf_85 rfl rfl ?_
        refine go_iconst X (v := 1) d_S_tellEdgesOf_86 (by decide) ?_
        refine go_put X u_I rfl 6 (by decide) gm_fl_S_180 rfl t_I t_I_ok n_I rfl rfl rfl d_S_tellEdgesOf_87 (ha.iS hi hb) (Nat.le_of_ble_eq_true rfl) ?_
        refine go_gen (fun gp ep2 => ?_)
        have hp := ha.selfI i
        have hp := hp.setX hi hj (y := frI (I i)) (g' := gp) hb (by rw [ep2, iC_s (x := frI (I i)) hb]; rfl)
        refine go_sub (lv' := [(7, .long x2), (5, .long x1), (4, .ref (bA ad j)), (0, .ref (ad 0)), (1, .ref (iA ad i)), (2, .long t)]) [1, 2, 3, 4, 5, 6] rfl ?_
        have eps : x2 = wayB (B j) t - iStart (I i) - bSen (B j) := by rw [ex2, ex1]
        exact tail1 gp (frI (I i), addE (n, fr) t (nI j) (nI (i + 1)) 0) x2 x1 (by unfold tel1; rw [if_pos c3, ← eps, if_neg c4, ← ex1, if_pos c5]) eps hb rfl (by show n + 1 + 1 < _; omega) hp (haF.trans (by rw [ep2]; exact SFr.up (okI hi)))
      · refine go_iconst X (v := 2) d_S_tellEdgesOf_59 (by decide) ?_
        refine go_goto X (tgt := 64) d_S_tellEdgesOf_60 rfl ?_
        refine go_istore X (lv' := [(9, .int 2), (7, .long x2), (5, .long x1), (4, .ref (bA ad j)), (0, .ref (ad 0)), (1, .ref (iA ad i)), (2, .long t)]) d_S_tellEdgesOf_64 (by decide) rfl ?_
        refine go_aload_n X (z := 4) d_S_tellEdgesOf_66 rfl rfl ?_
        refine go_get X u_S rfl 4 (by decide) gm_fl_S_31 rfl d_S_tellEdgesOf_67 h.this rfl ?_
        refine go_lload_n X (z := 6) d_S_tellEdgesOf_70 rfl rfl ?_
        refine go_aload X (z := 3) d_S_tellEdgesOf_71 rfl ?_
        refine go_get X u_B rfl 0 (by decide) gm_fl_S_51 rfl d_S_tellEdgesOf_73 (h.b hj) rfl ?_
        refine go_aload_n X (z := 5) d_S_tellEdgesOf_76 rfl rfl ?_
        refine go_get X u_I rfl 0 (by decide) gm_fl_S_73 rfl d_S_tellEdgesOf_77 (h.iS hi hb) rfl ?_
        refine go_iload X (z := 0) d_S_tellEdgesOf_80 rfl ?_
        refine go_callV_V X (As := [.long t, .int ((nI j)), .int ((nI (i + 1))), .int 2]) (rest := []) (s_add h (by omega) t (nI j) (nI (i + 1)) 2) gm_ml_S_187 cw_E_add ⟨by decide, by decide⟩ rfl h.es rfl rfl (Nat.le_of_ble_eq_true rfl) d_S_tellEdgesOf_82 ⟨by decide, by decide⟩ (fun ga ha => ?_)
        obtain ⟨ha, haF⟩ := ha
        refine go_aload_n X (z := 5) d_S_tellEdgesOf_85 rfl rfl ?_
        refine go_iconst X (v := 1) d_S_tellEdgesOf_86 (by decide) ?_
        refine go_put X u_I rfl 6 (by decide) gm_fl_S_180 rfl t_I t_I_ok n_I rfl rfl rfl d_S_tellEdgesOf_87 (ha.iS hi hb) (Nat.le_of_ble_eq_true rfl) ?_
        refine go_gen (fun gp ep2 => ?_)
        have hp := ha.selfI i
        have hp := hp.setX hi hj (y := frI (I i)) (g' := gp) hb (by rw [ep2, iC_s (x := frI (I i)) hb]; rfl)
        refine go_sub (lv' := [(7, .long x2), (5, .long x1), (4, .ref (bA ad j)), (0, .ref (ad 0)), (1, .ref (iA ad i)), (2, .long t)]) [1, 2, 3, 4, 5, 6] rfl ?_
        have eps : x2 = wayB (B j) t - iStart (I i) - bSen (B j) := by rw [ex2, ex1]
        exact tail1 gp (frI (I i), addE (n, fr) t (nI j) (nI (i + 1)) 2) x2 x1 (by unfold tel1; rw [if_pos c3, ← eps, if_neg c4, ← ex1, if_neg c5]) eps hb rfl (by show n + 1 + 1 < _; omega) hp (haF.trans (by rw [ep2]; exact SFr.up (okI hi)))
theorem c_S_tellEdgesOf {l : Launch} {D : va_G} {dA : Nat → ClassId} {g : Nat → Option va_E} (h : SRep dA ad g nb ni now B I n tk fr) {i : Nat} (hi : i < ni) (hn : n + 2 < 2 ^ 31) (t : Int64) : CtV l D classes (tyL dA) y_S_tellEdgesOf b_S_tellEdgesOf 10 none rm_S_tellEdgesOf [.ref (ad 0), .ref (iA ad i), .long t] g (fun g' => SRep dA ad g' nb ni now B (tellO B I ni t i (n, fr)).1 (tellO B I ni t i (n, fr)).2.1 tk (tellO B I ni t i (n, fr)).2.2 ∧ SFr ad nb ni g g') := by
  cases hb : iBt (I i) with
  | none => exact c_S_tellEdgesOf_n h hi hb t
  | some j => exact c_S_tellEdgesOf_s h hi hb hn t
theorem tellO_n (B : Nat → BT) (I : Nat → IT) (ni : Nat) (t : Int64) (i : Nat) (e : ET) : (tellO B I ni t i e).2.1 ≤ e.1 + 2 := by
  unfold tellO
  cases iBt (I i) with
  | none => exact Nat.le_add_right _ _
  | some j =>
    show (tel2 B (I i) t i j (tel1 B I ni t i j e)).2.1 ≤ e.1 + 2
    have h1 : (tel1 B I ni t i j e).2.1 ≤ e.1 + 1 := by
      unfold tel1
      repeat' split
      all_goals first | exact Nat.le_succ _ | exact Nat.le_refl _
    have h2 : ∀ p : IT × ET, (tel2 B (I i) t i j p).2.1 ≤ p.2.1 + 1 := by
      intro p
      unfold tel2
      repeat' split
      all_goals first | exact Nat.le_succ _ | exact Nat.le_refl _
    have := h2 (tel1 B I ni t i j e)
    omega
theorem tellN_n (B : Nat → BT) (ni : Nat) (t : Int64) (I : Nat → IT) (e : ET) (k : Nat) : (tellN B ni t I e k).2.1 ≤ e.1 + 2 * k := by
  induction k with
  | zero => exact Nat.le_refl _
  | succ k ih =>
    simp only [tellN]
    split
    · have := tellO_n B (tellN B ni t I e k).1 ni t k (tellN B ni t I e k).2
      omega
    · omega
set_option maxHeartbeats 4000000 in
set_option maxRecDepth 100000 in
theorem c_S_tellEdges {l : Launch} {D : va_G} {dA : Nat → ClassId} {g : Nat → Option va_E}  (h : SRep dA ad g nb ni now B I n tk fr) (hn : n + 200 < 2 ^ 31) (t : Int64) : CtV l D classes (tyL dA) y_S_tellEdges b_S_tellEdges 4 none rm_S_tellEdges [.ref (ad 0), .long t] g (fun g' => SRep dA ad g' nb ni now B (tellN B ni t I (n, fr) ni).1 (tellN B ni t I (n, fr) ni).2.1 tk (tellN B ni t I (n, fr) ni).2.2 ∧ SFr ad nb ni g g') := by
  refine CtV.of (by decide) (Nat.le_of_ble_eq_true rfl) ?_
  intro p e s m below meth c X hr hlk hnm
  have hni := h.ni60
  have loop : ∀ (f k : Nat) (g1 : Nat → Option va_E) (s1 : (Nat → IT) × ET), k + f = ni → s1 = tellN B ni t I (n, fr) k → SRep dA ad g1 nb ni now B s1.1 s1.2.1 tk s1.2.2 → SFr ad nb ni g g1 → Go p l e rm_S_tellEdges s m [.ref (ad 0), .long t].toArray below meth c D classes (gA g s.heap.size) 4 (MQ below (va_Qv (fun g' => SRep dA ad g' nb ni now B (tellN B ni t I (n, fr) ni).1 (tellN B ni t I (n, fr) ni).2.1 tk (tellN B ni t I (n, fr) ni).2.2 ∧ SFr ad nb ni g g') (fun (g' : Nat → Option va_E) (t : State) => PW D classes (gA g s.heap.size) g' t.heap) (gA g s.heap.size)) [.ref (ad 0), .long t].toArray s 0 0 (gA g s.heap.size)) g1 0 0 2 [(3, .int ((nI k))), (0, .ref (ad 0)), (1, .long t)] [] := by
    intro f
    induction f with
    | zero =>
      intro k g1 s1 hk hs h1 hF
      have hkn : k = ni := by omega
      subst hkn
      refine go_iload_n X (z := 0) d_S_tellEdges_2 rfl rfl ?_
      refine go_aload_n X (z := 1) d_S_tellEdges_3 rfl rfl ?_
      refine go_get X u_S rfl 3 (by decide) gm_fl_S_25 rfl d_S_tellEdges_4 h1.this rfl ?_
      refine go_icmp_ge X (tgt := 41) d_S_tellEdges_7 rfl (fun c1 => ?_) (fun c1 => absurd (Int32.le_refl _) c1)
      exact go_retV X hr hlk d_S_tellEdges_41 ⟨hs ▸ h1, hF⟩
    | succ f ih =>
      intro k g1 s1 hkf hs h1 hF
      have hk : k < ni := by omega
      have hnk := tellN_n B ni t I (n, fr) k
      rw [← hs] at hnk
      simp only at hnk
      refine go_iload_n X (z := 0) d_S_tellEdges_2 rfl rfl ?_
      refine go_aload_n X (z := 1) d_S_tellEdges_3 rfl rfl ?_
      refine go_get X u_S rfl 3 (by decide) gm_fl_S_25 rfl d_S_tellEdges_4 h1.this rfl ?_
      refine go_icmp_ge X (tgt := 41) d_S_tellEdges_7 rfl (fun c1 => absurd c1 (nI_ge (a := k) (b := ni) hk (by omega))) (fun c1 => ?_)
      refine go_aload_n X (z := 1) d_S_tellEdges_10 rfl rfl ?_
      refine go_get X u_S rfl 2 (by decide) gm_fl_S_21 rfl d_S_tellEdges_11 h1.this rfl ?_
      refine go_iload_n X (z := 0) d_S_tellEdges_14 rfl rfl ?_
      refine go_aald X 4 rfl d_S_tellEdges_15 h1.is (vp_in_nI (by omega) (by decide)) ?_
      rw [iTab_at hk h1.ni60]
      refine go_get X u_I rfl 4 (by decide) gm_fl_S_164 rfl d_S_tellEdges_16 (h1.i hk) rfl ?_
      refine go_lload_n X (z := 2) d_S_tellEdges_19 rfl rfl ?_
      refine go_lif_ne X (tgt := 35) d_S_tellEdges_20 d_S_tellEdges_21 rfl (fun c2 => ?_) (fun c2 => ?_)
      · refine go_iinc X (j := 0) (v := nI (k + 1)) d_S_tellEdges_35 rfl (nI_1 k) (by decide) rfl ?_
        refine go_goto X (tgt := 2) d_S_tellEdges_38 rfl ?_
        exact ih (k + 1) _ s1 (by omega) (by rw [hs]; simp only [tellN]; rw [← hs, if_neg c2]) h1 hF
      · refine go_aload_n X (z := 1) d_S_tellEdges_24 rfl rfl ?_
        refine go_aload_n X (z := 1) d_S_tellEdges_25 rfl rfl ?_
        refine go_get X u_S rfl 2 (by decide) gm_fl_S_21 rfl d_S_tellEdges_26 h1.this rfl ?_
        refine go_iload_n X (z := 0) d_S_tellEdges_29 rfl rfl ?_
        refine go_aald X 4 rfl d_S_tellEdges_30 h1.is (vp_in_nI (by omega) (by decide)) ?_
        rw [iTab_at hk h1.ni60]
        refine go_lload_n X (z := 2) d_S_tellEdges_31 rfl rfl ?_
        refine go_callV_V X (As := [.ref (iA ad k), .long t]) (rest := []) (c_S_tellEdgesOf h1 hk (by omega) t) gm_ml_S_170 cw_S_tellEdgesOf ⟨by decide, by decide⟩ rfl h1.this rfl rfl (Nat.le_of_ble_eq_true rfl) d_S_tellEdges_32 ⟨by decide, by decide⟩ (fun gz hz => ?_)
        refine go_iinc X (j := 0) (v := nI (k + 1)) d_S_tellEdges_35 rfl (nI_1 k) (by decide) rfl ?_
        refine go_goto X (tgt := 2) d_S_tellEdges_38 rfl ?_
        exact ih (k + 1) _ (tellO B s1.1 ni t k s1.2) (by omega) (by rw [hs]; simp only [tellN]; rw [← hs, if_pos c2]) hz.1 (hF.trans hz.2)
  refine go_iconst X (v := 0) d_S_tellEdges_0 (by decide) ?_
  refine go_istore_n X (lv' := [(3, .int (nI 0)), (0, .ref (ad 0)), (1, .long t)]) d_S_tellEdges_1 rfl (by decide) rfl ?_
  exact loop ni 0 g (I, (n, fr)) (Nat.zero_add _) rfl h SFr.rfl'
end S2
