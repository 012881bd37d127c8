/-! BeltSteps: its private methods. -/
theorem ix_of {x : Int32} {n : Nat} (h1 : ¬ x < 0) (h2 : ¬ nI n ≤ x) (hn : n < 2 ^ 31) : ∃ k, k < n ∧ x = nI k := by
  rcases pk_ix x hn with h | h | h
  · exact absurd h h1
  · exact absurd h h2
  · exact h
theorem ix_lt {x : Int32} {n : Nat} (h : x < 0) (hn : n < 2 ^ 31) : ∀ k, k < n → x ≠ nI k := fun k hk e => nI_pos (n := k) (by omega) (by rw [← e]; exact h)
theorem ix_ge {x : Int32} {n : Nat} (h : nI n ≤ x) (hn : n < 2 ^ 31) : ∀ k, k < n → x ≠ nI k := fun k hk e => nI_ge (a := k) (b := n) hk hn (by rw [← e]; exact h)
theorem i1_of {x : Int32} {n : Nat} (h1 : ¬ x < 1) (h2 : ¬ nI n < x) (hn : n < 2 ^ 30) : ∃ k, k < n ∧ x = nI (k + 1) := by
  have a1 : 1 ≤ x.toInt := by
    have := fun q => h1 (Int32.lt_iff_toInt_lt.mpr q)
    simp at this
    exact this
  have a2 : x.toInt ≤ n := by
    have := fun q => h2 (Int32.lt_iff_toInt_lt.mpr q)
    rw [nI_toInt (by omega)] at this
    exact Int.not_lt.mp this
  refine ⟨x.toInt.toNat - 1, by omega, ?_⟩
  apply Int32.toInt_inj.mp
  rw [nI_toInt (by omega)]
  omega
theorem i1_lt {x : Int32} {n : Nat} (h : x < 1) (hn : n < 2 ^ 30) : ∀ k, k < n → x ≠ nI (k + 1) := fun k hk e => nI_nlt (a := k + 1) (b := 1) (by omega) (by omega) (by rw [← e]; exact h)
theorem i1_gt {x : Int32} {n : Nat} (h : nI n < x) (hn : n < 2 ^ 30) : ∀ k, k < n → x ≠ nI (k + 1) := fun k hk e => nI_nlt (a := n) (b := k + 1) (by omega) (by omega) (by rw [← e]; exact h)
theorem isOn_1 {I : Nat → IT} {k j : Nat} (h : ¬ isOnF I k j = 0) : iBt (I k) = some j ∧ iWt (I k) = 0 := by
  unfold isOnF at h
  by_cases h1 : iBt (I k) = some j
  · by_cases h2 : iWt (I k) = 0
    · exact ⟨h1, h2⟩
    · rw [if_pos h1, if_neg h2] at h; exact absurd rfl h
  · rw [if_neg h1] at h; exact absurd rfl h
theorem isOn_0 {I : Nat → IT} {k j : Nat} {x y : Nat → IT} (h : isOnF I k j = 0) : (if iBt (I k) = some j then (if iWt (I k) = 0 then x else y) else y) = y := by
  unfold isOnF at h
  by_cases h1 : iBt (I k) = some j
  · by_cases h2 : iWt (I k) = 0
    · rw [if_pos h1, if_pos h2] at h; exact absurd h (by decide)
    · rw [if_pos h1, if_neg h2]
  · rw [if_neg h1]
section S1
variable {ad : Nat → Nat} {nb ni : Nat} {now : Int64} {B : Nat → BT} {I : Nat → IT} {n : Nat} {tk : Int32} {fr : Nat → Int32}
set_option maxHeartbeats 4000000 in
set_option maxRecDepth 100000 in
theorem c_S_beltNumbered {l : Launch} {D : va_G} {dA : Nat → ClassId} {g : Nat → Option va_E}  (h : SRep dA ad g nb ni now B I n tk fr) (x : Int32) : CtR l D classes (tyL dA) y_S_beltNumbered b_S_beltNumbered 2 (some (.object "BeltSteps$Belt")) rm_S_beltNumbered [.ref (ad 0), .int x] g (fun r g' => g = g' ∧ ((∃ k, k < nb ∧ x = nI k ∧ r = some (bA ad k)) ∨ (r = none ∧ ∀ k, k < nb → x ≠ nI k))) := by
  refine CtR.of (by decide) (Nat.le_of_ble_eq_true rfl) ?_
  intro p e s m below meth c X hr hlk hnm
  refine go_iload_n X (z := 1) d_S_beltNumbered_0 rfl rfl ?_
  refine go_if_lt X (tgt := 21) d_S_beltNumbered_1 rfl (fun c1 => ?_) (fun c1 => ?_)
  · refine go_null X d_S_beltNumbered_21 ?_
    exact go_retR X (v := none) hr hlk d_S_beltNumbered_22 ⟨rfl, Or.inr ⟨rfl, ix_lt c1 (by have := h.nb12; omega)⟩⟩
  · refine go_iload_n X (z := 1) d_S_beltNumbered_4 rfl rfl ?_
    refine go_aload_n X (z := 0) d_S_beltNumbered_5 rfl rfl ?_
    refine go_get X u_S rfl 1 (by decide) gm_fl_S_15 rfl d_S_beltNumbered_6 h.this rfl ?_
    refine go_icmp_ge X (tgt := 21) d_S_beltNumbered_9 rfl (fun c2 => ?_) (fun c2 => ?_)
    · refine go_null X d_S_beltNumbered_21 ?_
      exact go_retR X (v := none) hr hlk d_S_beltNumbered_22 ⟨rfl, Or.inr ⟨rfl, ix_ge c2 (by have := h.nb12; omega)⟩⟩
    · have hnb := h.nb12
      obtain ⟨k, hk, rfl⟩ := ix_of c1 c2 (by omega)
      refine go_aload_n X (z := 0) d_S_beltNumbered_12 rfl rfl ?_
      refine go_get X u_S rfl 0 (by decide) gm_fl_S_11 rfl d_S_beltNumbered_13 h.this rfl ?_
      refine go_iload_n X (z := 1) d_S_beltNumbered_16 rfl rfl ?_
      refine go_aald X 3 rfl d_S_beltNumbered_17 h.bs (vp_in_nI (by omega) (by decide)) ?_
      rw [bTab_at hk h.nb12]
      refine go_goto X (tgt := 22) d_S_beltNumbered_18 rfl ?_
      exact go_retR X (v := (some (bA ad k))) hr hlk d_S_beltNumbered_22 ⟨rfl, Or.inl ⟨k, hk, rfl, rfl⟩⟩
set_option maxHeartbeats 4000000 in
set_option maxRecDepth 100000 in
theorem c_S_itemNumbered {l : Launch} {D : va_G} {dA : Nat → ClassId} {g : Nat → Option va_E}  (h : SRep dA ad g nb ni now B I n tk fr) (x : Int32) : CtR l D classes (tyL dA) y_S_itemNumbered b_S_itemNumbered 2 (some (.object "BeltSteps$Item")) rm_S_itemNumbered [.ref (ad 0), .int x] g (fun r g' => g = g' ∧ ((∃ k, k < ni ∧ x = nI (k + 1) ∧ r = some (iA ad k)) ∨ (r = none ∧ ∀ k, k < ni → x ≠ nI (k + 1)))) := by
  refine CtR.of (by decide) (Nat.le_of_ble_eq_true rfl) ?_
  intro p e s m below meth c X hr hlk hnm
  refine go_iload_n X (z := 1) d_S_itemNumbered_0 rfl rfl ?_
  refine go_iconst X (v := 1) d_S_itemNumbered_1 (by decide) ?_
  refine go_icmp_lt X (tgt := 24) d_S_itemNumbered_2 rfl (fun c1 => ?_) (fun c1 => ?_)
  · refine go_null X d_S_itemNumbered_24 ?_
    exact go_retR X (v := none) hr hlk d_S_itemNumbered_25 ⟨rfl, Or.inr ⟨rfl, i1_lt c1 (by have := h.ni60; omega)⟩⟩
  · refine go_iload_n X (z := 1) d_S_itemNumbered_5 rfl rfl ?_
    refine go_aload_n X (z := 0) d_S_itemNumbered_6 rfl rfl ?_
    refine go_get X u_S rfl 3 (by decide) gm_fl_S_25 rfl d_S_itemNumbered_7 h.this rfl ?_
    refine go_icmp_gt X (tgt := 24) d_S_itemNumbered_10 rfl (fun c2 => ?_) (fun c2 => ?_)
    · refine go_null X d_S_itemNumbered_24 ?_
      exact go_retR X (v := none) hr hlk d_S_itemNumbered_25 ⟨rfl, Or.inr ⟨rfl, i1_gt c2 (by have := h.ni60; omega)⟩⟩
    · have hni := h.ni60
      obtain ⟨k, hk, rfl⟩ := i1_of c1 c2 (by omega)
      refine go_aload_n X (z := 0) d_S_itemNumbered_13 rfl rfl ?_
      refine go_get X u_S rfl 2 (by decide) gm_fl_S_21 rfl d_S_itemNumbered_14 h.this rfl ?_
      refine go_iload_n X (z := 1) d_S_itemNumbered_17 rfl rfl ?_
      refine go_iconst X (v := 1) d_S_itemNumbered_18 (by decide) ?_
      refine go_isub X d_S_itemNumbered_19 ?_
      refine go_aald X 4 rfl d_S_itemNumbered_20 h.is (by rw [nI_pred]; exact vp_in_nI (by omega) (by decide)) ?_
      rw [nI_pred, iTab_at hk h.ni60]
      refine go_goto X (tgt := 25) d_S_itemNumbered_21 rfl ?_
      exact go_retR X (v := (some (iA ad k))) hr hlk d_S_itemNumbered_25 ⟨rfl, Or.inl ⟨k, hk, rfl, rfl⟩⟩
set_option maxHeartbeats 4000000 in
set_option maxRecDepth 100000 in
theorem c_S_isNowOrLater {l : Launch} {D : va_G} {dA : Nat → ClassId} {g : Nat → Option va_E}  (h : SRep dA ad g nb ni now B I n tk fr) (t : Int64) : CtI l D classes (tyL dA) y_S_isNowOrLater b_S_isNowOrLater 3 (some .boolean) rm_S_isNowOrLater [.ref (ad 0), .long t] g (fun r g' => g = g' ∧ r = nolF now t) := by
  refine CtI.of (by decide) (Nat.le_of_ble_eq_true rfl) ?_
  intro p e s m below meth c X hr hlk hnm
  refine go_lload_n X (z := 1) d_S_isNowOrLater_0 rfl rfl ?_
  refine go_aload_n X (z := 0) d_S_isNowOrLater_1 rfl rfl ?_
  refine go_get X u_S rfl 5 (by decide) gm_fl_S_35 rfl d_S_isNowOrLater_2 h.this rfl ?_
  refine go_lif_lt X (tgt := 21) d_S_isNowOrLater_5 d_S_isNowOrLater_6 rfl (fun c1 => ?_) (fun c1 => ?_)
  · refine go_iconst X (v := 0) d_S_isNowOrLater_21 (by decide) ?_
    exact go_retZ X hr rfl hlk d_S_isNowOrLater_22 ⟨rfl, by simp only [nolF, if_pos c1]⟩
  · refine go_lload_n X (z := 1) d_S_isNowOrLater_9 rfl rfl ?_
    refine go_ldc2 X d_S_isNowOrLater_10 gm_k_S_149 ?_
    refine go_lif_gt X (tgt := 21) d_S_isNowOrLater_13 d_S_isNowOrLater_14 rfl (fun c2 => ?_) (fun c2 => ?_)
    · refine go_iconst X (v := 0) d_S_isNowOrLater_21 (by decide) ?_
      exact go_retZ X hr rfl hlk d_S_isNowOrLater_22 ⟨rfl, by simp only [nolF, if_neg c1, if_pos c2]⟩
    · refine go_iconst X (v := 1) d_S_isNowOrLater_17 (by decide) ?_
      refine go_goto X (tgt := 22) d_S_isNowOrLater_18 rfl ?_
      exact go_retZ X hr rfl hlk d_S_isNowOrLater_22 ⟨rfl, by simp only [nolF, if_neg c1, if_neg c2]⟩
set_option maxHeartbeats 4000000 in
set_option maxRecDepth 100000 in
theorem c_S_nextTurn {l : Launch} {D : va_G} {dA : Nat → ClassId} {g : Nat → Option va_E}  (h : SRep dA ad g nb ni now B I n tk fr) : CtL l D classes (tyL dA) y_S_nextTurn b_S_nextTurn 4 (some .long) rm_S_nextTurn [.ref (ad 0)] g (fun r g' => g = g' ∧ r = nextN I ni) := by
  refine CtL.of (by decide) (Nat.le_of_ble_eq_true rfl) ?_
  intro p e s m below meth c X hr hlk hnm
  have hni := h.ni60
  have loop : ∀ (f k : Nat) (v : Int64), k + f = ni → v = nextN I k → Go p l e rm_S_nextTurn s m [.ref (ad 0)].toArray below meth c D classes (gA g s.heap.size) 4 (MQ below (va_Ql (fun r g' => g = g' ∧ r = nextN I ni) (fun (g' : Nat → Option va_E) (t : State) => PW D classes (gA g s.heap.size) g' t.heap) (gA g s.heap.size)) [.ref (ad 0)].toArray s 0 0 (gA g s.heap.size)) g 0 0 6 [(3, .int ((nI k))), (0, .ref (ad 0)), (1, .long v)] [] := by
    intro f
    induction f with
    | zero =>
      intro k v hk hv
      have hkn : k = ni := by omega
      subst hkn
      refine go_iload_n X (z := 0) d_S_nextTurn_6 rfl rfl ?_
      refine go_aload_n X (z := 1) d_S_nextTurn_7 rfl rfl ?_
      refine go_get X u_S rfl 3 (by decide) gm_fl_S_25 rfl d_S_nextTurn_8 h.this rfl ?_
      refine go_icmp_ge X (tgt := 44) d_S_nextTurn_11 rfl (fun c1 => ?_) (fun c1 => absurd (Int32.le_refl _) c1)
      refine go_lload_n X (z := 2) d_S_nextTurn_44 rfl rfl ?_
      exact go_retL X hr hlk d_S_nextTurn_45 ⟨rfl, hv⟩
    | succ f ih =>
      intro k v hkf hv
      have hk : k < ni := by omega
      refine go_iload_n X (z := 0) d_S_nextTurn_6 rfl rfl ?_
      refine go_aload_n X (z := 1) d_S_nextTurn_7 rfl rfl ?_
      refine go_get X u_S rfl 3 (by decide) gm_fl_S_25 rfl d_S_nextTurn_8 h.this rfl ?_
      refine go_icmp_ge X (tgt := 44) d_S_nextTurn_11 rfl (fun c1 => absurd c1 (nI_ge (a := k) (b := ni) hk (by omega))) (fun c1 => ?_)
      refine go_aload_n X (z := 1) d_S_nextTurn_14 rfl rfl ?_
      refine go_get X u_S rfl 2 (by decide) gm_fl_S_21 rfl d_S_nextTurn_15 h.this rfl ?_
      refine go_iload_n X (z := 0) d_S_nextTurn_18 rfl rfl ?_
      refine go_aald X 4 rfl d_S_nextTurn_19 h.is (vp_in_nI (by omega) (by decide)) ?_
      rw [iTab_at hk h.ni60]
      refine go_get X u_I rfl 4 (by decide) gm_fl_S_164 rfl d_S_nextTurn_20 (h.i hk) rfl ?_
      refine go_lload_n X (z := 2) d_S_nextTurn_23 rfl rfl ?_
      refine go_lif_ge X (tgt := 38) d_S_nextTurn_24 d_S_nextTurn_25 rfl (fun c2 => ?_) (fun c2 => ?_)
      · refine go_iinc X (j := 0) (v := nI (k + 1)) d_S_nextTurn_38 rfl (nI_1 k) (by decide) rfl ?_
        refine go_goto X (tgt := 6) d_S_nextTurn_41 rfl ?_
        refine go_sub (lv' := [(3, .int (nI (k + 1))), (0, .ref (ad 0)), (1, .long v)]) [0, 1, 2] rfl ?_
        exact ih (k + 1) _ (by omega) (by simp only [nextN]; rw [← hv, if_pos c2])
      · refine go_aload_n X (z := 1) d_S_nextTurn_28 rfl rfl ?_
        refine go_get X u_S rfl 2 (by decide) gm_fl_S_21 rfl d_S_nextTurn_29 h.this rfl ?_
        refine go_iload_n X (z := 0) d_S_nextTurn_32 rfl rfl ?_
        refine go_aald X 4 rfl d_S_nextTurn_33 h.is (vp_in_nI (by omega) (by decide)) ?_
        rw [iTab_at hk h.ni60]
        refine go_get X u_I rfl 4 (by decide) gm_fl_S_164 rfl d_S_nextTurn_34 (h.i hk) rfl ?_
        refine go_topl (fun x3 ex3 => ?_)
        refine go_lstore_n X (lv' := [(1, .long x3), (3, .int ((nI k))), (0, .ref (ad 0))]) d_S_nextTurn_37 rfl (by decide) rfl ?_
        refine go_iinc X (j := 1) (v := nI (k + 1)) d_S_nextTurn_38 rfl (nI_1 k) (by decide) rfl ?_
        refine go_goto X (tgt := 6) d_S_nextTurn_41 rfl ?_
        refine go_sub (lv' := [(3, .int (nI (k + 1))), (0, .ref (ad 0)), (1, .long x3)]) [0, 2, 1] rfl ?_
        exact ih (k + 1) _ (by omega) (by rw [ex3]; simp only [nextN]; rw [← hv, if_neg c2])
  refine go_ldc2 X d_S_nextTurn_0 gm_k_S_162 ?_
  refine go_lstore_n X (lv' := [(1, .long 1000000000000), (0, .ref (ad 0))]) d_S_nextTurn_3 rfl (by decide) rfl ?_
  refine go_iconst X (v := 0) d_S_nextTurn_4 (by decide) ?_
  refine go_istore_n X (lv' := [(3, .int (nI 0)), (1, .long 1000000000000), (0, .ref (ad 0))]) d_S_nextTurn_5 rfl (by decide) rfl ?_
  refine go_sub (lv' := [(3, .int (nI 0)), (0, .ref (ad 0)), (1, .long 1000000000000)]) [0, 2, 1] rfl ?_
  exact loop ni 0 _ (Nat.zero_add _) rfl
set_option maxHeartbeats 4000000 in
set_option maxRecDepth 100000 in
theorem c_S_moveItems {l : Launch} {D : va_G} {dA : Nat → ClassId} {g : Nat → Option va_E}  (h : SRep dA ad g nb ni now B I n tk fr) (t : Int64) : CtV l D classes (tyL dA) y_S_moveItems b_S_moveItems 4 none rm_S_moveItems [.ref (ad 0), .long t] g (fun g' => SRep dA ad g' nb ni now B (moveN B t I ni) n tk fr ∧ SFr ad nb ni g g') := by
  refine CtV.of (by decide) (Nat.le_of_ble_eq_true rfl) ?_
  intro p e s m below meth c X hr hlk hnm
  have hni := h.ni60
  have loop : ∀ (f k : Nat) (g1 : Nat → Option va_E) (I1 : Nat → IT), k + f = ni → I1 = moveN B t I k → SRep dA ad g1 nb ni now B I1 n tk fr → SFr ad nb ni g g1 → Go p l e rm_S_moveItems s m [.ref (ad 0), .long t].toArray below meth c D classes (gA g s.heap.size) 4 (MQ below (va_Qv (fun g' => SRep dA ad g' nb ni now B (moveN B t I ni) n tk fr ∧ SFr ad nb ni g g') (fun (g' : Nat → Option va_E) (t : State) => PW D classes (gA g s.heap.size) g' t.heap) (gA g s.heap.size)) [.ref (ad 0), .long t].toArray s 0 0 (gA g s.heap.size)) g1 0 0 2 [(3, .int ((nI k))), (0, .ref (ad 0)), (1, .long t)] [] := by
    intro f
    induction f with
    | zero =>
      intro k g1 I1 hk hI h1 hF
      have hkn : k = ni := by omega
      subst hkn
      refine go_iload_n X (z := 0) d_S_moveItems_2 rfl rfl ?_
      refine go_aload_n X (z := 1) d_S_moveItems_3 rfl rfl ?_
      refine go_get X u_S rfl 3 (by decide) gm_fl_S_25 rfl d_S_moveItems_4 h1.this rfl ?_
      refine go_icmp_ge X (tgt := 40) d_S_moveItems_7 rfl (fun c1 => ?_) (fun c1 => absurd (Int32.le_refl _) c1)
      exact go_retV X hr hlk d_S_moveItems_40 ⟨hI ▸ h1, hF⟩
    | succ f ih =>
      intro k g1 I1 hkf hI h1 hF
      have hk : k < ni := by omega
      refine go_iload_n X (z := 0) d_S_moveItems_2 rfl rfl ?_
      refine go_aload_n X (z := 1) d_S_moveItems_3 rfl rfl ?_
      refine go_get X u_S rfl 3 (by decide) gm_fl_S_25 rfl d_S_moveItems_4 h1.this rfl ?_
      refine go_icmp_ge X (tgt := 40) d_S_moveItems_7 rfl (fun c1 => absurd c1 (nI_ge (a := k) (b := ni) hk (by omega))) (fun c1 => ?_)
      refine go_aload_n X (z := 1) d_S_moveItems_10 rfl rfl ?_
      refine go_get X u_S rfl 2 (by decide) gm_fl_S_21 rfl d_S_moveItems_11 h1.this rfl ?_
      refine go_iload_n X (z := 0) d_S_moveItems_14 rfl rfl ?_
      refine go_aald X 4 rfl d_S_moveItems_15 h1.is (vp_in_nI (by omega) (by decide)) ?_
      rw [iTab_at hk h1.ni60]
      refine go_get X u_I rfl 4 (by decide) gm_fl_S_164 rfl d_S_moveItems_16 (h1.i hk) rfl ?_
      refine go_lload_n X (z := 2) d_S_moveItems_19 rfl rfl ?_
      refine go_lif_ne X (tgt := 34) d_S_moveItems_20 d_S_moveItems_21 rfl (fun c2 => ?_) (fun c2 => ?_)
      · refine go_iinc X (j := 0) (v := nI (k + 1)) d_S_moveItems_34 rfl (nI_1 k) (by decide) rfl ?_
        refine go_goto X (tgt := 2) d_S_moveItems_37 rfl ?_
        exact ih (k + 1) _ I1 (by omega) (by rw [hI]; simp only [moveN]; rw [← hI, if_neg c2]) h1 hF
      · refine go_aload_n X (z := 1) d_S_moveItems_24 rfl rfl ?_
        refine go_get X u_S rfl 2 (by decide) gm_fl_S_21 rfl d_S_moveItems_25 h1.this rfl ?_
        refine go_iload_n X (z := 0) d_S_moveItems_28 rfl rfl ?_
        refine go_aald X 4 rfl d_S_moveItems_29 h1.is (vp_in_nI (by omega) (by decide)) ?_
        rw [iTab_at hk h1.ni60]
        refine go_lload_n X (z := 2) d_S_moveItems_30 rfl rfl ?_
        refine go_callV_V X (As := [.long t]) (rest := []) (s_moveOver h1 hk t) gm_ml_S_167 cw_I_moveOver ⟨by decide, by decide⟩ rfl (h1.i hk) rfl rfl (Nat.le_of_ble_eq_true rfl) d_S_moveItems_31 ⟨by decide, by decide⟩ (fun gz hz => ?_)
        refine go_iinc X (j := 0) (v := nI (k + 1)) d_S_moveItems_34 rfl (nI_1 k) (by decide) rfl ?_
        refine go_goto X (tgt := 2) d_S_moveItems_37 rfl ?_
        exact ih (k + 1) _ (va_up I1 k (moveI B (I1 k) t)) (by omega) (by rw [hI]; simp only [moveN]; rw [← hI, if_pos c2]) (hz ▸ h1.setI hk (moveI_ok h1 hk t)) (hF.trans (hz ▸ SFr.up (okI hk)))
  refine go_iconst X (v := 0) d_S_moveItems_0 (by decide) ?_
  refine go_istore_n X (lv' := [(3, .int (nI 0)), (0, .ref (ad 0)), (1, .long t)]) d_S_moveItems_1 rfl (by decide) rfl ?_
  exact loop ni 0 g I (Nat.zero_add _) rfl h SFr.rfl'
set_option maxHeartbeats 4000000 in
set_option maxRecDepth 100000 in
theorem c_S_aimItemsOn {l : Launch} {D : va_G} {dA : Nat → ClassId} {g : Nat → Option va_E}  (h : SRep dA ad g nb ni now B I n tk fr) {j : Nat} (hj : j < nb) : CtV l D classes (tyL dA) y_S_aimItemsOn b_S_aimItemsOn 3 none rm_S_aimItemsOn [.ref (ad 0), .ref (bA ad j)] g (fun g' => SRep dA ad g' nb ni now B (aimN B j I ni) n tk fr ∧ SFr ad nb ni g g') := by
  refine CtV.of (by decide) (Nat.le_of_ble_eq_true rfl) ?_
  intro p e s m below meth c X hr hlk hnm
  have hni := h.ni60
  have loop : ∀ (f k : Nat) (g1 : Nat → Option va_E) (I1 : Nat → IT), k + f = ni → I1 = aimN B j I k → SRep dA ad g1 nb ni now B I1 n tk fr → SFr ad nb ni g g1 → Go p l e rm_S_aimItemsOn s m [.ref (ad 0), .ref (bA ad j)].toArray below meth c D classes (gA g s.heap.size) 3 (MQ below (va_Qv (fun g' => SRep dA ad g' nb ni now B (aimN B j I ni) n tk fr ∧ SFr ad nb ni g g') (fun (g' : Nat → Option va_E) (t : State) => PW D classes (gA g s.heap.size) g' t.heap) (gA g s.heap.size)) [.ref (ad 0), .ref (bA ad j)].toArray s 0 0 (gA g s.heap.size)) g1 0 0 2 [(2, .int ((nI k))), (0, .ref (ad 0)), (1, .ref (bA ad j))] [] := by
    intro f
    induction f with
    | zero =>
      intro k g1 I1 hk hI h1 hF
      have hkn : k = ni := by omega
      subst hkn
      refine go_iload_n X (z := 0) d_S_aimItemsOn_2 rfl rfl ?_
      refine go_aload_n X (z := 1) d_S_aimItemsOn_3 rfl rfl ?_
      refine go_get X u_S rfl 3 (by decide) gm_fl_S_25 rfl d_S_aimItemsOn_4 h1.this rfl ?_
      refine go_icmp_ge X (tgt := 38) d_S_aimItemsOn_7 rfl (fun c1 => ?_) (fun c1 => absurd (Int32.le_refl _) c1)
      exact go_retV X hr hlk d_S_aimItemsOn_38 ⟨hI ▸ h1, hF⟩
    | succ f ih =>
      intro k g1 I1 hkf hI h1 hF
      have hk : k < ni := by omega
      refine go_iload_n X (z := 0) d_S_aimItemsOn_2 rfl rfl ?_
      refine go_aload_n X (z := 1) d_S_aimItemsOn_3 rfl rfl ?_
      refine go_get X u_S rfl 3 (by decide) gm_fl_S_25 rfl d_S_aimItemsOn_4 h1.this rfl ?_
      refine go_icmp_ge X (tgt := 38) d_S_aimItemsOn_7 rfl (fun c1 => absurd c1 (nI_ge (a := k) (b := ni) hk (by omega))) (fun c1 => ?_)
      refine go_aload_n X (z := 1) d_S_aimItemsOn_10 rfl rfl ?_
      refine go_get X u_S rfl 2 (by decide) gm_fl_S_21 rfl d_S_aimItemsOn_11 h1.this rfl ?_
      refine go_iload_n X (z := 0) d_S_aimItemsOn_14 rfl rfl ?_
      refine go_aald X 4 rfl d_S_aimItemsOn_15 h1.is (vp_in_nI (by omega) (by decide)) ?_
      rw [iTab_at hk h1.ni60]
      refine go_aload_n X (z := 2) d_S_aimItemsOn_16 rfl rfl ?_
      refine go_callI_V X (As := [.ref (bA ad j)]) (rest := []) (s_isOn h1 hk hj) gm_ml_S_141 cw_I_isOn ⟨by decide, by decide⟩ rfl (h1.i hk) rfl rfl (Nat.le_of_ble_eq_true rfl) d_S_aimItemsOn_17 ⟨by decide, by decide⟩ (fun ru gu hu => ?_)
      obtain ⟨rfl, rfl⟩ := hu
      refine go_if_eq X (tgt := 32) d_S_aimItemsOn_20 rfl (fun c2 => ?_) (fun c2 => ?_)
      · refine go_iinc X (j := 0) (v := nI (k + 1)) d_S_aimItemsOn_32 rfl (nI_1 k) (by decide) rfl ?_
        refine go_goto X (tgt := 2) d_S_aimItemsOn_35 rfl ?_
        exact ih (k + 1) _ I1 (by omega) (by rw [hI]; simp only [aimN]; rw [← hI]; exact (isOn_0 c2).symm) h1 hF
      · refine go_aload_n X (z := 1) d_S_aimItemsOn_23 rfl rfl ?_
        refine go_get X u_S rfl 2 (by decide) gm_fl_S_21 rfl d_S_aimItemsOn_24 h1.this rfl ?_
        refine go_iload_n X (z := 0) d_S_aimItemsOn_27 rfl rfl ?_
        refine go_aald X 4 rfl d_S_aimItemsOn_28 h1.is (vp_in_nI (by omega) (by decide)) ?_
        rw [iTab_at hk h1.ni60]
        refine go_callV_V X (As := []) (rest := []) (s_aim h1 hk) gm_ml_S_124 cw_I_aim ⟨by decide, by decide⟩ rfl (h1.i hk) rfl rfl (Nat.le_of_ble_eq_true rfl) d_S_aimItemsOn_29 ⟨by decide, by decide⟩ (fun gz hz => ?_)
        refine go_iinc X (j := 0) (v := nI (k + 1)) d_S_aimItemsOn_32 rfl (nI_1 k) (by decide) rfl ?_
        refine go_goto X (tgt := 2) d_S_aimItemsOn_35 rfl ?_
        exact ih (k + 1) _ (va_up I1 k (aimI B (I1 k))) (by omega) (by rw [hI]; simp only [aimN]; rw [← hI, if_pos (isOn_1 c2).1, if_pos (isOn_1 c2).2]) (hz ▸ h1.setI hk (fun q hq => h1.bt hk (by rw [aimI_bt] at hq; exact hq))) (hF.trans (hz ▸ SFr.up (okI hk)))
  refine go_iconst X (v := 0) d_S_aimItemsOn_0 (by decide) ?_
  refine go_istore_n X (lv' := [(2, .int (nI 0)), (0, .ref (ad 0)), (1, .ref (bA ad j))]) d_S_aimItemsOn_1 rfl (by decide) rfl ?_
  exact loop ni 0 g I (Nat.zero_add _) rfl h SFr.rfl'
end S1
