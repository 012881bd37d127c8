/-! The reference: its small methods, tell, isShort. -/
def tlL (L : LA) (ed : Nat) (now : Int64) : LA := if 400 ≤ ed then L else va_up L 21 (vp_updL (L 21) ed now)
def tlJ (J : JA) (ed i : Nat) (kind : Int32) : JA := if 400 ≤ ed then J else va_up (va_up (va_up J 22 (upd (J 22) ed (J 14 i))) 23 (upd (J 23) ed (nI i))) 24 (upd (J 24) ed kind)
def mK (now : Int64) (L : LA) (J : JA) (i k : Nat) : Prop := nI k ≠ nI i ∧ ¬ thereF now L J k = 0 ∧ J 14 k = J 14 i ∧ (L 15 i < L 15 k ∨ (L 15 k = L 15 i ∧ nI k < nI i)) ∧ L 15 k - L 12 k < L 15 i + 50000
noncomputable def shMU (now : Int64) (L : LA) (J : JA) (i k : Nat) : Int32 := by
  classical
  exact if ∃ q, 1 ≤ q ∧ q < k ∧ mK now L J i q then 1 else 0
theorem shMU_1 {now : Int64} {L : LA} {J : JA} {i k : Nat} (hk : 1 ≤ k) (h : mK now L J i k) : shMU now L J i (k + 1) = 1 := if_pos ⟨k, hk, Nat.lt_succ_self k, h⟩
theorem shMU_n {now : Int64} {L : LA} {J : JA} {i k : Nat} (h : ¬ mK now L J i k) : shMU now L J i (k + 1) = shMU now L J i k := by
  unfold shMU
  by_cases hx : ∃ q, 1 ≤ q ∧ q < k ∧ mK now L J i q
  · rw [if_pos hx, if_pos]
    obtain ⟨q, a, b, c⟩ := hx
    exact ⟨q, a, by omega, c⟩
  · rw [if_neg hx, if_neg]
    intro ⟨q, a, b, c⟩
    by_cases hq : q = k
    · subst hq; exact h c
    · exact hx ⟨q, a, by omega, c⟩
theorem shMU_o {now : Int64} {L : LA} {J : JA} {i k : Nat} (h : ¬ shMU now L J i k = 0) : shMU now L J i (k + 1) = 1 := by
  unfold shMU at h ⊢
  by_cases hx : ∃ q, 1 ≤ q ∧ q < k ∧ mK now L J i q
  · rw [if_pos]
    obtain ⟨q, a, b, c⟩ := hx
    exact ⟨q, a, by omega, c⟩
  · rw [if_neg hx] at h
    exact absurd rfl h
theorem shMU_0 {now : Int64} {L : LA} {J : JA} {i : Nat} : shMU now L J i 1 = 0 := if_neg (fun ⟨q, a, b, _⟩ => by omega)
theorem inF_n (v a b : Int64) : narrow .boolean (.int (inF v a b)) = .int (inF v a b) := by
  unfold inF
  repeat' split
  all_goals rfl
theorem shMU_nz {now : Int64} {L : LA} {J : JA} {i k : Nat} : narrow .boolean (.int (shMU now L J i k)) = .int (shMU now L J i k) := by
  unfold shMU
  split <;> rfl
section M1
variable {ad : Nat → Nat} {th : Int32} {now : Int64} {nb ni ed : Nat} {kn : Int32} {L : LA} {J : JA}
set_option maxHeartbeats 4000000 in
set_option maxRecDepth 100000 in
theorem c_M_in {l : Launch} {D : va_G} {dA : Nat → ClassId} {g : Nat → Option va_E}  (v a b : Int64) : CtI l D classes (tyL dA) y_M_in b_M_in 6 (some .boolean) rm_M_in [.long v, .long a, .long b] g (fun r g' => g = g' ∧ r = inF v a b) := by
  refine CtI.of (by decide) (Nat.le_of_ble_eq_true rfl) ?_
  intro p e s m below meth c X hr hlk hnm
  refine go_lload_n X (z := 0) d_M_in_0 rfl rfl ?_
  refine go_lload_n X (z := 1) d_M_in_1 rfl rfl ?_
  refine go_lif_lt X (tgt := 17) d_M_in_2 d_M_in_3 rfl (fun c1 => ?_) (fun c1 => ?_)
  · refine go_iconst X (v := 0) d_M_in_17 (by decide) ?_
    exact go_retZ X hr rfl hlk d_M_in_18 ⟨rfl, by simp only [inF, if_pos c1]⟩
  · refine go_lload_n X (z := 0) d_M_in_6 rfl rfl ?_
    refine go_lload X (z := 2) d_M_in_7 rfl ?_
    refine go_lif_gt X (tgt := 17) d_M_in_9 d_M_in_10 rfl (fun c2 => ?_) (fun c2 => ?_)
    · refine go_iconst X (v := 0) d_M_in_17 (by decide) ?_
      exact go_retZ X hr rfl hlk d_M_in_18 ⟨rfl, by simp only [inF, if_neg c1, if_pos c2]⟩
    · refine go_iconst X (v := 1) d_M_in_13 (by decide) ?_
      refine go_goto X (tgt := 18) d_M_in_14 rfl ?_
      exact go_retZ X hr rfl hlk d_M_in_18 ⟨rfl, by simp only [inF, if_neg c1, if_neg c2]⟩
set_option maxHeartbeats 4000000 in
set_option maxRecDepth 100000 in
theorem c_M_isBelt {l : Launch} {D : va_G} {dA : Nat → ClassId} {g : Nat → Option va_E}  (h : MRep dA ad g th now nb ni ed kn L J) (x : Int32) : CtI l D classes (tyL dA) y_M_isBelt b_M_isBelt 2 (some .boolean) rm_M_isBelt [.ref (ad 0), .int x] g (fun r g' => g = g' ∧ r = isBF nb x) := by
  refine CtI.of (by decide) (Nat.le_of_ble_eq_true rfl) ?_
  intro p e s m below meth c X hr hlk hnm
  refine go_iload_n X (z := 1) d_M_isBelt_0 rfl rfl ?_
  refine go_if_lt X (tgt := 16) d_M_isBelt_1 rfl (fun c1 => ?_) (fun c1 => ?_)
  · refine go_iconst X (v := 0) d_M_isBelt_16 (by decide) ?_
    exact go_retZ X hr rfl hlk d_M_isBelt_17 ⟨rfl, by simp only [isBF, if_pos c1]⟩
  · refine go_iload_n X (z := 1) d_M_isBelt_4 rfl rfl ?_
    refine go_aload_n X (z := 0) d_M_isBelt_5 rfl rfl ?_
    refine go_get X u_M rfl 2 (by decide) gm_fl_M_73 rfl d_M_isBelt_6 h.this rfl ?_
    refine go_icmp_ge X (tgt := 16) d_M_isBelt_9 rfl (fun c2 => ?_) (fun c2 => ?_)
    · refine go_iconst X (v := 0) d_M_isBelt_16 (by decide) ?_
      exact go_retZ X hr rfl hlk d_M_isBelt_17 ⟨rfl, by simp only [isBF, if_neg c1, if_pos c2]⟩
    · refine go_iconst X (v := 1) d_M_isBelt_12 (by decide) ?_
      refine go_goto X (tgt := 17) d_M_isBelt_13 rfl ?_
      exact go_retZ X hr rfl hlk d_M_isBelt_17 ⟨rfl, by simp only [isBF, if_neg c1, if_neg c2]⟩
set_option maxHeartbeats 4000000 in
set_option maxRecDepth 100000 in
theorem c_M_isItem {l : Launch} {D : va_G} {dA : Nat → ClassId} {g : Nat → Option va_E}  (h : MRep dA ad g th now nb ni ed kn L J) (x : Int32) : CtI l D classes (tyL dA) y_M_isItem b_M_isItem 2 (some .boolean) rm_M_isItem [.ref (ad 0), .int x] g (fun r g' => g = g' ∧ r = isIF ni x) := by
  refine CtI.of (by decide) (Nat.le_of_ble_eq_true rfl) ?_
  intro p e s m below meth c X hr hlk hnm
  refine go_iload_n X (z := 1) d_M_isItem_0 rfl rfl ?_
  refine go_if_le X (tgt := 16) d_M_isItem_1 rfl (fun c1 => ?_) (fun c1 => ?_)
  · refine go_iconst X (v := 0) d_M_isItem_16 (by decide) ?_
    exact go_retZ X hr rfl hlk d_M_isItem_17 ⟨rfl, by simp only [isIF, if_pos c1]⟩
  · refine go_iload_n X (z := 1) d_M_isItem_4 rfl rfl ?_
    refine go_aload_n X (z := 0) d_M_isItem_5 rfl rfl ?_
    refine go_get X u_M rfl 11 (by decide) gm_fl_M_76 rfl d_M_isItem_6 h.this rfl ?_
    refine go_icmp_gt X (tgt := 16) d_M_isItem_9 rfl (fun c2 => ?_) (fun c2 => ?_)
    · refine go_iconst X (v := 0) d_M_isItem_16 (by decide) ?_
      exact go_retZ X hr rfl hlk d_M_isItem_17 ⟨rfl, by simp only [isIF, if_neg c1, if_pos c2]⟩
    · refine go_iconst X (v := 1) d_M_isItem_12 (by decide) ?_
      refine go_goto X (tgt := 17) d_M_isItem_13 rfl ?_
      exact go_retZ X hr rfl hlk d_M_isItem_17 ⟨rfl, by simp only [isIF, if_neg c1, if_neg c2]⟩
set_option maxHeartbeats 4000000 in
set_option maxRecDepth 100000 in
theorem c_M_isTime {l : Launch} {D : va_G} {dA : Nat → ClassId} {g : Nat → Option va_E}  (h : MRep dA ad g th now nb ni ed kn L J) (t : Int64) : CtI l D classes (tyL dA) y_M_isTime b_M_isTime 3 (some .boolean) rm_M_isTime [.ref (ad 0), .long t] g (fun r g' => g = g' ∧ r = inF t now 1000000) := by
  refine CtI.of (by decide) (Nat.le_of_ble_eq_true rfl) ?_
  intro p e s m below meth c X hr hlk hnm
  refine go_lload_n X (z := 1) d_M_isTime_0 rfl rfl ?_
  refine go_aload_n X (z := 0) d_M_isTime_1 rfl rfl ?_
  refine go_get X u_M rfl 1 (by decide) gm_fl_M_79 rfl d_M_isTime_2 h.this rfl ?_
  refine go_ldc2 X d_M_isTime_5 gm_k_M_83 ?_
  refine go_callI_S X (As := [.long t, .long now, .long 1000000]) (rest := []) (c_M_in t now 1000000) gm_ml_M_85 cw_M_in ⟨by decide, by decide⟩ rfl rfl (Nat.le_of_ble_eq_true rfl) d_M_isTime_8 ⟨by decide, by decide⟩ (fun ru1 gu1 hu1 => ?_)
  obtain ⟨rfl, rfl⟩ := hu1
  exact go_retZ X hr (inF_n _ _ _) hlk d_M_isTime_11 ⟨rfl, rfl⟩
set_option maxHeartbeats 4000000 in
set_option maxRecDepth 100000 in
theorem c_M_gearAt {l : Launch} {D : va_G} {dA : Nat → ClassId} {g : Nat → Option va_E}  (h : MRep dA ad g th now nb ni ed kn L J) {b : Nat} (hb : b < 12) (mm : Int64) : CtI l D classes (tyL dA) y_M_gearAt b_M_gearAt 8 (some .int) rm_M_gearAt [.ref (ad 0), .int ((nI b)), .long mm] g (fun r g' => g = g' ∧ r = gearMF L J b mm) := by
  refine CtI.of (by decide) (Nat.le_of_ble_eq_true rfl) ?_
  intro p e s m below meth c X hr hlk hnm
  refine go_lload_n X (z := 2) d_M_gearAt_0 rfl rfl ?_
  refine go_aload_n X (z := 0) d_M_gearAt_1 rfl rfl ?_
  refine go_get X u_M rfl 6 (by decide) gm_fl_M_20 rfl d_M_gearAt_2 h.this rfl ?_
  refine go_iload_n X (z := 1) d_M_gearAt_5 rfl rfl ?_
  refine go_lald X 1 rfl d_M_gearAt_6 h.a6 (vp_in_nI hb (by decide)) ?_
  rw [nI_clamp (show b < 2 ^ 31 by omega)]
  refine go_lsub X d_M_gearAt_7 ?_
  refine go_ldc2 X d_M_gearAt_8 gm_k_M_103 ?_
  refine go_ldiv X d_M_gearAt_11 (by decide) ?_
  refine go_lconst X (v := 1) d_M_gearAt_12 (by decide) ?_
  refine go_ladd X d_M_gearAt_13 ?_
  refine go_topl (fun x1 ex1 => ?_)
  refine go_lstore X (lv' := [(4, .long x1), (0, .ref (ad 0)), (1, .int ((nI b))), (2, .long mm)]) d_M_gearAt_14 (by decide) rfl ?_
  refine go_aload_n X (z := 1) d_M_gearAt_16 rfl rfl ?_
  refine go_get X u_M rfl 7 (by decide) gm_fl_M_23 rfl d_M_gearAt_17 h.this rfl ?_
  refine go_iload_n X (z := 2) d_M_gearAt_20 rfl rfl ?_
  refine go_zald X 2 rfl d_M_gearAt_21 h.a7 (vp_in_nI hb (by decide)) ?_
  rw [nI_clamp (show b < 2 ^ 31 by omega)]
  refine go_if_eq X (tgt := 38) d_M_gearAt_22 rfl (fun c2 => ?_) (fun c2 => ?_)
  · refine go_aload_n X (z := 1) d_M_gearAt_38 rfl rfl ?_
    refine go_get X u_M rfl 8 (by decide) gm_fl_M_27 rfl d_M_gearAt_39 h.this rfl ?_
    refine go_iload_n X (z := 2) d_M_gearAt_42 rfl rfl ?_
    refine go_iald X 0 rfl d_M_gearAt_43 h.a8 (vp_in_nI hb (by decide)) ?_
    rw [nI_clamp (show b < 2 ^ 31 by omega)]
    refine go_i2l X d_M_gearAt_44 rfl ?_
    refine go_lload X (z := 0) d_M_gearAt_45 rfl ?_
    refine go_lsub X d_M_gearAt_47 ?_
    refine go_topl (fun x3 ex3 => ?_)
    refine go_lstore X (lv' := [(6, .long x3), (4, .long x1), (0, .ref (ad 0)), (1, .int ((nI b))), (2, .long mm)]) d_M_gearAt_48 (by decide) rfl ?_
    refine go_lload X (z := 0) d_M_gearAt_50 rfl ?_
    refine go_ldc2 X d_M_gearAt_52 gm_k_M_105 ?_
    refine go_lif_le X (tgt := 64) d_M_gearAt_55 d_M_gearAt_56 rfl (fun c4 => ?_) (fun c4 => ?_)
    · refine go_lload X (z := 0) d_M_gearAt_64 rfl ?_
      refine go_lconst X (v := 0) d_M_gearAt_66 (by decide) ?_
      refine go_lif_ge X (tgt := 75) d_M_gearAt_67 d_M_gearAt_68 rfl (fun c5 => ?_) (fun c5 => ?_)
      · refine go_lload X (z := 0) d_M_gearAt_75 rfl ?_
        refine go_l2i X d_M_gearAt_77 rfl ?_
        exact go_retI X hr hlk d_M_gearAt_78 ⟨rfl, by subst ex1 ex3; simp only [gearMF, gearQ, if_pos c2, if_pos c4, if_pos c5]⟩
      · refine go_iconst X (v := 0) d_M_gearAt_71 (by decide) ?_
        refine go_goto X (tgt := 78) d_M_gearAt_72 rfl ?_
        exact go_retI X hr hlk d_M_gearAt_78 ⟨rfl, by subst ex1 ex3; simp only [gearMF, gearQ, if_pos c2, if_pos c4, if_neg c5]⟩
    · refine go_bipush X (v := 8) d_M_gearAt_59 (by decide) ?_
      refine go_goto X (tgt := 78) d_M_gearAt_61 rfl ?_
      exact go_retI X hr hlk d_M_gearAt_78 ⟨rfl, by subst ex1 ex3; simp only [gearMF, gearQ, if_pos c2, if_neg c4]⟩
  · refine go_aload_n X (z := 1) d_M_gearAt_25 rfl rfl ?_
    refine go_get X u_M rfl 8 (by decide) gm_fl_M_27 rfl d_M_gearAt_26 h.this rfl ?_
    refine go_iload_n X (z := 2) d_M_gearAt_29 rfl rfl ?_
    refine go_iald X 0 rfl d_M_gearAt_30 h.a8 (vp_in_nI hb (by decide)) ?_
    rw [nI_clamp (show b < 2 ^ 31 by omega)]
    refine go_i2l X d_M_gearAt_31 rfl ?_
    refine go_lload X (z := 0) d_M_gearAt_32 rfl ?_
    refine go_ladd X d_M_gearAt_34 ?_
    refine go_goto X (tgt := 48) d_M_gearAt_35 rfl ?_
    refine go_topl (fun x6 ex6 => ?_)
    refine go_lstore X (lv' := [(6, .long x6), (4, .long x1), (0, .ref (ad 0)), (1, .int ((nI b))), (2, .long mm)]) d_M_gearAt_48 (by decide) rfl ?_
    refine go_lload X (z := 0) d_M_gearAt_50 rfl ?_
    refine go_ldc2 X d_M_gearAt_52 gm_k_M_105 ?_
    refine go_lif_le X (tgt := 64) d_M_gearAt_55 d_M_gearAt_56 rfl (fun c7 => ?_) (fun c7 => ?_)
    · refine go_lload X (z := 0) d_M_gearAt_64 rfl ?_
      refine go_lconst X (v := 0) d_M_gearAt_66 (by decide) ?_
      refine go_lif_ge X (tgt := 75) d_M_gearAt_67 d_M_gearAt_68 rfl (fun c8 => ?_) (fun c8 => ?_)
      · refine go_lload X (z := 0) d_M_gearAt_75 rfl ?_
        refine go_l2i X d_M_gearAt_77 rfl ?_
        exact go_retI X hr hlk d_M_gearAt_78 ⟨rfl, by subst ex1 ex6; simp only [gearMF, gearQ, if_neg c2, if_pos c7, if_pos c8]⟩
      · refine go_iconst X (v := 0) d_M_gearAt_71 (by decide) ?_
        refine go_goto X (tgt := 78) d_M_gearAt_72 rfl ?_
        exact go_retI X hr hlk d_M_gearAt_78 ⟨rfl, by subst ex1 ex6; simp only [gearMF, gearQ, if_neg c2, if_pos c7, if_neg c8]⟩
    · refine go_bipush X (v := 8) d_M_gearAt_59 (by decide) ?_
      refine go_goto X (tgt := 78) d_M_gearAt_61 rfl ?_
      exact go_retI X hr hlk d_M_gearAt_78 ⟨rfl, by subst ex1 ex6; simp only [gearMF, gearQ, if_neg c2, if_neg c7]⟩
set_option maxHeartbeats 4000000 in
set_option maxRecDepth 100000 in
theorem c_M_rateAt {l : Launch} {D : va_G} {dA : Nat → ClassId} {g : Nat → Option va_E}  (h : MRep dA ad g th now nb ni ed kn L J) {b : Nat} (hb : b < 12) (mm : Int64) : CtL l D classes (tyL dA) y_M_rateAt b_M_rateAt 4 (some .long) rm_M_rateAt [.ref (ad 0), .int ((nI b)), .long mm] g (fun r g' => g = g' ∧ r = rateMF L J b mm) := by
  refine CtL.of (by decide) (Nat.le_of_ble_eq_true rfl) ?_
  intro p e s m below meth c X hr hlk hnm
  refine go_aload_n X (z := 0) d_M_rateAt_0 rfl rfl ?_
  refine go_get X u_M rfl 4 (by decide) gm_fl_M_13 rfl d_M_rateAt_1 h.this rfl ?_
  refine go_iload_n X (z := 1) d_M_rateAt_4 rfl rfl ?_
  refine go_lald X 1 rfl d_M_rateAt_5 h.a4 (vp_in_nI hb (by decide)) ?_
  rw [nI_clamp (show b < 2 ^ 31 by omega)]
  refine go_aload_n X (z := 0) d_M_rateAt_6 rfl rfl ?_
  refine go_iload_n X (z := 1) d_M_rateAt_7 rfl rfl ?_
  refine go_lload_n X (z := 2) d_M_rateAt_8 rfl rfl ?_
  refine go_callI_V X (As := [.int ((nI b)), .long mm]) (rest := [.long ((L 4 b))]) (c_M_gearAt h hb mm) gm_ml_M_107 cw_M_gearAt ⟨by decide, by decide⟩ rfl h.this rfl rfl (Nat.le_of_ble_eq_true rfl) d_M_rateAt_9 ⟨by decide, by decide⟩ (fun ru1 gu1 hu1 => ?_)
  obtain ⟨rfl, rfl⟩ := hu1
  refine go_i2l X d_M_rateAt_12 rfl ?_
  refine go_lmul X d_M_rateAt_13 ?_
  refine go_ldc2 X d_M_rateAt_14 gm_k_M_105 ?_
  refine go_ldiv X d_M_rateAt_17 (by decide) ?_
  exact go_retL X hr hlk d_M_rateAt_18 ⟨rfl, rfl⟩
set_option maxHeartbeats 4000000 in
set_option maxRecDepth 100000 in
theorem c_M_isThere {l : Launch} {D : va_G} {dA : Nat → ClassId} {g : Nat → Option va_E}  (h : MRep dA ad g th now nb ni ed kn L J) {i : Nat} (hi : i < 61) : CtI l D classes (tyL dA) y_M_isThere b_M_isThere 2 (some .boolean) rm_M_isThere [.ref (ad 0), .int ((nI i))] g (fun r g' => g = g' ∧ r = thereF now L J i) := by
  refine CtI.of (by decide) (Nat.le_of_ble_eq_true rfl) ?_
  intro p e s m below meth c X hr hlk hnm
  refine go_aload_n X (z := 0) d_M_isThere_0 rfl rfl ?_
  refine go_get X u_M rfl 16 (by decide) gm_fl_M_48 rfl d_M_isThere_1 h.this rfl ?_
  refine go_iload_n X (z := 1) d_M_isThere_4 rfl rfl ?_
  refine go_zald X 2 rfl d_M_isThere_5 h.a16 (vp_in_nI hi (by decide)) ?_
  rw [nI_clamp (show i < 2 ^ 31 by omega)]
  refine go_if_ne X (tgt := 27) d_M_isThere_6 rfl (fun c1 => ?_) (fun c1 => ?_)
  · refine go_iconst X (v := 0) d_M_isThere_27 (by decide) ?_
    exact go_retZ X hr rfl hlk d_M_isThere_28 ⟨rfl, by simp only [thereF, if_neg c1]⟩
  · refine go_aload_n X (z := 0) d_M_isThere_9 rfl rfl ?_
    refine go_get X u_M rfl 13 (by decide) gm_fl_M_39 rfl d_M_isThere_10 h.this rfl ?_
    refine go_iload_n X (z := 1) d_M_isThere_13 rfl rfl ?_
    refine go_lald X 1 rfl d_M_isThere_14 h.a13 (vp_in_nI hi (by decide)) ?_
    rw [nI_clamp (show i < 2 ^ 31 by omega)]
    refine go_aload_n X (z := 0) d_M_isThere_15 rfl rfl ?_
    refine go_get X u_M rfl 1 (by decide) gm_fl_M_79 rfl d_M_isThere_16 h.this rfl ?_
    refine go_lif_gt X (tgt := 27) d_M_isThere_19 d_M_isThere_20 rfl (fun c2 => ?_) (fun c2 => ?_)
    · refine go_iconst X (v := 0) d_M_isThere_27 (by decide) ?_
      exact go_retZ X hr rfl hlk d_M_isThere_28 ⟨rfl, by simp only [thereF, if_pos c1, if_pos c2]⟩
    · refine go_iconst X (v := 1) d_M_isThere_23 (by decide) ?_
      refine go_goto X (tgt := 28) d_M_isThere_24 rfl ?_
      exact go_retZ X hr rfl hlk d_M_isThere_28 ⟨rfl, by simp only [thereF, if_pos c1, if_neg c2]⟩
set_option maxHeartbeats 4000000 in
set_option maxRecDepth 100000 in
theorem c_M_tell {l : Launch} {D : va_G} {dA : Nat → ClassId} {g : Nat → Option va_E}  (h : MRep dA ad g th now nb ni ed kn L J) {i : Nat} (hi : i < 61) (hed : ed + 1 < 2 ^ 31) (kind : Int32) : CtV l D classes (tyL dA) y_M_tell b_M_tell 3 none rm_M_tell [.ref (ad 0), .int ((nI i)), .int kind] g (fun g' => MRep dA ad g' th now nb ni (ed + 1) kn (tlL L ed now) (tlJ J ed i kind) ∧ MFr ad g g') := by
  refine CtV.of (by decide) (Nat.le_of_ble_eq_true rfl) ?_
  intro p e s m below meth c X hr hlk hnm
  refine go_aload_n X (z := 0) d_M_tell_0 rfl rfl ?_
  refine go_get X u_M rfl 19 (by decide) gm_fl_M_116 rfl d_M_tell_1 h.this rfl ?_
  refine go_sipush X (v := 400) d_M_tell_4 (by decide) ?_
  refine go_icmp_ge X (tgt := 58) d_M_tell_7 rfl (fun c1 => ?_) (fun c1 => ?_)
  · refine go_aload_n X (z := 0) d_M_tell_58 rfl rfl ?_
    refine go_dup X d_M_tell_59 rfl ?_
    refine go_get X u_M rfl 19 (by decide) gm_fl_M_116 rfl d_M_tell_60 h.this rfl ?_
    refine go_iconst X (v := 1) d_M_tell_63 (by decide) ?_
    refine go_iadd X d_M_tell_64 ?_
    refine go_topi (fun x2 ex2 => ?_)
    refine go_put X u_M rfl 19 (by decide) gm_fl_M_116 rfl t_M t_M_ok n_M rfl rfl rfl d_M_tell_65 h.this (Nat.le_of_ble_eq_true rfl) ?_
    refine go_gen (fun g3 eg3 => ?_)
    have eg3 : g3 = va_up g (ad 0) (some (.inr (4, [.int th, .long now, .int ((nI nb)), .ref (ad 3), .ref (ad 4), .ref (ad 5), .ref (ad 6), .ref (ad 7), .ref (ad 8), .ref (ad 9), .ref (ad 10), .int ((nI ni)), .ref (ad 12), .ref (ad 13), .ref (ad 14), .ref (ad 15), .ref (ad 16), .ref (ad 17), .ref (ad 18), .int x2, .int kn, .ref (ad 21), .ref (ad 22), .ref (ad 23), .ref (ad 24)]))) := eg3
    have h4 : g3 (ad 21) = some (.inl (dA 1, 400, .inr (.inl ((L 21))))) := by rw [eg3, va_up_ne _ _ (h.ne 21 0)]; exact h.a21
    have h5 : g3 (ad 22) = some (.inl (dA 0, 400, .inl ((J 22)))) := by rw [eg3, va_up_ne _ _ (h.ne 22 0)]; exact h.a22
    have h6 : g3 (ad 14) = some (.inl (dA 0, 61, .inl ((J 14)))) := by rw [eg3, va_up_ne _ _ (h.ne 14 0)]; exact h.a14
    have h7 : g3 (ad 23) = some (.inl (dA 0, 400, .inl ((J 23)))) := by rw [eg3, va_up_ne _ _ (h.ne 23 0)]; exact h.a23
    have h8 : g3 (ad 24) = some (.inl (dA 0, 400, .inl ((J 24)))) := by rw [eg3, va_up_ne _ _ (h.ne 24 0)]; exact h.a24
    have h9 : g3 (ad 0) = some (.inr (4, [.int th, .long now, .int ((nI nb)), .ref (ad 3), .ref (ad 4), .ref (ad 5), .ref (ad 6), .ref (ad 7), .ref (ad 8), .ref (ad 9), .ref (ad 10), .int ((nI ni)), .ref (ad 12), .ref (ad 13), .ref (ad 14), .ref (ad 15), .ref (ad 16), .ref (ad 17), .ref (ad 18), .int x2, .int kn, .ref (ad 21), .ref (ad 22), .ref (ad 23), .ref (ad 24)])) := by rw [eg3]; exact va_up_self _ _ _
    have qx : x2 = nI (ed + 1) := ex2.trans (nI_1 ed)
    subst qx
    have hM : MRep dA ad g3 th now nb ni (ed + 1) kn L J := by rw [eg3]; exact h.set0
    exact go_retV X hr hlk d_M_tell_68 ⟨by rw [tlL, tlJ, if_pos (ge400 (by omega) c1), if_pos (ge400 (by omega) c1)]; exact hM, by rw [eg3]; exact MFr.up rfl⟩
  · have hlt : ed < 400 := lt400 (by omega) c1
    refine go_aload_n X (z := 0) d_M_tell_10 rfl rfl ?_
    refine go_get X u_M rfl 21 (by decide) gm_fl_M_57 rfl d_M_tell_11 h.this rfl ?_
    refine go_aload_n X (z := 0) d_M_tell_14 rfl rfl ?_
    refine go_get X u_M rfl 19 (by decide) gm_fl_M_116 rfl d_M_tell_15 h.this rfl ?_
    refine go_aload_n X (z := 0) d_M_tell_18 rfl rfl ?_
    refine go_get X u_M rfl 1 (by decide) gm_fl_M_79 rfl d_M_tell_19 h.this rfl ?_
    refine go_last X 1 rfl d_M_tell_22 h.a21 (vp_in_nI hlt (by decide)) ?_
    refine go_gen (fun g10 eg10 => ?_)
    have eg10 : g10 = va_up g (ad 21) (some (.inl (dA 1, 400, .inr (.inl (vp_updL ((L 21)) ed now))))) := by rw [eg10, nI_clamp (show ed < 2 ^ 31 by omega)]
    have h11 : g10 (ad 0) = some (.inr (4, [.int th, .long now, .int ((nI nb)), .ref (ad 3), .ref (ad 4), .ref (ad 5), .ref (ad 6), .ref (ad 7), .ref (ad 8), .ref (ad 9), .ref (ad 10), .int ((nI ni)), .ref (ad 12), .ref (ad 13), .ref (ad 14), .ref (ad 15), .ref (ad 16), .ref (ad 17), .ref (ad 18), .int ((nI ed)), .int kn, .ref (ad 21), .ref (ad 22), .ref (ad 23), .ref (ad 24)])) := by rw [eg10, va_up_ne _ _ (h.ne 0 21)]; exact h.this
    have h12 : g10 (ad 22) = some (.inl (dA 0, 400, .inl ((J 22)))) := by rw [eg10, va_up_ne _ _ (h.ne 22 21)]; exact h.a22
    have h13 : g10 (ad 14) = some (.inl (dA 0, 61, .inl ((J 14)))) := by rw [eg10, va_up_ne _ _ (h.ne 14 21)]; exact h.a14
    have h14 : g10 (ad 23) = some (.inl (dA 0, 400, .inl ((J 23)))) := by rw [eg10, va_up_ne _ _ (h.ne 23 21)]; exact h.a23
    have h15 : g10 (ad 24) = some (.inl (dA 0, 400, .inl ((J 24)))) := by rw [eg10, va_up_ne _ _ (h.ne 24 21)]; exact h.a24
    have h16 : g10 (ad 21) = some (.inl (dA 1, 400, .inr (.inl (vp_updL ((L 21)) ed now)))) := by rw [eg10]; exact va_up_self _ _ _
    refine go_aload_n X (z := 0) d_M_tell_23 rfl rfl ?_
    refine go_get X u_M rfl 22 (by decide) gm_fl_M_60 rfl d_M_tell_24 h11 rfl ?_
    refine go_aload_n X (z := 0) d_M_tell_27 rfl rfl ?_
    refine go_get X u_M rfl 19 (by decide) gm_fl_M_116 rfl d_M_tell_28 h11 rfl ?_
    refine go_aload_n X (z := 0) d_M_tell_31 rfl rfl ?_
    refine go_get X u_M rfl 14 (by decide) gm_fl_M_42 rfl d_M_tell_32 h11 rfl ?_
    refine go_iload_n X (z := 1) d_M_tell_35 rfl rfl ?_
    refine go_iald X 0 rfl d_M_tell_36 h13 (vp_in_nI hi (by decide)) ?_
    rw [nI_clamp (show i < 2 ^ 31 by omega)]
    refine go_topi (fun x17 ex17 => ?_)
    refine go_iast X 0 rfl d_M_tell_37 h12 (vp_in_nI hlt (by decide)) ?_
    refine go_gen (fun g18 eg18 => ?_)
    have eg18 : g18 = va_up g10 (ad 22) (some (.inl (dA 0, 400, .inl (upd ((J 22)) ed x17)))) := by rw [eg18, nI_clamp (show ed < 2 ^ 31 by omega)]
    have h19 : g18 (ad 0) = some (.inr (4, [.int th, .long now, .int ((nI nb)), .ref (ad 3), .ref (ad 4), .ref (ad 5), .ref (ad 6), .ref (ad 7), .ref (ad 8), .ref (ad 9), .ref (ad 10), .int ((nI ni)), .ref (ad 12), .ref (ad 13), .ref (ad 14), .ref (ad 15), .ref (ad 16), .ref (ad 17), .ref (ad 18), .int ((nI ed)), .int kn, .ref (ad 21), .ref (ad 22), .ref (ad 23), .ref (ad 24)])) := by rw [eg18, va_up_ne _ _ (h.ne 0 22)]; exact h11
    have h20 : g18 (ad 21) = some (.inl (dA 1, 400, .inr (.inl (vp_updL ((L 21)) ed now)))) := by rw [eg18, va_up_ne _ _ (h.ne 21 22)]; exact h16
    have h21 : g18 (ad 14) = some (.inl (dA 0, 61, .inl ((J 14)))) := by rw [eg18, va_up_ne _ _ (h.ne 14 22)]; exact h13
    have h22 : g18 (ad 23) = some (.inl (dA 0, 400, .inl ((J 23)))) := by rw [eg18, va_up_ne _ _ (h.ne 23 22)]; exact h14
    have h23 : g18 (ad 24) = some (.inl (dA 0, 400, .inl ((J 24)))) := by rw [eg18, va_up_ne _ _ (h.ne 24 22)]; exact h15
    have h24 : g18 (ad 22) = some (.inl (dA 0, 400, .inl (upd ((J 22)) ed x17))) := by rw [eg18]; exact va_up_self _ _ _
    refine go_aload_n X (z := 0) d_M_tell_38 rfl rfl ?_
    refine go_get X u_M rfl 23 (by decide) gm_fl_M_63 rfl d_M_tell_39 h19 rfl ?_
    refine go_aload_n X (z := 0) d_M_tell_42 rfl rfl ?_
    refine go_get X u_M rfl 19 (by decide) gm_fl_M_116 rfl d_M_tell_43 h19 rfl ?_
    refine go_iload_n X (z := 1) d_M_tell_46 rfl rfl ?_
    refine go_topi (fun x25 ex25 => ?_)
    refine go_iast X 0 rfl d_M_tell_47 h22 (vp_in_nI hlt (by decide)) ?_
    refine go_gen (fun g26 eg26 => ?_)
    have eg26 : g26 = va_up g18 (ad 23) (some (.inl (dA 0, 400, .inl (upd ((J 23)) ed x25)))) := by rw [eg26, nI_clamp (show ed < 2 ^ 31 by omega)]
    have h27 : g26 (ad 0) = some (.inr (4, [.int th, .long now, .int ((nI nb)), .ref (ad 3), .ref (ad 4), .ref (ad 5), .ref (ad 6), .ref (ad 7), .ref (ad 8), .ref (ad 9), .ref (ad 10), .int ((nI ni)), .ref (ad 12), .ref (ad 13), .ref (ad 14), .ref (ad 15), .ref (ad 16), .ref (ad 17), .ref (ad 18), .int ((nI ed)), .int kn, .ref (ad 21), .ref (ad 22), .ref (ad 23), .ref (ad 24)])) := by rw [eg26, va_up_ne _ _ (h.ne 0 23)]; exact h19
    have h28 : g26 (ad 21) = some (.inl (dA 1, 400, .inr (.inl (vp_updL ((L 21)) ed now)))) := by rw [eg26, va_up_ne _ _ (h.ne 21 23)]; exact h20
    have h29 : g26 (ad 22) = some (.inl (dA 0, 400, .inl (upd ((J 22)) ed x17))) := by rw [eg26, va_up_ne _ _ (h.ne 22 23)]; exact h24
    have h30 : g26 (ad 14) = some (.inl (dA 0, 61, .inl ((J 14)))) := by rw [eg26, va_up_ne _ _ (h.ne 14 23)]; exact h21
    have h31 : g26 (ad 24) = some (.inl (dA 0, 400, .inl ((J 24)))) := by rw [eg26, va_up_ne _ _ (h.ne 24 23)]; exact h23
    have h32 : g26 (ad 23) = some (.inl (dA 0, 400, .inl (upd ((J 23)) ed x25))) := by rw [eg26]; exact va_up_self _ _ _
    refine go_aload_n X (z := 0) d_M_tell_48 rfl rfl ?_
    refine go_get X u_M rfl 24 (by decide) gm_fl_M_66 rfl d_M_tell_49 h27 rfl ?_
    refine go_aload_n X (z := 0) d_M_tell_52 rfl rfl ?_
    refine go_get X u_M rfl 19 (by decide) gm_fl_M_116 rfl d_M_tell_53 h27 rfl ?_
    refine go_iload_n X (z := 2) d_M_tell_56 rfl rfl ?_
    refine go_iast X 0 rfl d_M_tell_57 h31 (vp_in_nI hlt (by decide)) ?_
    refine go_gen (fun g33 eg33 => ?_)
    have eg33 : g33 = va_up g26 (ad 24) (some (.inl (dA 0, 400, .inl (upd ((J 24)) ed kind)))) := by rw [eg33, nI_clamp (show ed < 2 ^ 31 by omega)]
    have h34 : g33 (ad 0) = some (.inr (4, [.int th, .long now, .int ((nI nb)), .ref (ad 3), .ref (ad 4), .ref (ad 5), .ref (ad 6), .ref (ad 7), .ref (ad 8), .ref (ad 9), .ref (ad 10), .int ((nI ni)), .ref (ad 12), .ref (ad 13), .ref (ad 14), .ref (ad 15), .ref (ad 16), .ref (ad 17), .ref (ad 18), .int ((nI ed)), .int kn, .ref (ad 21), .ref (ad 22), .ref (ad 23), .ref (ad 24)])) := by rw [eg33, va_up_ne _ _ (h.ne 0 24)]; exact h27
    have h35 : g33 (ad 21) = some (.inl (dA 1, 400, .inr (.inl (vp_updL ((L 21)) ed now)))) := by rw [eg33, va_up_ne _ _ (h.ne 21 24)]; exact h28
    have h36 : g33 (ad 22) = some (.inl (dA 0, 400, .inl (upd ((J 22)) ed x17))) := by rw [eg33, va_up_ne _ _ (h.ne 22 24)]; exact h29
    have h37 : g33 (ad 14) = some (.inl (dA 0, 61, .inl ((J 14)))) := by rw [eg33, va_up_ne _ _ (h.ne 14 24)]; exact h30
    have h38 : g33 (ad 23) = some (.inl (dA 0, 400, .inl (upd ((J 23)) ed x25))) := by rw [eg33, va_up_ne _ _ (h.ne 23 24)]; exact h32
    have h39 : g33 (ad 24) = some (.inl (dA 0, 400, .inl (upd ((J 24)) ed kind))) := by rw [eg33]; exact va_up_self _ _ _
    refine go_aload_n X (z := 0) d_M_tell_58 rfl rfl ?_
    refine go_dup X d_M_tell_59 rfl ?_
    refine go_get X u_M rfl 19 (by decide) gm_fl_M_116 rfl d_M_tell_60 h34 rfl ?_
    refine go_iconst X (v := 1) d_M_tell_63 (by decide) ?_
    refine go_iadd X d_M_tell_64 ?_
    refine go_topi (fun x40 ex40 => ?_)
    refine go_put X u_M rfl 19 (by decide) gm_fl_M_116 rfl t_M t_M_ok n_M rfl rfl rfl d_M_tell_65 h34 (Nat.le_of_ble_eq_true rfl) ?_
    refine go_gen (fun g41 eg41 => ?_)
    have eg41 : g41 = va_up g33 (ad 0) (some (.inr (4, [.int th, .long now, .int ((nI nb)), .ref (ad 3), .ref (ad 4), .ref (ad 5), .ref (ad 6), .ref (ad 7), .ref (ad 8), .ref (ad 9), .ref (ad 10), .int ((nI ni)), .ref (ad 12), .ref (ad 13), .ref (ad 14), .ref (ad 15), .ref (ad 16), .ref (ad 17), .ref (ad 18), .int x40, .int kn, .ref (ad 21), .ref (ad 22), .ref (ad 23), .ref (ad 24)]))) := eg41
    have h42 : g41 (ad 21) = some (.inl (dA 1, 400, .inr (.inl (vp_updL ((L 21)) ed now)))) := by rw [eg41, va_up_ne _ _ (h.ne 21 0)]; exact h35
    have h43 : g41 (ad 22) = some (.inl (dA 0, 400, .inl (upd ((J 22)) ed x17))) := by rw [eg41, va_up_ne _ _ (h.ne 22 0)]; exact h36
    have h44 : g41 (ad 14) = some (.inl (dA 0, 61, .inl ((J 14)))) := by rw [eg41, va_up_ne _ _ (h.ne 14 0)]; exact h37
    have h45 : g41 (ad 23) = some (.inl (dA 0, 400, .inl (upd ((J 23)) ed x25))) := by rw [eg41, va_up_ne _ _ (h.ne 23 0)]; exact h38
    have h46 : g41 (ad 24) = some (.inl (dA 0, 400, .inl (upd ((J 24)) ed kind))) := by rw [eg41, va_up_ne _ _ (h.ne 24 0)]; exact h39
    have h47 : g41 (ad 0) = some (.inr (4, [.int th, .long now, .int ((nI nb)), .ref (ad 3), .ref (ad 4), .ref (ad 5), .ref (ad 6), .ref (ad 7), .ref (ad 8), .ref (ad 9), .ref (ad 10), .int ((nI ni)), .ref (ad 12), .ref (ad 13), .ref (ad 14), .ref (ad 15), .ref (ad 16), .ref (ad 17), .ref (ad 18), .int x40, .int kn, .ref (ad 21), .ref (ad 22), .ref (ad 23), .ref (ad 24)])) := by rw [eg41]; exact va_up_self _ _ _
    have qx : x40 = nI (ed + 1) := ex40.trans (nI_1 ed)
    subst qx
    subst ex17 ex25
    have hM2 : MRep dA ad g41 th now nb ni (ed + 1) kn (tlL L ed now) (tlJ J ed i kind) := by
      rw [tlL, tlJ, if_neg (by omega), if_neg (by omega), eg41, eg33, eg26, eg18, eg10]
      exact ((((h.setL 21 (vp_updL (L 21) ed now)).setJ 22 (upd (J 22) ed (J 14 i))).setJ 23 (upd (J 23) ed (nI i))).setJ 24 (upd (J 24) ed kind)).set0
    exact go_retV X hr hlk d_M_tell_68 ⟨hM2, by rw [eg41, eg33, eg26, eg18, eg10]; exact (MFr.up rfl).trans ((MFr.up rfl).trans ((MFr.up rfl).trans ((MFr.up rfl).trans (MFr.up rfl))))⟩
set_option maxHeartbeats 4000000 in
set_option maxRecDepth 100000 in
theorem c_M_isShort {l : Launch} {D : va_G} {dA : Nat → ClassId} {g : Nat → Option va_E}  (h : MRep dA ad g th now nb ni ed kn L J) (hni : ni ≤ 60) {i : Nat} (hi : i < 61) : CtI l D classes (tyL dA) y_M_isShort b_M_isShort 5 (some .boolean) rm_M_isShort [.ref (ad 0), .int ((nI i))] g (fun r g' => g = g' ∧ r = shMU now L J i (ni + 1)) := by
  refine CtI.of (by decide) (Nat.le_of_ble_eq_true rfl) ?_
  intro p e s m below meth c X hr hlk hnm
  have loop : ∀ (f k : Nat) (v : Int32), 1 ≤ k → k + f = ni + 1 → v = shMU now L J i k → Go p l e rm_M_isShort s m [.ref (ad 0), .int ((nI i))].toArray below meth c D classes (gA g s.heap.size) 5 (MQ below (va_Qi (fun r g' => g = g' ∧ r = shMU now L J i (ni + 1)) (fun (g' : Nat → Option va_E) (t : State) => PW D classes (gA g s.heap.size) g' t.heap) (gA g s.heap.size)) [.ref (ad 0), .int ((nI i))].toArray s 0 0 (gA g s.heap.size)) g 0 0 4 [(3, .int ((nI k))), (2, .int v), (0, .ref (ad 0)), (1, .int ((nI i)))] [] := by
    intro f
    induction f with
    | zero =>
      intro k v h1k hk hv
      have hkn : k = ni + 1 := by omega
      subst hkn
      refine go_iload_n X (z := 0) d_M_isShort_4 rfl rfl ?_
      refine go_aload_n X (z := 2) d_M_isShort_5 rfl rfl ?_
      refine go_get X u_M rfl 11 (by decide) gm_fl_M_76 rfl d_M_isShort_6 h.this rfl ?_
      refine go_icmp_gt X (tgt := 132) d_M_isShort_9 rfl (fun c1 => ?_) (fun c1 => absurd (nI_lt (by omega) (by omega)) c1)
      refine go_iload_n X (z := 1) d_M_isShort_132 rfl rfl ?_
      exact go_retZ X hr (by rw [hv]; exact shMU_nz) hlk d_M_isShort_133 ⟨rfl, hv⟩
    | succ f ih =>
      intro k v h1k hkf hv
      have hk : k < 61 := by omega
      refine go_iload_n X (z := 0) d_M_isShort_4 rfl rfl ?_
      refine go_aload_n X (z := 2) d_M_isShort_5 rfl rfl ?_
      refine go_get X u_M rfl 11 (by decide) gm_fl_M_76 rfl d_M_isShort_6 h.this rfl ?_
      refine go_icmp_gt X (tgt := 132) d_M_isShort_9 rfl (fun c1 => absurd c1 (nI_nlt (a := ni) (b := k) (by omega) (by omega))) (fun c1 => ?_)
      refine go_iload_n X (z := 0) d_M_isShort_12 rfl rfl ?_
      refine go_iload_n X (z := 3) d_M_isShort_13 rfl rfl ?_
      refine go_icmp_eq X (tgt := 126) d_M_isShort_14 rfl (fun c2 => ?_) (fun c2 => ?_)
      · refine go_iinc X (j := 0) (v := nI (k + 1)) d_M_isShort_126 rfl (nI_1 k) (by decide) rfl ?_
        refine go_goto X (tgt := 4) d_M_isShort_129 rfl ?_
        refine go_sub (lv' := [(3, .int (nI (k + 1))), (2, .int v), (0, .ref (ad 0)), (1, .int (nI i))]) [0, 1, 2, 3] rfl ?_
        exact ih (k + 1) v (by omega) (by omega) (hv.trans (shMU_n (fun q => q.1 c2)).symm)
      · refine go_aload_n X (z := 2) d_M_isShort_17 rfl rfl ?_
        refine go_iload_n X (z := 0) d_M_isShort_18 rfl rfl ?_
        refine go_callI_V X (As := [.int ((nI k))]) (rest := []) (c_M_isThere h hk) gm_ml_M_111 cw_M_isThere ⟨by decide, by decide⟩ rfl h.this rfl rfl (Nat.le_of_ble_eq_true rfl) d_M_isShort_19 ⟨by decide, by decide⟩ (fun ru3 gu3 hu3 => ?_)
        obtain ⟨rfl, rfl⟩ := hu3
        refine go_if_eq X (tgt := 126) d_M_isShort_22 rfl (fun c4 => ?_) (fun c4 => ?_)
        · refine go_iinc X (j := 0) (v := nI (k + 1)) d_M_isShort_126 rfl (nI_1 k) (by decide) rfl ?_
          refine go_goto X (tgt := 4) d_M_isShort_129 rfl ?_
          refine go_sub (lv' := [(3, .int (nI (k + 1))), (2, .int v), (0, .ref (ad 0)), (1, .int (nI i))]) [0, 1, 2, 3] rfl ?_
          exact ih (k + 1) v (by omega) (by omega) (hv.trans (shMU_n (fun q => q.2.1 c4)).symm)
        · refine go_aload_n X (z := 2) d_M_isShort_25 rfl rfl ?_
          refine go_get X u_M rfl 14 (by decide) gm_fl_M_42 rfl d_M_isShort_26 h.this rfl ?_
          refine go_iload_n X (z := 0) d_M_isShort_29 rfl rfl ?_
          refine go_iald X 0 rfl d_M_isShort_30 h.a14 (vp_in_nI hk (by decide)) ?_
          rw [nI_clamp (show k < 2 ^ 31 by omega)]
          refine go_aload_n X (z := 2) d_M_isShort_31 rfl rfl ?_
          refine go_get X u_M rfl 14 (by decide) gm_fl_M_42 rfl d_M_isShort_32 h.this rfl ?_
          refine go_iload_n X (z := 3) d_M_isShort_35 rfl rfl ?_
          refine go_iald X 0 rfl d_M_isShort_36 h.a14 (vp_in_nI hi (by decide)) ?_
          rw [nI_clamp (show i < 2 ^ 31 by omega)]
          refine go_icmp_ne X (tgt := 126) d_M_isShort_37 rfl (fun c5 => ?_) (fun c5 => ?_)
          · refine go_iinc X (j := 0) (v := nI (k + 1)) d_M_isShort_126 rfl (nI_1 k) (by decide) rfl ?_
            refine go_goto X (tgt := 4) d_M_isShort_129 rfl ?_
            refine go_sub (lv' := [(3, .int (nI (k + 1))), (2, .int v), (0, .ref (ad 0)), (1, .int (nI i))]) [0, 1, 2, 3] rfl ?_
            exact ih (k + 1) v (by omega) (by omega) (hv.trans (shMU_n (fun q => c5 q.2.2.1)).symm)
          · refine go_aload_n X (z := 2) d_M_isShort_40 rfl rfl ?_
            refine go_get X u_M rfl 15 (by decide) gm_fl_M_45 rfl d_M_isShort_41 h.this rfl ?_
            refine go_iload_n X (z := 0) d_M_isShort_44 rfl rfl ?_
            refine go_lald X 1 rfl d_M_isShort_45 h.a15 (vp_in_nI hk (by decide)) ?_
            rw [nI_clamp (show k < 2 ^ 31 by omega)]
            refine go_aload_n X (z := 2) d_M_isShort_46 rfl rfl ?_
            refine go_get X u_M rfl 15 (by decide) gm_fl_M_45 rfl d_M_isShort_47 h.this rfl ?_
            refine go_iload_n X (z := 3) d_M_isShort_50 rfl rfl ?_
            refine go_lald X 1 rfl d_M_isShort_51 h.a15 (vp_in_nI hi (by decide)) ?_
            rw [nI_clamp (show i < 2 ^ 31 by omega)]
            refine go_lif_gt X (tgt := 77) d_M_isShort_52 d_M_isShort_53 rfl (fun c6 => ?_) (fun c6 => ?_)
            · refine go_iconst X (v := 1) d_M_isShort_77 (by decide) ?_
              refine go_goto X (tgt := 82) d_M_isShort_78 rfl ?_
              refine go_istore X (lv' := [(4, .int 1), (3, .int ((nI k))), (2, .int v), (0, .ref (ad 0)), (1, .int ((nI i)))]) d_M_isShort_82 (by decide) rfl ?_
              refine go_iload_n X (z := 2) d_M_isShort_84 rfl rfl ?_
              refine go_if_ne X (tgt := 120) d_M_isShort_85 rfl (fun c7 => ?_) (fun c7 => ?_)
              · refine go_iconst X (v := 1) d_M_isShort_120 (by decide) ?_
                refine go_goto X (tgt := 125) d_M_isShort_121 rfl ?_
                refine go_istore_n X (lv' := [(2, .int 1), (4, .int 1), (3, .int ((nI k))), (0, .ref (ad 0)), (1, .int ((nI i)))]) d_M_isShort_125 rfl (by decide) rfl ?_
                refine go_iinc X (j := 2) (v := nI (k + 1)) d_M_isShort_126 rfl (nI_1 k) (by decide) rfl ?_
                refine go_goto X (tgt := 4) d_M_isShort_129 rfl ?_
                refine go_sub (lv' := [(3, .int (nI (k + 1))), (2, .int 1), (0, .ref (ad 0)), (1, .int (nI i))]) [0, 1, 3, 4] rfl ?_
                exact ih (k + 1) 1 (by omega) (by omega) (shMU_o (by rw [← hv]; exact c7)).symm
              · refine go_iload X (z := 0) d_M_isShort_88 rfl ?_
                refine go_if_eq X (tgt := 124) d_M_isShort_90 rfl (fun h => absurd h (by decide)) (fun _ => ?_)
                refine go_aload_n X (z := 3) d_M_isShort_93 rfl rfl ?_
                refine go_get X u_M rfl 15 (by decide) gm_fl_M_45 rfl d_M_isShort_94 h.this rfl ?_
                refine go_iload_n X (z := 1) d_M_isShort_97 rfl rfl ?_
                refine go_lald X 1 rfl d_M_isShort_98 h.a15 (vp_in_nI hk (by decide)) ?_
                rw [nI_clamp (show k < 2 ^ 31 by omega)]
                refine go_aload_n X (z := 3) d_M_isShort_99 rfl rfl ?_
                refine go_get X u_M rfl 12 (by decide) gm_fl_M_36 rfl d_M_isShort_100 h.this rfl ?_
                refine go_iload_n X (z := 1) d_M_isShort_103 rfl rfl ?_
                refine go_lald X 1 rfl d_M_isShort_104 h.a12 (vp_in_nI hk (by decide)) ?_
                rw [nI_clamp (show k < 2 ^ 31 by omega)]
                refine go_lsub X d_M_isShort_105 ?_
                refine go_aload_n X (z := 3) d_M_isShort_106 rfl rfl ?_
                refine go_get X u_M rfl 15 (by decide) gm_fl_M_45 rfl d_M_isShort_107 h.this rfl ?_
                refine go_iload_n X (z := 4) d_M_isShort_110 rfl rfl ?_
                refine go_lald X 1 rfl d_M_isShort_111 h.a15 (vp_in_nI hi (by decide)) ?_
                rw [nI_clamp (show i < 2 ^ 31 by omega)]
                refine go_ldc2 X d_M_isShort_112 gm_k_M_114 ?_
                refine go_ladd X d_M_isShort_115 ?_
                refine go_lif_ge X (tgt := 124) d_M_isShort_116 d_M_isShort_117 rfl (fun c9 => ?_) (fun c9 => ?_)
                · refine go_iconst X (v := 0) d_M_isShort_124 (by decide) ?_
                  refine go_istore_n X (lv' := [(2, .int 0), (4, .int 1), (3, .int ((nI k))), (0, .ref (ad 0)), (1, .int ((nI i)))]) d_M_isShort_125 rfl (by decide) rfl ?_
                  refine go_iinc X (j := 2) (v := nI (k + 1)) d_M_isShort_126 rfl (nI_1 k) (by decide) rfl ?_
                  refine go_goto X (tgt := 4) d_M_isShort_129 rfl ?_
                  refine go_sub (lv' := [(3, .int (nI (k + 1))), (2, .int 0), (0, .ref (ad 0)), (1, .int (nI i))]) [0, 1, 3, 4] rfl ?_
                  exact ih (k + 1) 0 (by omega) (by omega) ((shMU_n (fun q => absurd q.2.2.2.2 (Int64.not_lt.mpr c9))).trans (hv.symm.trans c7)).symm
                · refine go_iconst X (v := 1) d_M_isShort_120 (by decide) ?_
                  refine go_goto X (tgt := 125) d_M_isShort_121 rfl ?_
                  refine go_istore_n X (lv' := [(2, .int 1), (4, .int 1), (3, .int ((nI k))), (0, .ref (ad 0)), (1, .int ((nI i)))]) d_M_isShort_125 rfl (by decide) rfl ?_
                  refine go_iinc X (j := 2) (v := nI (k + 1)) d_M_isShort_126 rfl (nI_1 k) (by decide) rfl ?_
                  refine go_goto X (tgt := 4) d_M_isShort_129 rfl ?_
                  refine go_sub (lv' := [(3, .int (nI (k + 1))), (2, .int 1), (0, .ref (ad 0)), (1, .int (nI i))]) [0, 1, 3, 4] rfl ?_
                  exact ih (k + 1) 1 (by omega) (by omega) (shMU_1 h1k ⟨c2, c4, c5, Or.inl c6, Int64.not_le.mp c9⟩).symm
            · refine go_aload_n X (z := 2) d_M_isShort_56 rfl rfl ?_
              refine go_get X u_M rfl 15 (by decide) gm_fl_M_45 rfl d_M_isShort_57 h.this rfl ?_
              refine go_iload_n X (z := 0) d_M_isShort_60 rfl rfl ?_
              refine go_lald X 1 rfl d_M_isShort_61 h.a15 (vp_in_nI hk (by decide)) ?_
              rw [nI_clamp (show k < 2 ^ 31 by omega)]
              refine go_aload_n X (z := 2) d_M_isShort_62 rfl rfl ?_
              refine go_get X u_M rfl 15 (by decide) gm_fl_M_45 rfl d_M_isShort_63 h.this rfl ?_
              refine go_iload_n X (z := 3) d_M_isShort_66 rfl rfl ?_
              refine go_lald X 1 rfl d_M_isShort_67 h.a15 (vp_in_nI hi (by decide)) ?_
              rw [nI_clamp (show i < 2 ^ 31 by omega)]
              refine go_lif_ne X (tgt := 81) d_M_isShort_68 d_M_isShort_69 rfl (fun c10 => ?_) (fun c10 => ?_)
              · refine go_iconst X (v := 0) d_M_isShort_81 (by decide) ?_
                refine go_istore X (lv' := [(4, .int 0), (3, .int ((nI k))), (2, .int v), (0, .ref (ad 0)), (1, .int ((nI i)))]) d_M_isShort_82 (by decide) rfl ?_
                refine go_iload_n X (z := 2) d_M_isShort_84 rfl rfl ?_
                refine go_if_ne X (tgt := 120) d_M_isShort_85 rfl (fun c11 => ?_) (fun c11 => ?_)
                · refine go_iconst X (v := 1) d_M_isShort_120 (by decide) ?_
                  refine go_goto X (tgt := 125) d_M_isShort_121 rfl ?_
                  refine go_istore_n X (lv' := [(2, .int 1), (4, .int 0), (3, .int ((nI k))), (0, .ref (ad 0)), (1, .int ((nI i)))]) d_M_isShort_125 rfl (by decide) rfl ?_
                  refine go_iinc X (j := 2) (v := nI (k + 1)) d_M_isShort_126 rfl (nI_1 k) (by decide) rfl ?_
                  refine go_goto X (tgt := 4) d_M_isShort_129 rfl ?_
                  refine go_sub (lv' := [(3, .int (nI (k + 1))), (2, .int 1), (0, .ref (ad 0)), (1, .int (nI i))]) [0, 1, 3, 4] rfl ?_
                  exact ih (k + 1) 1 (by omega) (by omega) (shMU_o (by rw [← hv]; exact c11)).symm
                · refine go_iload X (z := 0) d_M_isShort_88 rfl ?_
                  refine go_if_eq X (tgt := 124) d_M_isShort_90 rfl (fun _ => ?_) (fun h => absurd (by decide) h)
                  refine go_iconst X (v := 0) d_M_isShort_124 (by decide) ?_
                  refine go_istore_n X (lv' := [(2, .int 0), (4, .int 0), (3, .int ((nI k))), (0, .ref (ad 0)), (1, .int ((nI i)))]) d_M_isShort_125 rfl (by decide) rfl ?_
                  refine go_iinc X (j := 2) (v := nI (k + 1)) d_M_isShort_126 rfl (nI_1 k) (by decide) rfl ?_
                  refine go_goto X (tgt := 4) d_M_isShort_129 rfl ?_
                  refine go_sub (lv' := [(3, .int (nI (k + 1))), (2, .int 0), (0, .ref (ad 0)), (1, .int (nI i))]) [0, 1, 3, 4] rfl ?_
                  exact ih (k + 1) 0 (by omega) (by omega) ((shMU_n (fun q => q.2.2.2.1.elim (fun z => c6 z) (fun z => c10 z.1))).trans (hv.symm.trans c11)).symm
              · refine go_iload_n X (z := 0) d_M_isShort_72 rfl rfl ?_
                refine go_iload_n X (z := 3) d_M_isShort_73 rfl rfl ?_
                refine go_icmp_ge X (tgt := 81) d_M_isShort_74 rfl (fun c13 => ?_) (fun c13 => ?_)
                · refine go_iconst X (v := 0) d_M_isShort_81 (by decide) ?_
                  refine go_istore X (lv' := [(4, .int 0), (3, .int ((nI k))), (2, .int v), (0, .ref (ad 0)), (1, .int ((nI i)))]) d_M_isShort_82 (by decide) rfl ?_
                  refine go_iload_n X (z := 2) d_M_isShort_84 rfl rfl ?_
                  refine go_if_ne X (tgt := 120) d_M_isShort_85 rfl (fun c14 => ?_) (fun c14 => ?_)
                  · refine go_iconst X (v := 1) d_M_isShort_120 (by decide) ?_
                    refine go_goto X (tgt := 125) d_M_isShort_121 rfl ?_
                    refine go_istore_n X (lv' := [(2, .int 1), (4, .int 0), (3, .int ((nI k))), (0, .ref (ad 0)), (1, .int ((nI i)))]) d_M_isShort_125 rfl (by decide) rfl ?_
                    refine go_iinc X (j := 2) (v := nI (k + 1)) d_M_isShort_126 rfl (nI_1 k) (by decide) rfl ?_
                    refine go_goto X (tgt := 4) d_M_isShort_129 rfl ?_
                    refine go_sub (lv' := [(3, .int (nI (k + 1))), (2, .int 1), (0, .ref (ad 0)), (1, .int (nI i))]) [0, 1, 3, 4] rfl ?_
                    exact ih (k + 1) 1 (by omega) (by omega) (shMU_o (by rw [← hv]; exact c14)).symm
                  · refine go_iload X (z := 0) d_M_isShort_88 rfl ?_
                    refine go_if_eq X (tgt := 124) d_M_isShort_90 rfl (fun _ => ?_) (fun h => absurd (by decide) h)
                    refine go_iconst X (v := 0) d_M_isShort_124 (by decide) ?_
                    refine go_istore_n X (lv' := [(2, .int 0), (4, .int 0), (3, .int ((nI k))), (0, .ref (ad 0)), (1, .int ((nI i)))]) d_M_isShort_125 rfl (by decide) rfl ?_
                    refine go_iinc X (j := 2) (v := nI (k + 1)) d_M_isShort_126 rfl (nI_1 k) (by decide) rfl ?_
                    refine go_goto X (tgt := 4) d_M_isShort_129 rfl ?_
                    refine go_sub (lv' := [(3, .int (nI (k + 1))), (2, .int 0), (0, .ref (ad 0)), (1, .int (nI i))]) [0, 1, 3, 4] rfl ?_
                    exact ih (k + 1) 0 (by omega) (by omega) ((shMU_n (fun q => q.2.2.2.1.elim (fun z => c6 z) (fun z => absurd z.2 (Int32.not_lt.mpr c13)))).trans (hv.symm.trans c14)).symm
                · refine go_iconst X (v := 1) d_M_isShort_77 (by decide) ?_
                  refine go_goto X (tgt := 82) d_M_isShort_78 rfl ?_
                  refine go_istore X (lv' := [(4, .int 1), (3, .int ((nI k))), (2, .int v), (0, .ref (ad 0)), (1, .int ((nI i)))]) d_M_isShort_82 (by decide) rfl ?_
                  refine go_iload_n X (z := 2) d_M_isShort_84 rfl rfl ?_
                  refine go_if_ne X (tgt := 120) d_M_isShort_85 rfl (fun c16 => ?_) (fun c16 => ?_)
                  · refine go_iconst X (v := 1) d_M_isShort_120 (by decide) ?_
                    refine go_goto X (tgt := 125) d_M_isShort_121 rfl ?_
                    refine go_istore_n X (lv' := [(2, .int 1), (4, .int 1), (3, .int ((nI k))), (0, .ref (ad 0)), (1, .int ((nI i)))]) d_M_isShort_125 rfl (by decide) rfl ?_
                    refine go_iinc X (j := 2) (v := nI (k + 1)) d_M_isShort_126 rfl (nI_1 k) (by decide) rfl ?_
                    refine go_goto X (tgt := 4) d_M_isShort_129 rfl ?_
                    refine go_sub (lv' := [(3, .int (nI (k + 1))), (2, .int 1), (0, .ref (ad 0)), (1, .int (nI i))]) [0, 1, 3, 4] rfl ?_
                    exact ih (k + 1) 1 (by omega) (by omega) (shMU_o (by rw [← hv]; exact c16)).symm
                  · refine go_iload X (z := 0) d_M_isShort_88 rfl ?_
                    refine go_if_eq X (tgt := 124) d_M_isShort_90 rfl (fun h => absurd h (by decide)) (fun _ => ?_)
                    refine go_aload_n X (z := 3) d_M_isShort_93 rfl rfl ?_
                    refine go_get X u_M rfl 15 (by decide) gm_fl_M_45 rfl d_M_isShort_94 h.this rfl ?_
                    refine go_iload_n X (z := 1) d_M_isShort_97 rfl rfl ?_
                    refine go_lald X 1 rfl d_M_isShort_98 h.a15 (vp_in_nI hk (by decide)) ?_
                    rw [nI_clamp (show k < 2 ^ 31 by omega)]
                    refine go_aload_n X (z := 3) d_M_isShort_99 rfl rfl ?_
                    refine go_get X u_M rfl 12 (by decide) gm_fl_M_36 rfl d_M_isShort_100 h.this rfl ?_
                    refine go_iload_n X (z := 1) d_M_isShort_103 rfl rfl ?_
                    refine go_lald X 1 rfl d_M_isShort_104 h.a12 (vp_in_nI hk (by decide)) ?_
                    rw [nI_clamp (show k < 2 ^ 31 by omega)]
                    refine go_lsub X d_M_isShort_105 ?_
                    refine go_aload_n X (z := 3) d_M_isShort_106 rfl rfl ?_
                    refine go_get X u_M rfl 15 (by decide) gm_fl_M_45 rfl d_M_isShort_107 h.this rfl ?_
                    refine go_iload_n X (z := 4) d_M_isShort_110 rfl rfl ?_
                    refine go_lald X 1 rfl d_M_isShort_111 h.a15 (vp_in_nI hi (by decide)) ?_
                    rw [nI_clamp (show i < 2 ^ 31 by omega)]
                    refine go_ldc2 X d_M_isShort_112 gm_k_M_114 ?_
                    refine go_ladd X d_M_isShort_115 ?_
                    refine go_lif_ge X (tgt := 124) d_M_isShort_116 d_M_isShort_117 rfl (fun c18 => ?_) (fun c18 => ?_)
                    · refine go_iconst X (v := 0) d_M_isShort_124 (by decide) ?_
                      refine go_istore_n X (lv' := [(2, .int 0), (4, .int 1), (3, .int ((nI k))), (0, .ref (ad 0)), (1, .int ((nI i)))]) d_M_isShort_125 rfl (by decide) rfl ?_
                      refine go_iinc X (j := 2) (v := nI (k + 1)) d_M_isShort_126 rfl (nI_1 k) (by decide) rfl ?_
                      refine go_goto X (tgt := 4) d_M_isShort_129 rfl ?_
                      refine go_sub (lv' := [(3, .int (nI (k + 1))), (2, .int 0), (0, .ref (ad 0)), (1, .int (nI i))]) [0, 1, 3, 4] rfl ?_
                      exact ih (k + 1) 0 (by omega) (by omega) ((shMU_n (fun q => absurd q.2.2.2.2 (Int64.not_lt.mpr c18))).trans (hv.symm.trans c16)).symm
                    · refine go_iconst X (v := 1) d_M_isShort_120 (by decide) ?_
                      refine go_goto X (tgt := 125) d_M_isShort_121 rfl ?_
                      refine go_istore_n X (lv' := [(2, .int 1), (4, .int 1), (3, .int ((nI k))), (0, .ref (ad 0)), (1, .int ((nI i)))]) d_M_isShort_125 rfl (by decide) rfl ?_
                      refine go_iinc X (j := 2) (v := nI (k + 1)) d_M_isShort_126 rfl (nI_1 k) (by decide) rfl ?_
                      refine go_goto X (tgt := 4) d_M_isShort_129 rfl ?_
                      refine go_sub (lv' := [(3, .int (nI (k + 1))), (2, .int 1), (0, .ref (ad 0)), (1, .int (nI i))]) [0, 1, 3, 4] rfl ?_
                      exact ih (k + 1) 1 (by omega) (by omega) (shMU_1 h1k ⟨c2, c4, c5, Or.inr ⟨c10, Int32.not_le.mp c13⟩, Int64.not_le.mp c18⟩).symm
  refine go_iconst X (v := 0) d_M_isShort_0 (by decide) ?_
  refine go_istore_n X (lv' := [(2, .int 0), (0, .ref (ad 0)), (1, .int (nI i))]) d_M_isShort_1 rfl (by decide) rfl ?_
  refine go_iconst X (v := 1) d_M_isShort_2 (by decide) ?_
  refine go_istore_n X (lv' := [(3, .int (nI 1)), (2, .int 0), (0, .ref (ad 0)), (1, .int (nI i))]) d_M_isShort_3 rfl (by decide) rfl ?_
  exact loop ni 1 0 (Nat.le_refl 1) (by omega) shMU_0.symm
end M1
