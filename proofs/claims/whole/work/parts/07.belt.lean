/-! Belt: the pure pictures of its methods (in machine words), and their contracts. -/
abbrev beltE (num : Int32) (len spd sen : Int64) (onto : Option Nat) (run tel : Int32) (told : Int64) (gb : Int32) (wat : Int64) (ag ap aw : Nat) : va_E := .inr (0, [.int num, .long len, .long spd, .long sen, va_rf onto, .int run, .int tel, .long told, .int gb, .long wat, .ref ag, .ref ap, .ref aw])
abbrev intE (dA : Nat → ClassId) (n : Nat) (f : Nat → Int32) : va_E := .inl (dA 0, n, .inl f)
abbrev lonE (dA : Nat → ClassId) (n : Nat) (f : Nat → Int64) : va_E := .inl (dA 1, n, .inr (.inl f))
abbrev booE (dA : Nat → ClassId) (n : Nat) (f : Nat → Int32) : va_E := .inl (dA 2, n, .inl f)
def stageF (told t : Int64) : Int32 := if 0 ≤ (t - told) / 20 then (if 8 ≤ (t - told) / 20 then 7 else ((t - told) / 20).toInt32) else 0
theorem stageF_in (told t : Int64) : vp_in (stageF told t) 8 := by
  rw [vp_in_iff]
  unfold stageF
  generalize (t - told) / 20 = q
  by_cases h1 : 0 ≤ q
  · rw [if_pos h1]
    by_cases h2 : 8 ≤ q
    · rw [if_pos h2]; decide
    · rw [if_neg h2]
      have a1 : 0 ≤ q.toInt := by simpa using Int64.le_iff_toInt_le.mp h1
      have a2 : ¬ 8 ≤ q.toInt := fun h => h2 (Int64.le_iff_toInt_le.mpr (by simpa using h))
      rw [Int64.toInt_toInt32, Int.bmod_eq_of_le (by omega) (by omega)]
      omega
  · rw [if_neg h1]; decide
def wayF (told : Int64) (fp fw : Nat → Int64) (t : Int64) : Int64 := fw (stageF told t).toNatClampNeg + (t - told - (stageF told t).toInt64 * 20) * fp (stageF told t).toNatClampNeg
def stgF (fw : Nat → Int64) (w : Int64) : Nat → Nat → Nat
  | 0, k => k
  | n + 1, k => if fw (k + 1) < w then stgF fw w n (k + 1) else k
def towA (told : Int64) (fp fw : Nat → Int64) (w : Int64) (k : Nat) : Int64 := if 0 < w - fw k then (if fp k ≤ 0 then 1000000000000 else told + (nI k).toInt64 * 20 + (w - fw k + fp k - 1) / fp k) else told + (nI k).toInt64 * 20
def towF (told : Int64) (fp fw : Nat → Int64) (w : Int64) : Int64 := towA told fp fw w (stgF fw w 7 0)
section BELT
variable {num : Int32} {len spd sen : Int64} {onto : Option Nat} {run tel : Int32} {told : Int64} {gb : Int32} {wat : Int64} {ag ap aw a : Nat} {fg : Nat → Int32} {fp fw : Nat → Int64}
set_option maxHeartbeats 4000000 in
set_option maxRecDepth 100000 in
theorem c_B_stageAt {l : Launch} {D : va_G} {dA : Nat → ClassId} {g : Nat → Option va_E}  (hB : g a = some (beltE num len spd sen onto run tel told gb wat ag ap aw)) (t : Int64) : CtI l D classes (tyL dA) y_B_stageAt b_B_stageAt 5 (some .int) rm_B_stageAt [.ref a, .long t] g (fun r g' => g = g' ∧ r = stageF told t) := by
  refine CtI.of (by decide) (Nat.le_of_ble_eq_true rfl) ?_
  intro p e s m below meth c X hr hlk hnm
  refine go_lload_n X (z := 1) d_B_stageAt_0 rfl rfl ?_
  refine go_aload_n X (z := 0) d_B_stageAt_1 rfl rfl ?_
  refine go_get X u_B rfl 7 (by decide) gm_fl_B_23 rfl d_B_stageAt_2 hB rfl ?_
  refine go_lsub X d_B_stageAt_5 ?_
  refine go_ldc2 X d_B_stageAt_6 gm_k_B_80 ?_
  refine go_ldiv X d_B_stageAt_9 (by decide) ?_
  refine go_topl (fun x1 ex1 => ?_)
  refine go_lstore_n X (lv' := [(3, .long x1), (0, .ref a), (1, .long t)]) d_B_stageAt_10 rfl (by decide) rfl ?_
  refine go_lload_n X (z := 0) d_B_stageAt_11 rfl rfl ?_
  refine go_lconst X (v := 0) d_B_stageAt_12 (by decide) ?_
  refine go_lif_ge X (tgt := 19) d_B_stageAt_13 d_B_stageAt_14 rfl (fun c2 => ?_) (fun c2 => ?_)
  · refine go_lload_n X (z := 0) d_B_stageAt_19 rfl rfl ?_
    refine go_ldc2 X d_B_stageAt_20 gm_k_B_78 ?_
    refine go_lif_ge X (tgt := 32) d_B_stageAt_23 d_B_stageAt_24 rfl (fun c3 => ?_) (fun c3 => ?_)
    · refine go_bipush X (v := 7) d_B_stageAt_32 (by decide) ?_
      exact go_retI X hr hlk d_B_stageAt_34 ⟨rfl, by subst_vars; simp only [stageF, if_pos c2, if_pos c3]⟩
    · refine go_lload_n X (z := 0) d_B_stageAt_27 rfl rfl ?_
      refine go_l2i X d_B_stageAt_28 rfl ?_
      refine go_goto X (tgt := 34) d_B_stageAt_29 rfl ?_
      exact go_retI X hr hlk d_B_stageAt_34 ⟨rfl, by subst_vars; simp only [stageF, if_pos c2, if_neg c3]⟩
  · refine go_iconst X (v := 0) d_B_stageAt_17 (by decide) ?_
    exact go_retI X hr hlk d_B_stageAt_18 ⟨rfl, by subst_vars; simp only [stageF, if_neg c2]⟩
set_option maxHeartbeats 4000000 in
set_option maxRecDepth 100000 in
theorem c_B_gearAt {l : Launch} {D : va_G} {dA : Nat → ClassId} {g : Nat → Option va_E}  (hB : g a = some (beltE num len spd sen onto run tel told gb wat ag ap aw)) (hG : g ag = some (intE dA 8 fg)) (t : Int64) : CtI l D classes (tyL dA) y_B_gearAt b_B_gearAt 3 (some .int) rm_B_gearAt [.ref a, .long t] g (fun r g' => g = g' ∧ r = fg (stageF told t).toNatClampNeg) := by
  refine CtI.of (by decide) (Nat.le_of_ble_eq_true rfl) ?_
  intro p e s m below meth c X hr hlk hnm
  refine go_aload_n X (z := 0) d_B_gearAt_0 rfl rfl ?_
  refine go_get X u_B rfl 10 (by decide) gm_fl_B_33 rfl d_B_gearAt_1 hB rfl ?_
  refine go_aload_n X (z := 0) d_B_gearAt_4 rfl rfl ?_
  refine go_lload_n X (z := 1) d_B_gearAt_5 rfl rfl ?_
  refine go_callI_V X (As := [.long t]) (rest := [.ref ag]) (c_B_stageAt hB t) gm_ml_B_82 cw_B_stageAt ⟨by decide, by decide⟩ rfl hB rfl rfl (Nat.le_of_ble_eq_true rfl) d_B_gearAt_6 ⟨by decide, by decide⟩ (fun r1 g1 hp => ?_)
  obtain ⟨rfl, rfl⟩ := hp
  refine go_iald X 0 rfl d_B_gearAt_9 hG (stageF_in told t) ?_
  exact go_retI X hr hlk d_B_gearAt_10 ⟨rfl, rfl⟩
set_option maxHeartbeats 4000000 in
set_option maxRecDepth 100000 in
theorem c_B_wayAt {l : Launch} {D : va_G} {dA : Nat → ClassId} {g : Nat → Option va_E}  (hB : g a = some (beltE num len spd sen onto run tel told gb wat ag ap aw)) (hP : g ap = some (lonE dA 8 fp)) (hW : g aw = some (lonE dA 8 fw)) (t : Int64) : CtL l D classes (tyL dA) y_B_wayAt b_B_wayAt 4 (some .long) rm_B_wayAt [.ref a, .long t] g (fun r g' => g = g' ∧ r = wayF told fp fw t) := by
  refine CtL.of (by decide) (Nat.le_of_ble_eq_true rfl) ?_
  intro p e s m below meth c X hr hlk hnm
  refine go_aload_n X (z := 0) d_B_wayAt_0 rfl rfl ?_
  refine go_lload_n X (z := 1) d_B_wayAt_1 rfl rfl ?_
  refine go_callI_V X (As := [.long t]) (rest := []) (c_B_stageAt hB t) gm_ml_B_82 cw_B_stageAt ⟨by decide, by decide⟩ rfl hB rfl rfl (Nat.le_of_ble_eq_true rfl) d_B_wayAt_2 ⟨by decide, by decide⟩ (fun r1 g1 hp => ?_)
  obtain ⟨rfl, rfl⟩ := hp
  refine go_topi (fun x1 ex1 => ?_)
  refine go_istore_n X (lv' := [(3, .int x1), (0, .ref a), (1, .long t)]) d_B_wayAt_5 rfl (by decide) rfl ?_
  refine go_aload_n X (z := 1) d_B_wayAt_6 rfl rfl ?_
  refine go_get X u_B rfl 12 (by decide) gm_fl_B_41 rfl d_B_wayAt_7 hB rfl ?_
  refine go_iload_n X (z := 0) d_B_wayAt_10 rfl rfl ?_
  refine go_lald X 1 rfl d_B_wayAt_11 hW (by rw [ex1]; exact stageF_in told t) ?_
  refine go_lload_n X (z := 2) d_B_wayAt_12 rfl rfl ?_
  refine go_aload_n X (z := 1) d_B_wayAt_13 rfl rfl ?_
  refine go_get X u_B rfl 7 (by decide) gm_fl_B_23 rfl d_B_wayAt_14 hB rfl ?_
  refine go_lsub X d_B_wayAt_17 ?_
  refine go_iload_n X (z := 0) d_B_wayAt_18 rfl rfl ?_
  refine go_i2l X d_B_wayAt_19 rfl ?_
  refine go_ldc2 X d_B_wayAt_20 gm_k_B_80 ?_
  refine go_lmul X d_B_wayAt_23 ?_
  refine go_lsub X d_B_wayAt_24 ?_
  refine go_aload_n X (z := 1) d_B_wayAt_25 rfl rfl ?_
  refine go_get X u_B rfl 11 (by decide) gm_fl_B_37 rfl d_B_wayAt_26 hB rfl ?_
  refine go_iload_n X (z := 0) d_B_wayAt_29 rfl rfl ?_
  refine go_lald X 1 rfl d_B_wayAt_30 hP (by rw [ex1]; exact stageF_in told t) ?_
  refine go_lmul X d_B_wayAt_31 ?_
  refine go_ladd X d_B_wayAt_32 ?_
  exact go_retL X hr hlk d_B_wayAt_33 ⟨rfl, by subst ex1; rfl⟩
set_option maxHeartbeats 4000000 in
set_option maxRecDepth 100000 in
theorem c_B_timeOfWay {l : Launch} {D : va_G} {dA : Nat → ClassId} {g : Nat → Option va_E}  (hB : g a = some (beltE num len spd sen onto run tel told gb wat ag ap aw)) (hP : g ap = some (lonE dA 8 fp)) (hW : g aw = some (lonE dA 8 fw)) (t : Int64) : CtL l D classes (tyL dA) y_B_timeOfWay b_B_timeOfWay 10 (some .long) rm_B_timeOfWay [.ref a, .long t] g (fun r g' => g = g' ∧ r = towF told fp fw t) := by
  refine CtL.of (by decide) (Nat.le_of_ble_eq_true rfl) ?_
  intro p e s m below meth c X hr hlk hnm
  have tail : ∀ k : Nat, k < 8 → towF told fp fw t = towA told fp fw t k → Go p l e rm_B_timeOfWay s m [.ref a, .long t].toArray below meth c D classes (gA g s.heap.size) 10 (MQ below (va_Ql (fun r g' => g = g' ∧ r = towF told fp fw t) (fun (g' : Nat → Option va_E) (t : State) => PW D classes (gA g s.heap.size) g' t.heap) (gA g s.heap.size)) [.ref a, .long t].toArray s 0 0 (gA g s.heap.size)) g 0 0 27 [(3, .int ((nI k))), (0, .ref a), (1, .long t)] [] := by
    intro k hk he
    refine go_aload_n X (z := 1) d_B_timeOfWay_27 rfl rfl ?_
    refine go_get X u_B rfl 7 (by decide) gm_fl_B_23 rfl d_B_timeOfWay_28 hB rfl ?_
    refine go_iload_n X (z := 0) d_B_timeOfWay_31 rfl rfl ?_
    refine go_i2l X d_B_timeOfWay_32 rfl ?_
    refine go_ldc2 X d_B_timeOfWay_33 gm_k_B_80 ?_
    refine go_lmul X d_B_timeOfWay_36 ?_
    refine go_ladd X d_B_timeOfWay_37 ?_
    refine go_topl (fun x1 ex1 => ?_)
    refine go_lstore X (lv' := [(4, .long x1), (3, .int ((nI k))), (0, .ref a), (1, .long t)]) d_B_timeOfWay_38 (by decide) rfl ?_
    refine go_lload_n X (z := 3) d_B_timeOfWay_40 rfl rfl ?_
    refine go_aload_n X (z := 2) d_B_timeOfWay_41 rfl rfl ?_
    refine go_get X u_B rfl 12 (by decide) gm_fl_B_41 rfl d_B_timeOfWay_42 hB rfl ?_
    refine go_iload_n X (z := 1) d_B_timeOfWay_45 rfl rfl ?_
    refine go_lald X 1 rfl d_B_timeOfWay_46 hW (vp_in_nI hk (by decide)) ?_
    rw [nI_clamp (show k < 2 ^ 31 by omega)]
    refine go_lsub X d_B_timeOfWay_47 ?_
    refine go_topl (fun x2 ex2 => ?_)
    refine go_lstore X (lv' := [(6, .long x2), (4, .long x1), (3, .int ((nI k))), (0, .ref a), (1, .long t)]) d_B_timeOfWay_48 (by decide) rfl ?_
    refine go_lload X (z := 0) d_B_timeOfWay_50 rfl ?_
    refine go_lconst X (v := 0) d_B_timeOfWay_52 (by decide) ?_
    refine go_lif_gt X (tgt := 60) d_B_timeOfWay_53 d_B_timeOfWay_54 rfl (fun c3 => ?_) (fun c3 => ?_)
    · refine go_aload_n X (z := 3) d_B_timeOfWay_60 rfl rfl ?_
      refine go_get X u_B rfl 11 (by decide) gm_fl_B_37 rfl d_B_timeOfWay_61 hB rfl ?_
      refine go_iload_n X (z := 2) d_B_timeOfWay_64 rfl rfl ?_
      refine go_lald X 1 rfl d_B_timeOfWay_65 hP (vp_in_nI hk (by decide)) ?_
      rw [nI_clamp (show k < 2 ^ 31 by omega)]
      refine go_topl (fun x4 ex4 => ?_)
      refine go_lstore X (lv' := [(8, .long x4), (6, .long x2), (4, .long x1), (3, .int ((nI k))), (0, .ref a), (1, .long t)]) d_B_timeOfWay_66 (by decide) rfl ?_
      refine go_lload X (z := 0) d_B_timeOfWay_68 rfl ?_
      refine go_lconst X (v := 0) d_B_timeOfWay_70 (by decide) ?_
      refine go_lif_le X (tgt := 91) d_B_timeOfWay_71 d_B_timeOfWay_72 rfl (fun c5 => ?_) (fun c5 => ?_)
      · refine go_ldc2 X d_B_timeOfWay_91 gm_k_B_85 ?_
        exact go_retL X hr hlk d_B_timeOfWay_94 ⟨rfl, by rw [he]; subst_vars; simp only [towA, if_pos c3, if_pos c5]⟩
      · refine go_lload X (z := 2) d_B_timeOfWay_75 rfl ?_
        refine go_lload X (z := 1) d_B_timeOfWay_77 rfl ?_
        refine go_lload X (z := 0) d_B_timeOfWay_79 rfl ?_
        refine go_ladd X d_B_timeOfWay_81 ?_
        refine go_lconst X (v := 1) d_B_timeOfWay_82 (by decide) ?_
        refine go_lsub X d_B_timeOfWay_83 ?_
        refine go_lload X (z := 0) d_B_timeOfWay_84 rfl ?_
        refine go_ldiv X d_B_timeOfWay_86 (fun h => c5 (by rw [h]; decide)) ?_
        refine go_ladd X d_B_timeOfWay_87 ?_
        refine go_goto X (tgt := 94) d_B_timeOfWay_88 rfl ?_
        exact go_retL X hr hlk d_B_timeOfWay_94 ⟨rfl, by rw [he]; subst_vars; simp only [towA, if_pos c3, if_neg c5]⟩
    · refine go_lload X (z := 1) d_B_timeOfWay_57 rfl ?_
      exact go_retL X hr hlk d_B_timeOfWay_59 ⟨rfl, by rw [he]; subst_vars; simp only [towA, if_neg c3]⟩
  have loop : ∀ n k : Nat, k + n = 7 → towF told fp fw t = towA told fp fw t (stgF fw t n k) → Go p l e rm_B_timeOfWay s m [.ref a, .long t].toArray below meth c D classes (gA g s.heap.size) 10 (MQ below (va_Ql (fun r g' => g = g' ∧ r = towF told fp fw t) (fun (g' : Nat → Option va_E) (t : State) => PW D classes (gA g s.heap.size) g' t.heap) (gA g s.heap.size)) [.ref a, .long t].toArray s 0 0 (gA g s.heap.size)) g 0 0 2 [(3, .int ((nI k))), (0, .ref a), (1, .long t)] [] := by
    intro n
    induction n with
    | zero =>
      intro k hk he
      have hk7 : k = 7 := by omega
      subst hk7
      refine go_iload_n X (z := 0) d_B_timeOfWay_2 rfl rfl ?_
      refine go_bipush X (v := 7) d_B_timeOfWay_3 (by decide) ?_
      refine go_icmp_ge X (tgt := 27) d_B_timeOfWay_5 rfl (fun _ => ?_) (fun h => absurd (by decide) h)
      exact tail 7 (by decide) he
    | succ n ih =>
      intro k hk he
      refine go_iload_n X (z := 0) d_B_timeOfWay_2 rfl rfl ?_
      refine go_bipush X (v := 7) d_B_timeOfWay_3 (by decide) ?_
      refine go_icmp_ge X (tgt := 27) d_B_timeOfWay_5 rfl (fun h => absurd h (nI_ge (a := k) (b := 7) (by omega) (by decide))) (fun _ => ?_)
      refine go_aload_n X (z := 1) d_B_timeOfWay_8 rfl rfl ?_
      refine go_get X u_B rfl 12 (by decide) gm_fl_B_41 rfl d_B_timeOfWay_9 hB rfl ?_
      refine go_iload_n X (z := 0) d_B_timeOfWay_12 rfl rfl ?_
      refine go_iconst X (v := 1) d_B_timeOfWay_13 (by decide) ?_
      refine go_iadd X d_B_timeOfWay_14 ?_
      refine go_lald X 1 rfl d_B_timeOfWay_15 hW (by rw [nI_1]; exact vp_in_nI (by omega) (by decide)) ?_
      rw [nI_1, nI_clamp (show k + 1 < 2 ^ 31 by omega)]
      refine go_lload_n X (z := 2) d_B_timeOfWay_16 rfl rfl ?_
      refine go_lif_ge X (tgt := 27) d_B_timeOfWay_17 d_B_timeOfWay_18 rfl (fun c201 => ?_) (fun c201 => ?_)
      · exact tail k (by omega) (by rw [he]; simp only [stgF]; rw [if_neg (Int64.not_lt.mpr c201)])
      · refine go_iinc X (j := 0) (v := nI (k + 1)) d_B_timeOfWay_21 rfl (nI_1 k) (by decide) rfl ?_
        refine go_goto X (tgt := 2) d_B_timeOfWay_24 rfl ?_
        exact ih (k + 1) (by omega) (by rw [he]; simp only [stgF]; rw [if_pos (Int64.not_le.mp c201)])
  refine go_iconst X (v := 0) d_B_timeOfWay_0 (by decide) ?_
  refine go_istore_n X (lv' := [(3, .int (nI 0)), (0, .ref a), (1, .long t)]) d_B_timeOfWay_1 rfl (by decide) rfl ?_
  exact loop 7 0 rfl rfl
end BELT
