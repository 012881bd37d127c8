/-! The law's loop. -/
section LAW2
variable {p : Program} {l : Launch} {e : Env} {s : State} {m : MethodId} {args : Array Value} {below : List Frame} {meth : Method} {c : Code} {D : va_G} {A : Nat → Prop} {Q : State → Prop} {b L q0 q1 : Nat} {xs : Nat → Int32} {dA : Nat → ClassId}
set_option maxHeartbeats 4000000 in
set_option maxRecDepth 100000 in
theorem law_loop (X : Cx p s m args c D classes A 4 b_L_law R_L gtb (tyL dA)) (hX : Scr s A b L xs) (kend : ∀ (i : Nat) (g : Nat → Option va_E), i ≤ L → Go p l e room_1 s m args below meth c D classes A 4 Q g (26 + i) (4000 + 7 * i) 748 (lvL i b q0 q1) []) : ∀ (n i : Nat) (g : Nat → Option va_E), i ≤ L → L - i < n → Inv dA g q0 q1 → Go p l e room_1 s m args below meth c D classes A 4 Q g (26 + i) (4000 + 7 * i) 18 (lvL i b q0 q1) [] := by
  have hL := hX.2.2.2
  intro n
  induction n with
  | zero => intro i g h1 h2; omega
  | succ n ih =>
    intro i g h1 h2 hI
    refine go_iload_n X d_L_law_18 rfl (z := 0) rfl ?_
    refine go_aload_n X d_L_law_19 rfl (z := 3) rfl ?_
    refine go_slen X hX d_L_law_20 ?_
    refine go_bipush X (v := 6) d_L_law_21 (by decide) ?_
    refine go_isub X d_L_law_23 ?_
    have e6 : (nI L - 6).toInt = (L : Int) - 6 := by rw [Int32.toInt_sub, nI_toInt (by omega), show (6 : Int32).toInt = 6 from rfl, Int.bmod_eq_of_le (by omega) (by omega)]
    refine go_icmp_gt X d_L_law_24 (tgt := 748) (by decide) (fun _ => kend i g h1) (fun z => ?_)
    have hi : i + 6 ≤ L := by
      have := Int32.le_iff_toInt_le.mp (Int32.not_lt.mp z)
      rw [e6, nI_toInt (by omega)] at this
      omega
    refine go_aload_n X d_L_law_27 rfl (z := 3) rfl ?_
    refine go_iload_n X d_L_law_28 rfl (z := 0) rfl ?_
    refine go_sld X hX (j := i) (by omega) d_L_law_29 ?_
    refine go_bipush X (v := 15) d_L_law_30 (by decide) ?_
    refine go_iand X d_L_law_32 ?_
    generalize xs i &&& 15 = x
    have k : ∀ g', Inv dA g' q0 q1 → Go p l e room_1 s m args below meth c D classes A 4 Q g' (26 + (i + 6)) (4000 + 7 * (i + 6)) 742 (lvL i b q0 q1) [] := by
      intro g' hI'
      refine go_iinc X (j := 0) (v := nI (i + 6)) (lv' := lvL (i + 6) b q0 q1) d_L_law_742 rfl (nI_add i 6) (by decide) rfl ?_
      refine go_goto X d_L_law_745 (tgt := 18) (by decide) ?_
      exact ih (i + 6) g' (by omega) (by omega) hI'
    by_cases c0 : x = 0
    · subst c0
      exact go_tabIn X d_L_law_33 (off := 59) (tgt := 92) (by decide) (by decide) rfl (by decide) (law_belt X hX hi hI k)
    by_cases c1 : x = 1
    · subst c1
      exact go_tabIn X d_L_law_33 (off := 152) (tgt := 185) (by decide) (by decide) rfl (by decide) (law_join X hX hi hI k)
    by_cases c2 : x = 2
    · subst c2
      exact go_tabIn X d_L_law_33 (off := 185) (tgt := 218) (by decide) (by decide) rfl (by decide) (law_feed X hX hi hI k)
    by_cases c3 : x = 3
    · subst c3
      exact go_tabIn X d_L_law_33 (off := 288) (tgt := 321) (by decide) (by decide) rfl (by decide) (law_step X hX hi hI k)
    by_cases c4 : x = 4
    · subst c4
      exact go_tabIn X d_L_law_33 (off := 341) (tgt := 374) (by decide) (by decide) rfl (by decide) (law_edge X hX hi hI k)
    by_cases c5 : x = 5
    · subst c5
      exact go_tabIn X d_L_law_33 (off := 374) (tgt := 407) (by decide) (by decide) rfl (by decide) (law_stop X hX hi hI k)
    by_cases c6 : x = 6
    · subst c6
      exact go_tabIn X d_L_law_33 (off := 463) (tgt := 496) (by decide) (by decide) rfl (by decide) (law_slip X hX hi hI k)
    by_cases c7 : x = 7
    · subst c7
      exact go_tabIn X d_L_law_33 (off := 526) (tgt := 559) (by decide) (by decide) rfl (by decide) (law_place X hX hi hI k)
    by_cases c8 : x = 8
    · subst c8
      exact go_tabIn X d_L_law_33 (off := 590) (tgt := 623) (by decide) (by decide) rfl (by decide) (law_gap X hX hi hI k)
    by_cases c9 : x = 9
    · subst c9
      exact go_tabIn X d_L_law_33 (off := 623) (tgt := 656) (by decide) (by decide) rfl (by decide) (law_count X hX hi hI k)
    by_cases c10 : x = 10
    · subst c10
      exact go_tabIn X d_L_law_33 (off := 646) (tgt := 679) (by decide) (by decide) rfl (by decide) (law_gear X hX hi hI k)
    refine go_tabOut X d_L_law_33 (tgt := 742) ?_ (by decide) (go_widen (k := 26 + (i + 6)) (n := 4000 + 7 * (i + 6)) (by omega) (by omega) (k g hI))
    have n0 : x.toInt ≠ 0 := fun z => c0 (Int32.toInt_inj.mp z)
    have n1 : x.toInt ≠ 1 := fun z => c1 (Int32.toInt_inj.mp z)
    have n2 : x.toInt ≠ 2 := fun z => c2 (Int32.toInt_inj.mp z)
    have n3 : x.toInt ≠ 3 := fun z => c3 (Int32.toInt_inj.mp z)
    have n4 : x.toInt ≠ 4 := fun z => c4 (Int32.toInt_inj.mp z)
    have n5 : x.toInt ≠ 5 := fun z => c5 (Int32.toInt_inj.mp z)
    have n6 : x.toInt ≠ 6 := fun z => c6 (Int32.toInt_inj.mp z)
    have n7 : x.toInt ≠ 7 := fun z => c7 (Int32.toInt_inj.mp z)
    have n8 : x.toInt ≠ 8 := fun z => c8 (Int32.toInt_inj.mp z)
    have n9 : x.toInt ≠ 9 := fun z => c9 (Int32.toInt_inj.mp z)
    have n10 : x.toInt ≠ 10 := fun z => c10 (Int32.toInt_inj.mp z)
    omega
end LAW2
