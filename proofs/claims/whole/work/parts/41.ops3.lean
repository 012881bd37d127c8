/-! Time passes; a belt is told. -/
section OPS3
variable {dA : Nat → ClassId} {ad am : Nat → Nat} {g g1 g2 : Nat → Option va_E} {nb ni : Nat} {T : Int64} {B : Nat → BT} {I : Nat → IT} {n : Nat} {tk : Int32} {fr : Nat → Int32} {th : Int32} {L : LA} {J : JA} {ed : Nat} {kn : Int32}
theorem Sim.pass (h : Sim nb ni T B I n tk fr L J ed kn) {t : Int64} (t1 : T ≤ t) (t2 : t ≤ 1000000) : Sim nb ni t B (pasN B ni t 100000 I (n, fr)).1 (pasN B ni t 100000 I (n, fr)).2.1 tk (pasN B ni t 100000 I (n, fr)).2.2 (msN nb ni (t.toInt - T.toInt).toNat T (L, J, ed)).1 (msN nb ni (t.toInt - T.toInt).toNat T (L, J, ed)).2.1 (msN nb ni (t.toInt - T.toInt).toNat T (L, J, ed)).2.2 kn ∧ ∀ k, k < nb → (msN nb ni (t.toInt - T.toInt).toNat T (L, J, ed)).2.1 7 k = J 7 k ∧ (msN nb ni (t.toInt - T.toInt).toNat T (L, J, ed)).2.1 9 k = J 9 k := by
  obtain ⟨hB, hA, hE, s4, s5, s6, s7, s8, s9, s10, s11⟩ := h
  have a := Int64.le_iff_toInt_le.mp t1
  have b := Int64.le_iff_toInt_le.mp t2
  rw [show (1000000 : Int64).toInt = 1000000 from rfl] at b
  obtain ⟨hA', hE', ⟨k1, k2, k3⟩, hB', hed⟩ := pas_sim s5 s6 t1 b (s := (L, J, ed)) hB hA hE
  generalize msN nb ni (t.toInt - T.toInt).toNat T (L, J, ed) = s' at *
  generalize pasN B ni t 100000 I (n, fr) = e' at *
  simp only at k1 k2 k3 hed
  refine ⟨⟨hB', hA', hE', s4, s5, by omega, b, by omega, fun k h1 h2 => ?_, fun i h1 h2 => ?_, s11⟩, fun k hk => ⟨?_, ?_⟩⟩
  · rw [k1 6 (by decide) (by decide) (by decide), k2 9 (by decide) (by decide) (by decide) (by decide) (by decide) (by decide) (by decide)]; exact s9 k h1 h2
  · have hv := k3 i h1
    obtain ⟨z1, z2, z3, z4⟩ := s10 i h1 h2
    have e1 : s'.1 15 i = L 15 i := congrArg (fun v : MIT => vPl v) hv
    have e2 : s'.2.1 16 i = J 16 i := congrArg (fun v : MIT => vLf v) hv
    have e3 : s'.2.1 17 i = J 17 i := congrArg (fun v : MIT => vFr v) hv
    have e4 : s'.2.1 18 i = J 18 i := congrArg (fun v : MIT => vBk v) hv
    rw [e1, e2, e3, e4]; exact ⟨z1, z2, z3, z4⟩
  · rw [k2 7 (by decide) (by decide) (by decide) (by decide) (by decide) (by decide) (by decide)]
  · rw [k2 9 (by decide) (by decide) (by decide) (by decide) (by decide) (by decide) (by decide)]
theorem Sim.setTk (h : Sim nb ni T B I n tk fr L J ed kn) (x : Int32) : Sim nb ni T B I n x fr L J ed x := by
  obtain ⟨hB, hA, hE, s4, s⟩ := h
  exact ⟨hB, hA, hE, rfl, s⟩
theorem step_sim (hS : SRep dA ad g nb ni T B I n tk fr) (hD : Dis ad am nb ni) (hSim : Sim nb ni T B I n tk fr L J ed kn) {t : Int64} {r1 r2 : Int32}
    (p1 : (nolF T t = 0 ∧ r1 = -12 ∧ g = g1) ∨ (¬ nolF T t = 0 ∧ r1 = nI (pasN B ni t 100000 I (n, fr)).2.1 - tk ∧ SRep dA ad g1 nb ni t B (pasN B ni t 100000 I (n, fr)).1 (pasN B ni t 100000 I (n, fr)).2.1 (nI (pasN B ni t 100000 I (n, fr)).2.1) (pasN B ni t 100000 I (n, fr)).2.2 ∧ SFr ad nb ni g g1))
    (p2 : ((MRep dA am g2 0 T nb ni ed kn L J ∧ MFr am g1 g2) ∧ inF t T 1000000 = 0 ∧ r2 = -12) ∨ (¬ inF t T 1000000 = 0 ∧ r2 = nI (msN nb ni (t.toInt - T.toInt).toNat T (L, J, ed)).2.2 - kn ∧ MRep dA am g2 0 t nb ni (msN nb ni (t.toInt - T.toInt).toNat T (L, J, ed)).2.2 (nI (msN nb ni (t.toInt - T.toInt).toNat T (L, J, ed)).2.2) (msN nb ni (t.toInt - T.toInt).toNat T (L, J, ed)).1 (msN nb ni (t.toInt - T.toInt).toNat T (L, J, ed)).2.1 ∧ MFr am g1 g2)) : r1 = r2 ∧ Inv dA g2 (ad 0) (am 0) := by
  rw [nol_in] at p1
  rcases p1 with ⟨c, rfl, rfl⟩ | ⟨c, rfl, hS1, hF1⟩ <;> rcases p2 with ⟨⟨m1, m2⟩, c', rfl⟩ | ⟨c', rfl, m1, m2⟩
  · exact ⟨rfl, inv_same hS hD hSim m1 m2⟩
  · exact absurd c c'
  · exact absurd c' c
  · obtain ⟨t1, t2⟩ := inF_1 c'
    have hP := (hSim.pass t1 t2).1
    have en : (pasN B ni t 100000 I (n, fr)).2.1 = (msN nb ni (t.toInt - T.toInt).toNat T (L, J, ed)).2.2 := hP.2.2.1.1
    have ek : tk = kn := hSim.2.2.2.1
    refine ⟨by rw [en, ek], inv_mk rfl hS1 m1 m2 hD ?_⟩
    have := hP.setTk (nI (msN nb ni (t.toInt - T.toInt).toNat T (L, J, ed)).2.2)
    rw [← en] at this ⊢
    exact this
theorem aimN_get (B : Nat → BT) (j : Nat) (I : Nat → IT) : ∀ k i, aimN B j I k i = if i < k ∧ iBt (I i) = some j ∧ iWt (I i) = 0 then aimI B (I i) else I i := by
  intro k
  induction k with
  | zero => intro i; rw [if_neg (fun h => Nat.not_lt_zero _ h.1)]; rfl
  | succ k ih =>
    intro i
    have hk : aimN B j I k k = I k := by rw [ih k, if_neg (fun h => Nat.lt_irrefl _ h.1)]
    have e : aimN B j I (k + 1) = if iBt (I k) = some j then (if iWt (I k) = 0 then va_up (aimN B j I k) k (aimI B (I k)) else aimN B j I k) else aimN B j I k := by
      simp only [aimN, hk]
    rw [e]
    by_cases hik : i = k
    · subst hik
      by_cases c1 : iBt (I i) = some j
      · rw [if_pos c1]
        by_cases c2 : iWt (I i) = 0
        · rw [if_pos c2, va_up_self, if_pos ⟨by omega, c1, c2⟩]
        · rw [if_neg c2, if_neg (fun h => c2 h.2.2), hk]
      · rw [if_neg c1, if_neg (fun h => c1 h.2.1), hk]
    · have hy : (i < k + 1 ∧ iBt (I i) = some j ∧ iWt (I i) = 0) ↔ (i < k ∧ iBt (I i) = some j ∧ iWt (I i) = 0) := by
        constructor
        · rintro ⟨a, b⟩; exact ⟨by omega, b⟩
        · rintro ⟨a, b⟩; exact ⟨by omega, b⟩
      rw [show (if i < k + 1 ∧ iBt (I i) = some j ∧ iWt (I i) = 0 then aimI B (I i) else I i) = (if i < k ∧ iBt (I i) = some j ∧ iWt (I i) = 0 then aimI B (I i) else I i) by by_cases c : i < k ∧ iBt (I i) = some j ∧ iWt (I i) = 0; rw [if_pos c, if_pos (hy.mpr c)]; rw [if_neg c, if_neg (fun z => c (hy.mp z))], ← ih i]
      by_cases c1 : iBt (I k) = some j
      · rw [if_pos c1]
        by_cases c2 : iWt (I k) = 0
        · rw [if_pos c2, va_up_ne _ _ hik]
        · rw [if_neg c2]
      · rw [if_neg c1]
theorem told_sim (h : Sim nb ni T B I n tk fr L J ed kn) {k : Nat} (hk : k < nb) {b' : BT} {on : Int32} (hon : on = 0 ∨ on = 1) (ht : IsTold (B k) b' on T) (htel : bTel (B k) < 100) : Sim nb ni T (va_up B k b') (aimN (va_up B k b') k I ni) n tk fr (va_up L 6 (vp_updL (L 6) k T)) (va_up (va_up (va_up J 8 (upd (J 8) k (bfM L J k T))) 7 (upd (J 7) k on)) 9 (upd (J 9) k (J 9 k + 1))) ed kn := by
  obtain ⟨hB, hA, hE, s4, s5, s6, s7, s8, s9, s10, s11⟩ := h
  obtain ⟨hbr, hbs, hbo⟩ := hB.2 k hk
  obtain ⟨t1, t2, t3, t4, t5, t6, t7, t8, t9, t10⟩ := ht
  obtain ⟨r1, r2, r3, r4, r5, r6, r7, ⟨q, hq, r8⟩, r9, r10, r11, r12, r13⟩ := id hbr
  have hw := way_int hbr (t := T) r10 (by omega)
  have z0 : (0 : Int64).toInt = 0 := rfl
  -- the gear before
  have hgb : bfM L J k T = gbT (B k) T := by
    unfold bfM gbT
    rw [hbs.2.2.1]
    by_cases c0 : T = 0
    · rw [if_pos c0]
      have e0 : bTold (B k) = 0 := by
        apply Int64.toInt_inj.mp
        have : T.toInt = 0 := by rw [c0]; rfl
        rw [z0]; omega
      rw [if_pos (by rw [c0, e0]; exact Int64.le_refl _)]
      exact ((s11 k hk).2.2 e0).symm
    · rw [if_neg c0]
      by_cases c1 : T ≤ bTold (B k)
      · rw [if_pos c1, if_pos c1]; exact hbs.2.2.2.2.1
      · rw [if_neg c1, if_neg c1]
        have y := Int64.lt_iff_toInt_lt.mp (Int64.not_le.mp c1)
        have em : (T - 1).toInt = T.toInt - 1 := by
          rw [i64_sub (by rw [show (1 : Int64).toInt = 1 from rfl]; omega) (by rw [show (1 : Int64).toInt = 1 from rfl]; omega)]; rfl
        exact gear_eq hbr hbs (by omega) (by omega)
  have hgq : ∃ q, q ≤ 8 ∧ gbT (B k) T = nI q := by
    unfold gbT
    by_cases c1 : T ≤ bTold (B k)
    · rw [if_pos c1]; exact ⟨q, hq, r8⟩
    · rw [if_neg c1]
      have y := Int64.lt_iff_toInt_lt.mp (Int64.not_le.mp c1)
      have em : (T - 1).toInt = T.toInt - 1 := by
        rw [i64_sub (by rw [show (1 : Int64).toInt = 1 from rfl]; omega) (by rw [show (1 : Int64).toInt = 1 from rfl]; omega)]; rfl
      have hst := stI_lt ((T - 1).toInt - (bTold (B k)).toInt)
      rw [stage_int r9 (by omega) (by omega), nI_clamp (by omega), (arr_int hbr hst).2.2.2.2]
      exact ⟨_, gN_le (by rw [r8, nI_clamp (by omega)]; exact hq), rfl⟩
  have hbr' : BRg b' T.toInt := by
    refine ⟨t1, by rw [t2]; exact r2, by rw [t2]; exact r3, by rw [t3]; exact r4, by rw [t3]; exact r5, by rw [t4, t2]; exact r6, by rw [t6]; exact hon, by rw [t9]; exact hgq, by rw [t8]; exact s6, by rw [t8]; exact Int.le_refl _, s7, by rw [t10]; exact hw.2.1, by rw [t10, t8]; exact hw.2.2⟩
  have hway : wayB b' T = wayB (B k) T := by
    apply Int64.toInt_inj.mp
    rw [(way_int hbr' (t := T) (by rw [t8]; exact Int.le_refl _) (by omega)).1, t8, Int.sub_self]
    have e0 : WI (Fb b') (Pb b') 0 = Fb b' 0 := by
      have := WI_at (F := Fb b') (P := Pb b') (k := 0) (Fb_s b') (by decide) (r := 0) (by omega) (by omega)
      simpa using this
    rw [e0]
    show (bWat b').toInt = _
    rw [t10]
  have vv : ∀ i, vM (va_up L 6 (vp_updL (L 6) k T)) (va_up (va_up (va_up J 8 (upd (J 8) k (bfM L J k T))) 7 (upd (J 7) k on)) 9 (upd (J 9) k (J 9 k + 1))) i = vM L J i := fun _ => rfl
  refine ⟨⟨hB.1, fun b hb => ?_⟩, fun i hi => ?_, hE, s4, s5, s6, s7, s8, fun j h1 h2 => ?_, s10, fun b hb => ?_⟩
  · by_cases hbk : b = k
    · subst hbk
      rw [va_up_self]
      refine ⟨hbr', ⟨by rw [t2]; exact hbs.1, by rw [t3]; exact hbs.2.1, ?_, ?_, ?_, ?_, ?_⟩, fun z hz => hbo z (by rw [← t5]; exact hz)⟩
      · show vp_updL (L 6) b T b = _
        rw [pk_uLs, t8]
      · show upd (J 7) b on b = _
        rw [pk_us, t6]
      · show upd (J 8) b (bfM L J b T) b = _
        rw [pk_us, t9, hgb]
      · show J 5 b = _
        rw [hbs.2.2.2.2.2.1]
        unfold ontoV
        rw [t5]
      · show upd (J 9) b (J 9 b + 1) b = _
        rw [pk_us, t7, hbs.2.2.2.2.2.2]
    · rw [va_up_ne _ _ hbk]
      obtain ⟨a1, a2, a3⟩ := hB.2 b hb
      refine ⟨a1, ⟨a2.1, a2.2.1, ?_, ?_, ?_, a2.2.2.2.2.2.1, ?_⟩, a3⟩
      · show vp_updL (L 6) k T b = _
        rw [pk_uLn hbk]; exact a2.2.2.1
      · show upd (J 7) k on b = _
        rw [pk_un hbk]; exact a2.2.2.2.1
      · show upd (J 8) k (bfM L J k T) b = _
        rw [pk_un hbk]; exact a2.2.2.2.2.1
      · show upd (J 9) k (J 9 k + 1) b = _
        rw [pk_un hbk]; exact a2.2.2.2.2.2.2
  · show ISim (va_up B k b') nb T (vM L J (i + 1)) (aimN (va_up B k b') k I ni i)
    rw [aimN_get]
    obtain ⟨i1, i2, i3⟩ := (show ISim B nb T (vM L J (i + 1)) (I i) from hA i hi)
    rcases i3 with w | ⟨j, ho, htn⟩ | l
    · rw [if_neg (fun c => by have := c.2.2; rw [w.1] at this; exact absurd this (by decide))]
      exact ⟨i1, i2, Or.inl w⟩
    · by_cases hjk : j = k
      · subst hjk
        obtain ⟨o1, hj, o3, o4, o5, o6, o7, o8, o9, o10, o11, o12, o13, o14, o15⟩ := id ho
        rw [if_pos ⟨hi, o3, o1⟩]
        have hti := (turn_iff (x := I i) (L := L) (J := J) hbr i2 ho (t := T) r10 (by omega) r10 (by omega)).mp htn
        have ea : aimI (va_up B j b') (I i) = (iLen (I i), some j, iWt (I i), towB b' (iStart (I i) + aimF (bLen b') (bSen b') (iLen (I i)) (iFt (I i)) (iEt (I i))), iStart (I i), iFt (I i), iEt (I i)) := by
          unfold aimI; rw [o3]; simp only [va_up_self]
        rw [ea]
        have hon' : OnB (va_up B j b') nb T (vM L J (i + 1)) (iLen (I i), some j, iWt (I i), towB b' (iStart (I i) + aimF (bLen b') (bSen b') (iLen (I i)) (iFt (I i)) (iEt (I i))), iStart (I i), iFt (I i), iEt (I i)) j := by
          refine ⟨o1, hj, rfl, o4, o5, o6, o7, o8, o9, o10, o11, ?_, o13, ?_, ?_⟩
          · rw [va_up_self, hway]; exact o12
          · rw [va_up_self, t2]; exact o14
          · rw [va_up_self]
        refine ⟨i1, i2, Or.inr (Or.inl ⟨j, hon', ?_⟩)⟩
        refine (turn_iff (B := va_up B j b') (x := (iLen (I i), some j, iWt (I i), towB b' (iStart (I i) + aimF (bLen b') (bSen b') (iLen (I i)) (iFt (I i)) (iEt (I i))), iStart (I i), iFt (I i), iEt (I i))) (L := L) (J := J) (now := T.toInt) (by rw [va_up_self]; exact hbr') (show lenV (iLen (I i), some j, iWt (I i), towB b' (iStart (I i) + aimF (bLen b') (bSen b') (iLen (I i)) (iFt (I i)) (iEt (I i))), iStart (I i), iFt (I i), iEt (I i)) from i2) hon' (t := T) (by rw [va_up_self, t8]; exact Int.le_refl _) (by omega) (by rw [va_up_self, t8]; exact Int.le_refl _) (by omega)).mpr ?_
        rw [va_up_self, hway, t2, t4]
        exact hti
      · rw [if_neg (fun c => hjk (Option.some.inj (ho.2.2.1.symm.trans c.2.1)))]
        obtain ⟨o1, hj, o3, o4, o5, o6, o7, o8, o9, o10, o11, o12, o13, o14, o15⟩ := ho
        refine ⟨i1, i2, Or.inr (Or.inl ⟨j, ⟨o1, hj, o3, o4, o5, o6, o7, o8, o9, o10, o11, ?_, o13, ?_, ?_⟩, htn⟩)⟩
        · rw [va_up_ne _ _ hjk]; exact o12
        · rw [va_up_ne _ _ hjk]; exact o14
        · rw [va_up_ne _ _ hjk]; exact o15
    · rw [if_neg (fun c => by have := c.2.1; rw [l.1] at this; cases this)]
      exact ⟨i1, i2, Or.inr (Or.inr l)⟩
  · have hjk : j ≠ k := by omega
    refine ⟨?_, ?_⟩
    · show vp_updL (L 6) k T j = 0
      rw [pk_uLn hjk]; exact (s9 j h1 h2).1
    · show upd (J 9) k (J 9 k + 1) j = 0
      rw [pk_un hjk]; exact (s9 j h1 h2).2
  · by_cases hbk : b = k
    · subst hbk
      rw [va_up_self]
      obtain ⟨a1, a2, a3⟩ := s11 b hb
      have hlt := Int32.lt_iff_toInt_lt.mp htel
      rw [show (100 : Int32).toInt = 100 from rfl] at hlt
      have e1 : (bTel (B b) + 1).toInt = (bTel (B b)).toInt + 1 := by
        rw [Int32.toInt_add, show (1 : Int32).toInt = 1 from rfl, Int.bmod_eq_of_le (by omega) (by omega)]
      rw [t7, e1]
      refine ⟨by omega, by omega, fun h0 => ?_⟩
      rw [t9]
      rw [t8] at h0
      rw [← hgb]
      unfold bfM
      rw [if_pos h0]
    · rw [va_up_ne _ _ hbk]; exact s11 b hb
theorem stop_sim (hS : SRep dA ad g nb ni T B I n tk fr) (hD : Dis ad am nb ni) (hSim : Sim nb ni T B I n tk fr L J ed kn) {x on : Int32} {t : Int64} {r1 r2 : Int32} (hon : on = 0 ∨ on = 1)
    (p1 : ((∀ k, k < nb → x ≠ nI k) ∧ r1 = -11 ∧ g = g1) ∨ (∃ k, k < nb ∧ x = nI k ∧ ((nolF T t = 0 ∧ r1 = -12 ∧ g = g1) ∨ (¬ nolF T t = 0 ∧ ((¬ bRun (B k) = on ∧ ¬ bTel (B k) < 100 ∧ r1 = -14 ∧ g = g1) ∨ (bRun (B k) = on ∧ r1 = 0 ∧ SRep dA ad g1 nb ni t B (pasN B ni t 100000 I (n, fr)).1 (pasN B ni t 100000 I (n, fr)).2.1 tk (pasN B ni t 100000 I (n, fr)).2.2 ∧ SFr ad nb ni g g1) ∨ (¬ bRun (B k) = on ∧ bTel (B k) < 100 ∧ r1 = 1 ∧ ∃ b', IsTold (B k) b' on t ∧ SRep dA ad g1 nb ni t (va_up B k b') (aimN (va_up B k b') k (pasN B ni t 100000 I (n, fr)).1 ni) (pasN B ni t 100000 I (n, fr)).2.1 tk (pasN B ni t 100000 I (n, fr)).2.2 ∧ SFr ad nb ni g g1))))))
    (p2 : ((MRep dA am g2 0 T nb ni ed kn L J ∧ MFr am g1 g2) ∧ (∀ k, k < nb → x ≠ nI k) ∧ r2 = -11) ∨ (∃ k, k < nb ∧ x = nI k ∧ (((MRep dA am g2 0 T nb ni ed kn L J ∧ MFr am g1 g2) ∧ inF t T 1000000 = 0 ∧ r2 = -12) ∨ ((MRep dA am g2 0 T nb ni ed kn L J ∧ MFr am g1 g2) ∧ ¬ inF t T 1000000 = 0 ∧ ¬ J 7 k = on ∧ J 9 k = 100 ∧ r2 = -14) ∨ (¬ inF t T 1000000 = 0 ∧ (J 7 k = on ∨ ¬ J 9 k = 100) ∧ (((msN nb ni (t.toInt - T.toInt).toNat T (L, J, ed)).2.1 7 k = on ∧ r2 = 0 ∧ MRep dA am g2 0 t nb ni (msN nb ni (t.toInt - T.toInt).toNat T (L, J, ed)).2.2 kn (msN nb ni (t.toInt - T.toInt).toNat T (L, J, ed)).1 (msN nb ni (t.toInt - T.toInt).toNat T (L, J, ed)).2.1 ∧ MFr am g1 g2) ∨ (¬ (msN nb ni (t.toInt - T.toInt).toNat T (L, J, ed)).2.1 7 k = on ∧ r2 = 1 ∧ MRep dA am g2 0 t nb ni (msN nb ni (t.toInt - T.toInt).toNat T (L, J, ed)).2.2 kn (va_up (msN nb ni (t.toInt - T.toInt).toNat T (L, J, ed)).1 6 (vp_updL ((msN nb ni (t.toInt - T.toInt).toNat T (L, J, ed)).1 6) k t)) (va_up (va_up (va_up (msN nb ni (t.toInt - T.toInt).toNat T (L, J, ed)).2.1 8 (upd ((msN nb ni (t.toInt - T.toInt).toNat T (L, J, ed)).2.1 8) k (bfM (msN nb ni (t.toInt - T.toInt).toNat T (L, J, ed)).1 (msN nb ni (t.toInt - T.toInt).toNat T (L, J, ed)).2.1 k t))) 7 (upd ((msN nb ni (t.toInt - T.toInt).toNat T (L, J, ed)).2.1 7) k on)) 9 (upd ((msN nb ni (t.toInt - T.toInt).toNat T (L, J, ed)).2.1 9) k ((msN nb ni (t.toInt - T.toInt).toNat T (L, J, ed)).2.1 9 k + 1))) ∧ MFr am g1 g2)))))) : r1 = r2 ∧ Inv dA g2 (ad 0) (am 0) := by
  have hn := hSim.1.1
  rcases p1 with ⟨a, rfl, rfl⟩ | ⟨k, hk, e, p1⟩ <;> rcases p2 with ⟨⟨m1, m2⟩, a', rfl⟩ | ⟨k2, hk2, e2, p2⟩
  · exact ⟨rfl, inv_same hS hD hSim m1 m2⟩
  · exact absurd e2 (a k2 hk2)
  · exact absurd e (a' k hk)
  · have h1 : k = k2 := uniq_b e e2 hk hk2 hn
    subst h1
    rw [nol_in] at p1
    obtain ⟨hbr, hbs, -⟩ := hSim.1.2 k hk
    obtain ⟨u1, u2, -⟩ := hSim.2.2.2.2.2.2.2.2.2.2 k hk
    have e7 : J 7 k = bRun (B k) := hbs.2.2.2.1
    have e9 : J 9 k = bTel (B k) := hbs.2.2.2.2.2.2
    have htel : bTel (B k) < 100 ↔ ¬ J 9 k = 100 := by
      rw [e9]
      constructor
      · intro h c
        rw [c] at h
        exact absurd h (by decide)
      · intro h
        apply Int32.lt_iff_toInt_lt.mpr
        rw [show (100 : Int32).toInt = 100 from rfl]
        rcases Int.lt_or_le (bTel (B k)).toInt 100 with q | q
        · exact q
        · exact absurd (Int32.toInt_inj.mp (by rw [show (100 : Int32).toInt = 100 from rfl]; omega)) h
    rcases p1 with ⟨c, rfl, rfl⟩ | ⟨c, p1⟩
    · rcases p2 with ⟨⟨m1, m2⟩, -, rfl⟩ | ⟨-, d, -⟩ | ⟨d, -⟩
      · exact ⟨rfl, inv_same hS hD hSim m1 m2⟩
      · exact absurd c d
      · exact absurd c d
    · rcases p2 with ⟨-, d, -⟩ | ⟨⟨m1, m2⟩, -, d7, d9, rfl⟩ | ⟨-, d, p2⟩
      · exact absurd d c
      · rcases p1 with ⟨c1, c2, rfl, rfl⟩ | ⟨c1, -⟩ | ⟨c1, c2, -⟩
        · exact ⟨rfl, inv_same hS hD hSim m1 m2⟩
        · exact absurd (e7.trans c1) d7
        · exact absurd d9 (htel.mp c2)
      · obtain ⟨t1, t2⟩ := inF_1 c
        obtain ⟨hP, hP2⟩ := hSim.pass t1 t2
        obtain ⟨q7, q9⟩ := hP2 k hk
        rcases p1 with ⟨c1, c2, -⟩ | ⟨c1, rfl, hS1, hF1⟩ | ⟨c1, c2, rfl, b', hb', hS1, hF1⟩
        · rcases d with d | d
          · exact absurd (e7.symm.trans d) c1
          · exact absurd (htel.mpr d) c2
        · rcases p2 with ⟨-, rfl, m1, m2⟩ | ⟨f, -⟩
          · exact ⟨rfl, inv_mk rfl hS1 m1 m2 hD hP⟩
          · exact absurd (q7.trans (e7.trans c1)) f
        · rcases p2 with ⟨f, -⟩ | ⟨-, rfl, m1, m2⟩
          · exact absurd (e7.symm.trans (q7.symm.trans f)) c1
          · exact ⟨rfl, inv_mk rfl hS1 m1 m2 hD (told_sim hP hk hon hb' c2)⟩
end OPS3
