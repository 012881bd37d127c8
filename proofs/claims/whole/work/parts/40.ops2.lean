/-! Operations that change the state. -/
section OPS2
variable {dA : Nat → ClassId} {ad am : Nat → Nat} {g g1 g2 : Nat → Option va_E} {nb ni : Nat} {T : Int64} {B : Nat → BT} {I : Nat → IT} {n : Nat} {tk : Int32} {fr : Nat → Int32} {th : Int32} {L : LA} {J : JA} {ed : Nat} {kn : Int32}
theorem inv_mk {nb' ni' n' ed' : Nat} {T' : Int64} {B' : Nat → BT} {I' : Nat → IT} {tk' kn' : Int32} {fr' : Nat → Int32} {L' : LA} {J' : JA} {ad' : Nat → Nat} (e0 : ad' 0 = ad 0) (hS : SRep dA ad' g1 nb' ni' T' B' I' n' tk' fr') (hM : MRep dA am g2 0 T' nb' ni' ed' kn' L' J') (hF : MFr am g1 g2) (hD : Dis ad' am nb' ni') (hSim : Sim nb' ni' T' B' I' n' tk' fr' L' J' ed' kn') : Inv dA g2 (ad 0) (am 0) :=
  ⟨ad', am, nb', ni', T', B', I', n', tk', fr', 0, L', J', ed', kn', e0, rfl, hS.keepM hD hF, hM, hD, hSim⟩
theorem ISim.congrB {B B' : Nat → BT} {nb nb' : Nat} {T : Int64} {v : MIT} {x : IT} (h : ISim B nb T v x) (hn : nb ≤ nb') (e : ∀ j, j < nb → wayB (B' j) T = wayB (B j) T ∧ bLen (B' j) = bLen (B j) ∧ bSen (B' j) = bSen (B j) ∧ ∀ w, towB (B' j) w = towB (B j) w) : ISim B' nb' T v x := by
  obtain ⟨h1, h2, h3⟩ := h
  refine ⟨h1, h2, ?_⟩
  rcases h3 with hw | ⟨j, ho, ht⟩ | hl
  · obtain ⟨w1, ⟨j, hj, hb, ho⟩, w3⟩ := hw
    exact Or.inl ⟨w1, ⟨j, by omega, hb, ho⟩, w3⟩
  · obtain ⟨o1, hj, o3, o4, o5, o6, o7, o8, o9, o10, o11, o12, o13, o14, o15⟩ := ho
    obtain ⟨e1, e2, e3, e4⟩ := e j hj
    exact Or.inr (Or.inl ⟨j, ⟨o1, by omega, o3, o4, o5, o6, o7, o8, o9, o10, o11, by rw [e1]; exact o12, o13, by rw [e2]; exact o14, by rw [e2, e3, e4]; exact o15⟩, ht⟩)
  · obtain ⟨l1, l2, l3, l4, l5, j, hj, l6⟩ := hl
    exact Or.inr (Or.inr ⟨l1, l2, l3, l4, l5, j, by omega, l6⟩)
theorem join_sim (hS : SRep dA ad g nb ni T B I n tk fr) (hD : Dis ad am nb ni) (hSim : Sim nb ni T B I n tk fr L J ed kn) {x y r1 r2 : Int32}
    (p1 : (((∀ k, k < nb → x ≠ nI k) ∨ (∀ k, k < nb → y ≠ nI k)) ∧ r1 = -11 ∧ g = g1) ∨ (∃ k, k < nb ∧ x = nI k ∧ ∃ q, q < nb ∧ y = nI q ∧ ((¬ nI k < nI q ∧ r1 = -12 ∧ g = g1) ∨ (nI k < nI q ∧ r1 = ontoV (B k) ∧ SRep dA ad g1 nb ni T (va_up B k (setOnto (B k) q)) I n tk fr ∧ SFr ad nb ni g g1))))
    (p2 : ((MRep dA am g2 0 T nb ni ed kn L J ∧ MFr am g1 g2) ∧ ((∀ k, k < nb → x ≠ nI k) ∨ (∀ k, k < nb → y ≠ nI k)) ∧ r2 = -11) ∨ (∃ k, k < nb ∧ x = nI k ∧ ∃ q, q < nb ∧ y = nI q ∧ (((MRep dA am g2 0 T nb ni ed kn L J ∧ MFr am g1 g2) ∧ ¬ nI k < nI q ∧ r2 = -12) ∨ (nI k < nI q ∧ r2 = J 5 k ∧ MRep dA am g2 0 T nb ni ed kn L (va_up J 5 (upd (J 5) k (nI q))) ∧ MFr am g1 g2)))) : r1 = r2 ∧ Inv dA g2 (ad 0) (am 0) := by
  have hn := hSim.1.1
  rcases p1 with ⟨a, rfl, rfl⟩ | ⟨k, hk, e, q, hq, e', p1⟩ <;> rcases p2 with ⟨⟨m1, m2⟩, a', rfl⟩ | ⟨k2, hk2, e2, q2, hq2, e2', p2⟩
  · exact ⟨rfl, inv_same hS hD hSim m1 m2⟩
  · exfalso
    rcases a with a | a
    · exact a k2 hk2 e2
    · exact a q2 hq2 e2'
  · exfalso
    rcases a' with a | a
    · exact a k hk e
    · exact a q hq e'
  · have h1 : k = k2 := uniq_b e e2 hk hk2 hn
    have h2 : q = q2 := uniq_b e' e2' hq hq2 hn
    subst h1; subst h2
    rcases p1 with ⟨c, rfl, rfl⟩ | ⟨c, rfl, hS1, hF1⟩ <;> rcases p2 with ⟨⟨m1, m2⟩, c', rfl⟩ | ⟨c', rfl, m1, m2⟩
    · exact ⟨rfl, inv_same hS hD hSim m1 m2⟩
    · exact absurd c' c
    · exact absurd c c'
    · obtain ⟨hB, hA, hE, s4, s5, s6, s7, s8, s9, s10, s11⟩ := hSim
      obtain ⟨hbr, hbs, -⟩ := hB.2 k hk
      have hkq : k < q := lt_of_nI c (by omega)
      refine ⟨hbs.2.2.2.2.2.1.symm, inv_mk rfl hS1 m1 m2 hD ⟨⟨hn, fun b hb => ?_⟩, fun i hi => ?_, hE, s4, s5, s6, s7, s8, s9, s10, fun b hb => ?_⟩⟩
      · by_cases hbk : b = k
        · subst hbk
          rw [va_up_self]
          refine ⟨hbr, ⟨hbs.1, hbs.2.1, hbs.2.2.1, hbs.2.2.2.1, hbs.2.2.2.2.1, ?_, hbs.2.2.2.2.2.2⟩, fun z hz => ?_⟩
          · show upd (J 5) b (nI q) b = _
            rw [pk_us]; rfl
          · have : q = z := Option.some.inj hz
            subst this
            exact ⟨hkq, hq⟩
        · rw [va_up_ne _ _ hbk]
          obtain ⟨a1, a2, a3⟩ := hB.2 b hb
          refine ⟨a1, ⟨a2.1, a2.2.1, a2.2.2.1, a2.2.2.2.1, a2.2.2.2.2.1, ?_, a2.2.2.2.2.2.2⟩, a3⟩
          show upd (J 5) k (nI q) b = _
          rw [pk_un hbk]; exact a2.2.2.2.2.2.1
      · refine (show ISim B nb T (vM L J (i + 1)) (I i) from hA i hi).congrB (Nat.le_refl _) (fun j hj => ?_)
        by_cases hjk : j = k
        · subst hjk; rw [va_up_self]; exact ⟨rfl, rfl, rfl, fun _ => rfl⟩
        · rw [va_up_ne _ _ hjk]; exact ⟨rfl, rfl, rfl, fun _ => rfl⟩
      · by_cases hbk : b = k
        · subst hbk; rw [va_up_self]; exact s11 b hb
        · rw [va_up_ne _ _ hbk]; exact s11 b hb
theorem slip_sim (hS : SRep dA ad g nb ni T B I n tk fr) (hD : Dis ad am nb ni) (hSim : Sim nb ni T B I n tk fr L J ed kn) {x r1 r2 : Int32} {by0 : Int64}
    (p1 : ((∀ k, k < ni → x ≠ nI (k + 1)) ∧ r1 = -11 ∧ g = g1) ∨ (∃ k, k < ni ∧ x = nI (k + 1) ∧ (((by0 < 0 ∨ 1000000000 < by0) ∧ r1 = -12 ∧ g = g1) ∨ (¬ by0 < 0 ∧ ¬ 1000000000 < by0 ∧ ((onF (I k) = 0 ∧ r1 = -13 ∧ g = g1) ∨ (∃ j, iBt (I k) = some j ∧ iWt (I k) = 0 ∧ r1 = (if wayB (B j) T - iStart (I k) < by0 then wayB (B j) T - iStart (I k) else by0).toInt32 ∧ SRep dA ad g1 nb ni T B (va_up I k (aimI B (slipI (I k) (if wayB (B j) T - iStart (I k) < by0 then wayB (B j) T - iStart (I k) else by0)))) n tk fr ∧ SFr ad nb ni g g1))))))
    (p2 : ((MRep dA am g2 0 T nb ni ed kn L J ∧ MFr am g1 g2) ∧ (∀ k, k < ni → x ≠ nI (k + 1)) ∧ r2 = -11) ∨ (∃ k, k < ni ∧ x = nI (k + 1) ∧ (((MRep dA am g2 0 T nb ni ed kn L J ∧ MFr am g1 g2) ∧ inF by0 0 1000000000 = 0 ∧ r2 = -12) ∨ ((MRep dA am g2 0 T nb ni ed kn L J ∧ MFr am g1 g2) ∧ ¬ inF by0 0 1000000000 = 0 ∧ thereF T L J (k + 1) = 0 ∧ r2 = -13) ∨ (¬ inF by0 0 1000000000 = 0 ∧ ¬ thereF T L J (k + 1) = 0 ∧ r2 = (if L 15 (k + 1) ≤ by0 then L 15 (k + 1) else by0).toInt32 ∧ MRep dA am g2 0 T nb ni ed kn (va_up L 15 (vp_updL (L 15) (k + 1) (L 15 (k + 1) - (if L 15 (k + 1) ≤ by0 then L 15 (k + 1) else by0)))) J ∧ MFr am g1 g2)))) : r1 = r2 ∧ Inv dA g2 (ad 0) (am 0) := by
  have hn := hSim.1.1
  have hni := hSim.2.2.2.2.1
  rcases p1 with ⟨a, rfl, rfl⟩ | ⟨k, hk, e, p1⟩ <;> rcases p2 with ⟨⟨m1, m2⟩, a', rfl⟩ | ⟨k2, hk2, e2, p2⟩
  · exact ⟨rfl, inv_same hS hD hSim m1 m2⟩
  · exact absurd e2 (a k2 hk2)
  · exact absurd e (a' k hk)
  · have h1 : k = k2 := uniq_i e e2 hk hk2 hni
    subst h1
    have onk := on_iff hSim hk
    have inb := inF_iff by0 0 1000000000
    rcases p1 with ⟨c, rfl, rfl⟩ | ⟨c1, c2, p1⟩
    · rcases p2 with ⟨⟨m1, m2⟩, -, rfl⟩ | ⟨-, d, -⟩ | ⟨d, -⟩
      · exact ⟨rfl, inv_same hS hD hSim m1 m2⟩
      · exact absurd (inb.mpr c) d
      · exact absurd (inb.mpr c) d
    · have hni0 : ¬ inF by0 0 1000000000 = 0 := fun z => (inb.mp z).elim c1 c2
      rcases p1 with ⟨c, rfl, rfl⟩ | ⟨j, hb, hw, rfl, hS1, hF1⟩
      · rcases p2 with ⟨-, d, -⟩ | ⟨⟨m1, m2⟩, -, -, rfl⟩ | ⟨-, d, -⟩
        · exact absurd d hni0
        · exact ⟨rfl, inv_same hS hD hSim m1 m2⟩
        · exact absurd (onk.mp c) d
      · obtain ⟨ho, htn⟩ := hSim.on hk hb hw
        have hpl := hSim.pl hk hb hw
        rcases p2 with ⟨-, d, -⟩ | ⟨-, -, d, -⟩ | ⟨-, -, rfl, m1, m2⟩
        · exact absurd d hni0
        · exact absurd (by rw [← thV_eq]; exact d) (on_there ho)
        · rw [hpl] at hS1 ⊢
          have eam : (if L 15 (k + 1) < by0 then L 15 (k + 1) else by0) = (if L 15 (k + 1) ≤ by0 then L 15 (k + 1) else by0) := by
            by_cases z : L 15 (k + 1) < by0
            · rw [if_pos z, if_pos (Int64.le_of_lt z)]
            · rw [if_neg z]
              by_cases z2 : L 15 (k + 1) ≤ by0
              · rw [if_pos z2]
                have y1 := Int64.le_iff_toInt_le.mp z2
                have y2 := Int64.le_iff_toInt_le.mp (Int64.not_lt.mp z)
                exact Int64.toInt_inj.mp (by omega)
              · rw [if_neg z2]
          rw [eam] at hS1 ⊢
          refine ⟨rfl, ?_⟩
          have hsim0 := hSim
          obtain ⟨hB, hA, hE, s4, s5, s6, s7, s8, s9, s10, s11⟩ := hSim
          have hjn := ho.2.1
          obtain ⟨hbr, hbs, -⟩ := hB.2 j hjn
          have htold := hbr.2.2.2.2.2.2.2.2.2.1
          obtain ⟨o1, hj, o3, o4, o5, o6, o7, o8, o9, o10, o11, o12, o13, o14, o15⟩ := id ho
          have o13 : 0 ≤ (L 15 (k + 1)).toInt := o13
          have o14 : (L 15 (k + 1)).toInt < (bLen (B j)).toInt := o14
          have hl2 := hbr.2.2.1
          have hln := (hA k hk).2.1
          have w := way_int hbr htold (by omega)
          have hb0 : 0 ≤ by0.toInt := by
            have := Int64.not_lt.mp c1
            simpa using Int64.le_iff_toInt_le.mp this
          generalize hm : (if L 15 (k + 1) ≤ by0 then L 15 (k + 1) else by0) = mu at hS1 m1 ⊢
          have hmu : 0 ≤ mu.toInt ∧ mu.toInt ≤ (L 15 (k + 1)).toInt := by
            rw [← hm]
            by_cases z : L 15 (k + 1) ≤ by0
            · rw [if_pos z]; exact ⟨o13, Int.le_refl _⟩
            · rw [if_neg z]
              have := Int64.lt_iff_toInt_lt.mp (Int64.not_le.mp z)
              exact ⟨hb0, by omega⟩
          have epl : (L 15 (k + 1) - mu).toInt = (L 15 (k + 1)).toInt - mu.toInt := i64_sub (by omega) (by omega)
          have o12 : (L 15 (k + 1)).toInt + (iStart (I k)).toInt = (wayB (B j) T).toInt := o12
          have est : (iStart (I k) + mu).toInt = (iStart (I k)).toInt + mu.toInt := i64_add (by omega) (by omega)
          have vk : vM (va_up L 15 (vp_updL (L 15) (k + 1) (L 15 (k + 1) - mu))) J (k + 1) = (L 12 (k + 1), L 13 (k + 1), L 15 (k + 1) - mu, J 14 (k + 1), J 16 (k + 1), J 17 (k + 1), J 18 (k + 1)) := by
            show (L 12 (k + 1), L 13 (k + 1), vp_updL (L 15) (k + 1) (L 15 (k + 1) - mu) (k + 1), J 14 (k + 1), J 16 (k + 1), J 17 (k + 1), J 18 (k + 1)) = _
            rw [pk_uLs]
          have vo : ∀ i, i ≠ k + 1 → vM (va_up L 15 (vp_updL (L 15) (k + 1) (L 15 (k + 1) - mu))) J i = vM L J i := by
            intro i hi
            show (L 12 i, L 13 i, vp_updL (L 15) (k + 1) (L 15 (k + 1) - mu) i, J 14 i, J 16 i, J 17 i, J 18 i) = _
            rw [pk_uLn hi]; rfl
          have hti := (turn_iff (L := L) (J := J) hbr hln ho (t := T) htold (by omega) htold (by omega)).mp htn
          have hnew : OnB B nb T (vM (va_up L 15 (vp_updL (L 15) (k + 1) (L 15 (k + 1) - mu))) J (k + 1)) (aimI B (slipI (I k) mu)) j ∧ T < iTurn (aimI B (slipI (I k) mu)) := by
            have ea : aimI B (slipI (I k) mu) = (iLen (I k), some j, iWt (I k), towB (B j) (iStart (I k) + mu + aimF (bLen (B j)) (bSen (B j)) (iLen (I k)) (iFt (I k)) (iEt (I k))), iStart (I k) + mu, iFt (I k), iEt (I k)) := by
              unfold aimI; rw [show iBt (slipI (I k) mu) = some j from o3]; rfl
            have hon : OnB B nb T (L 12 (k + 1), L 13 (k + 1), L 15 (k + 1) - mu, J 14 (k + 1), J 16 (k + 1), J 17 (k + 1), J 18 (k + 1)) (iLen (I k), some j, iWt (I k), towB (B j) (iStart (I k) + mu + aimF (bLen (B j)) (bSen (B j)) (iLen (I k)) (iFt (I k)) (iEt (I k))), iStart (I k) + mu, iFt (I k), iEt (I k)) j := by
              refine ⟨o1, hj, rfl, o4, o5, o6, o7, o8, o9, o10, o11, ?_, ?_, ?_, rfl⟩
              · show (L 15 (k + 1) - mu).toInt + (iStart (I k) + mu).toInt = _
                rw [epl, est]; omega
              · show 0 ≤ (L 15 (k + 1) - mu).toInt
                rw [epl]; omega
              · show (L 15 (k + 1) - mu).toInt < _
                rw [epl]; omega
            rw [ea, vk]
            refine ⟨hon, (turn_iff (x := (iLen (I k), some j, iWt (I k), towB (B j) (iStart (I k) + mu + aimF (bLen (B j)) (bSen (B j)) (iLen (I k)) (iFt (I k)) (iEt (I k))), iStart (I k) + mu, iFt (I k), iEt (I k))) (L := L) (J := J) hbr (show lenV (iLen (I k), some j, iWt (I k), towB (B j) (iStart (I k) + mu + aimF (bLen (B j)) (bSen (B j)) (iLen (I k)) (iFt (I k)) (iEt (I k))), iStart (I k) + mu, iFt (I k), iEt (I k)) from hln) hon (t := T) htold (by omega) htold (by omega)).mpr ?_⟩
            show (wayB (B j) T).toInt - (iStart (I k) + mu).toInt < (aimF (bLen (B j)) (bSen (B j)) (iLen (I k)) (iFt (I k)) (iEt (I k))).toInt
            rw [est]; omega
          refine inv_mk rfl hS1 m1 m2 hD ⟨hB.congr (Int.le_refl _) s7 rfl rfl rfl rfl rfl rfl rfl, fun i hi => ?_, hE, s4, s5, s6, s7, s8, s9, fun i h1 h2 => ?_, s11⟩
          · by_cases hik : i = k
            · subst hik
              rw [va_up_self]
              refine ⟨?_, ?_, Or.inr (Or.inl ⟨j, hnew⟩)⟩
              · show L 12 (i + 1) = iLen (aimI B (slipI (I i) mu))
                rw [show iLen (aimI B (slipI (I i) mu)) = iLen (I i) by unfold aimI; rw [show iBt (slipI (I i) mu) = some j from o3]; rfl]
                exact (hA i hi).1
              · unfold lenV
                rw [show iLen (aimI B (slipI (I i) mu)) = iLen (I i) by unfold aimI; rw [show iBt (slipI (I i) mu) = some j from o3]; rfl]
                exact hln
            · rw [va_up_ne _ _ hik]
              show ISim B nb T (vM (va_up L 15 (vp_updL (L 15) (k + 1) (L 15 (k + 1) - mu))) J (i + 1)) (I i)
              rw [vo (i + 1) (by omega)]
              exact hA i hi
          · obtain ⟨b1, b2⟩ := s10 i h1 h2
            refine ⟨?_, b2⟩
            show vp_updL (L 15) (k + 1) (L 15 (k + 1) - mu) i = 0
            rw [pk_uLn (by omega)]; exact b1
end OPS2
