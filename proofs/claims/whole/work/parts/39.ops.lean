/-! Operation by operation: both answer alike, and go on agreeing. First those that change nothing but the reference's mark. -/
section OPS
variable {dA : Nat → ClassId} {ad am : Nat → Nat} {g g1 g2 : Nat → Option va_E} {nb ni : Nat} {T : Int64} {B : Nat → BT} {I : Nat → IT} {n : Nat} {tk : Int32} {fr : Nat → Int32} {th : Int32} {L : LA} {J : JA} {ed : Nat} {kn : Int32}
theorem inv_same (hS : SRep dA ad g nb ni T B I n tk fr) (hD : Dis ad am nb ni) (hSim : Sim nb ni T B I n tk fr L J ed kn) (hM2 : MRep dA am g2 0 T nb ni ed kn L J) (hF : MFr am g g2) : Inv dA g2 (ad 0) (am 0) :=
  ⟨ad, am, nb, ni, T, B, I, n, tk, fr, 0, L, J, ed, kn, rfl, rfl, hS.keepM hD hF, hM2, hD, hSim⟩
theorem uniq_b {x : Int32} {k q nb : Nat} (h1 : x = nI k) (h2 : x = nI q) (hk : k < nb) (hq : q < nb) (hn : nb ≤ 12) : k = q := by
  rw [h1] at h2
  exact (nI_eq (by omega) (by omega)).mp h2
theorem uniq_i {x : Int32} {k q ni : Nat} (h1 : x = nI (k + 1)) (h2 : x = nI (q + 1)) (hk : k < ni) (hq : q < ni) (hn : ni ≤ 60) : k = q := by
  rw [h1] at h2
  have := (nI_eq (by omega) (by omega)).mp h2
  omega
theorem gear_sim (hSim : Sim nb ni T B I n tk fr L J ed kn) {x : Int32} {t : Int64} {r1 r2 : Int32} (p1 : ((∀ k, k < nb → x ≠ nI k) ∧ r1 = -11) ∨ (∃ k, k < nb ∧ x = nI k ∧ ((nolF T t = 0 ∧ r1 = -12) ∨ (¬ nolF T t = 0 ∧ r1 = bFg (B k) (stageF (bTold (B k)) t).toNatClampNeg)))) (p2 : ((∀ k, k < nb → x ≠ nI k) ∧ r2 = -11) ∨ (∃ k, k < nb ∧ x = nI k ∧ ((inF t T 1000000 = 0 ∧ r2 = -12) ∨ (¬ inF t T 1000000 = 0 ∧ r2 = gearMF L J k t)))) : r1 = r2 := by
  have hn := hSim.1.1
  rcases p1 with ⟨a, rfl⟩ | ⟨k, hk, e, p1⟩ <;> rcases p2 with ⟨a', rfl⟩ | ⟨q, hq, e', p2⟩
  · rfl
  · exact absurd e' (a q hq)
  · exact absurd e (a' k hk)
  · have : k = q := uniq_b e e' hk hq hn
    subst this
    rcases p1 with ⟨c, rfl⟩ | ⟨c, rfl⟩ <;> rcases p2 with ⟨c', rfl⟩ | ⟨c', rfl⟩
    · rfl
    · exact absurd c c'
    · exact absurd c' c
    · obtain ⟨hbr, hbs, -⟩ := hSim.1.2 k hk
      obtain ⟨t1, t2⟩ := inF_1 c'
      have a := Int64.le_iff_toInt_le.mp t1
      have b := Int64.le_iff_toInt_le.mp t2
      rw [show (1000000 : Int64).toInt = 1000000 from rfl] at b
      have := hbr.2.2.2.2.2.2.2.2.2.1
      exact (gear_eq hbr hbs (by omega) (by omega)).symm
theorem edge_sim (hSim : Sim nb ni T B I n tk fr L J ed kn) (i what : Int32) : readF fr (nI n) i what = readM L J ed i what := by
  obtain ⟨-, -, hE, -, -, h0, h1, he, -⟩ := hSim
  obtain ⟨e1, e2⟩ := hE
  simp only at e1 e2
  subst e1
  unfold readF readM
  by_cases c1 : i < 0
  · rw [if_pos c1, if_pos c1]
  · rw [if_neg c1, if_neg c1]
    by_cases c2 : 400 ≤ i
    · rw [if_pos c2]
      by_cases c3 : nI n ≤ i
      · rw [if_pos c3]
      · rw [if_neg c3, if_pos c2]
    · rw [if_neg c2]
      by_cases c3 : i < nI n
      · rw [if_pos c3, if_neg (Int32.not_le.mpr c3), if_neg c2]
        by_cases c4 : what < 0
        · rw [if_pos c4, if_pos c4]
        · rw [if_neg c4, if_neg c4]
          obtain ⟨q, hq, rfl⟩ := nI_of c1
          have hq4 : q < 400 := lt400 hq c2
          have hqn : q < n := lt_of_nI c3 hq
          obtain ⟨r0, r1, r2, r3⟩ := e2 q hq4 hqn
          obtain ⟨w, hw, rfl⟩ := nI_of c4
          have hcl : (nI q).toNatClampNeg = q := nI_clamp hq
          rw [hcl]
          by_cases c5 : w < 4
          · have e : (nI q * 4 + nI w).toNatClampNeg = q * 4 + w := by
              rw [show nI q * 4 + nI w = nI (q * 4 + w) by rw [show (4 : Int32) = nI 4 from rfl, pk_mul, nI_add]]
              exact nI_clamp (by omega)
            rw [if_pos (show nI w < (4 : Int32) from nI_lt (b := 4) c5 (by decide)), if_pos (show nI w ≤ (3 : Int32) from nI_le (b := 3) (by omega) (by decide)), e]
            have : w = 0 ∨ w = 1 ∨ w = 2 ∨ w = 3 := by omega
            rcases this with rfl | rfl | rfl | rfl
            · rw [if_pos (show nI 0 = 0 from rfl)]; exact r0
            · rw [if_neg (show ¬ nI 1 = 0 by decide), if_pos (show nI 1 = 1 from rfl)]; exact r1
            · rw [if_neg (show ¬ nI 2 = 0 by decide), if_neg (show ¬ nI 2 = 1 by decide), if_pos (show nI 2 = 2 from rfl)]; exact r2
            · rw [if_neg (show ¬ nI 3 = 0 by decide), if_neg (show ¬ nI 3 = 1 by decide), if_neg (show ¬ nI 3 = 2 by decide)]; exact r3
          · rw [if_neg (show ¬ nI w < (4 : Int32) from nI_nlt (b := 4) (by omega) hw), if_neg (show ¬ nI w ≤ (3 : Int32) from nI_ge (a := 3) (b := w) (by omega) hw)]
      · rw [if_neg c3, if_pos (Int32.not_lt.mp c3)]
theorem cnt_sim (hSim : Sim nb ni T B I n tk fr L J ed kn) {j : Nat} (hj : j < nb) : ∀ k, k ≤ ni → cntN I j k = cntM T L J j k := by
  have hn := hSim.1.1
  intro k
  induction k with
  | zero => intro _; rfl
  | succ k ih =>
    intro hk
    simp only [cntN, cntM]
    rw [ih (by omega), thV_eq]
    obtain ⟨-, -, hm⟩ := hSim.2.1 k (by omega)
    rcases hm with hw | ⟨j', ho, -⟩ | hl
    · obtain ⟨w1, ⟨j'', hj'', hbt, -⟩, w3, w4, w5, w6, -⟩ := hw
      rw [if_pos (show isOnF I k j = 0 by unfold isOnF; split; rw [if_neg (by rw [w1]; decide)]; rfl), if_pos (show thV T (vM L J (k + 1)) = 0 by unfold thV; rw [if_pos w6, if_pos (by rw [w3]; exact w4)])]
    · rw [if_neg (on_there ho)]
      have ho14 : J 14 (k + 1) = nI j' := ho.2.2.2.1
      rw [ho14]
      by_cases hjj : j' = j
      · subst hjj
        rw [if_neg (show ¬ isOnF I k j' = 0 by unfold isOnF; rw [if_pos ho.2.2.1, if_pos ho.1]; decide), if_pos rfl]
      · rw [if_pos (show isOnF I k j = 0 by unfold isOnF; rw [if_neg (fun q => hjj (Option.some.inj (ho.2.2.1.symm.trans q)))]), if_neg (fun q => hjj ((nI_eq (by have := ho.2.1; omega) (by omega)).mp q))]
    · rw [if_pos (show isOnF I k j = 0 by unfold isOnF; rw [if_neg (by rw [hl.1]; intro q; cases q)]), if_pos (show thV T (vM L J (k + 1)) = 0 by unfold thV; rw [if_neg (by rw [hl.2.2.2.2.1]; decide)])]
theorem count_sim (hSim : Sim nb ni T B I n tk fr L J ed kn) {x r1 r2 : Int32} (p1 : ((∀ k, k < nb → x ≠ nI k) ∧ r1 = -11) ∨ (∃ k, k < nb ∧ x = nI k ∧ r1 = cntN I k ni)) (p2 : ((∀ k, k < nb → x ≠ nI k) ∧ r2 = -11) ∨ (∃ k, k < nb ∧ x = nI k ∧ r2 = cntM T L J k ni)) : r1 = r2 := by
  have hn := hSim.1.1
  rcases p1 with ⟨a, rfl⟩ | ⟨k, hk, e, rfl⟩ <;> rcases p2 with ⟨a', rfl⟩ | ⟨q, hq, e', rfl⟩
  · rfl
  · exact absurd e' (a q hq)
  · exact absurd e (a' k hk)
  · have : k = q := uniq_b e e' hk hq hn
    subst this
    exact cnt_sim hSim hk ni (Nat.le_refl _)
theorem gap_sim (hSim : Sim nb ni T B I n tk fr L J ed kn) {x y r1 r2 : Int32} (p1 : (((∀ k, k < ni → x ≠ nI (k + 1)) ∨ (∀ k, k < ni → y ≠ nI (k + 1))) ∧ r1 = -11) ∨ (∃ k, k < ni ∧ x = nI (k + 1) ∧ ∃ q, q < ni ∧ y = nI (q + 1) ∧ ((nI (k + 1) = nI (q + 1) ∧ r1 = -12) ∨ (¬ nI (k + 1) = nI (q + 1) ∧ (((onF (I k) = 0 ∨ onF (I q) = 0 ∨ ¬ iBt (I k) = iBt (I q)) ∧ r1 = -13) ∨ (∃ j, iBt (I k) = some j ∧ iBt (I q) = some j ∧ iWt (I k) = 0 ∧ iWt (I q) = 0 ∧ r1 = (wayB (B j) T - iStart (I q) - iLen (I q) - (wayB (B j) T - iStart (I k))).toInt32))))))
    (p2 : (((∀ k, k < ni → x ≠ nI (k + 1)) ∨ (∀ k, k < ni → y ≠ nI (k + 1))) ∧ r2 = -11) ∨ (∃ k, k < ni ∧ x = nI (k + 1) ∧ ∃ q, q < ni ∧ y = nI (q + 1) ∧ ((nI (k + 1) = nI (q + 1) ∧ r2 = -12) ∨ (¬ nI (k + 1) = nI (q + 1) ∧ (((thereF T L J (k + 1) = 0 ∨ thereF T L J (q + 1) = 0 ∨ ¬ J 14 (k + 1) = J 14 (q + 1)) ∧ r2 = -13) ∨ (¬ thereF T L J (k + 1) = 0 ∧ ¬ thereF T L J (q + 1) = 0 ∧ J 14 (k + 1) = J 14 (q + 1) ∧ r2 = (L 15 (q + 1) - L 12 (q + 1) - L 15 (k + 1)).toInt32)))))) : r1 = r2 := by
  have hn := hSim.1.1
  have hni := hSim.2.2.2.2.1
  rcases p1 with ⟨a, rfl⟩ | ⟨k, hk, e, q, hq, e', p1⟩ <;> rcases p2 with ⟨a', rfl⟩ | ⟨k2, hk2, e2, q2, hq2, e2', p2⟩
  · rfl
  · rcases a with a | a
    · exact absurd e2 (a k2 hk2)
    · exact absurd e2' (a q2 hq2)
  · rcases a' with a | a
    · exact absurd e (a k hk)
    · exact absurd e' (a q hq)
  · have h1 : k = k2 := uniq_i e e2 hk hk2 hni
    have h2 : q = q2 := uniq_i e' e2' hq hq2 hni
    subst h1; subst h2
    rcases p1 with ⟨c, rfl⟩ | ⟨c, p1⟩ <;> rcases p2 with ⟨c', rfl⟩ | ⟨c', p2⟩
    · rfl
    · exact absurd c c'
    · exact absurd c' c
    · have onk := on_iff hSim hk
      have onq := on_iff hSim hq
      rcases p1 with ⟨d, rfl⟩ | ⟨j, b1, b2, w1, w2, rfl⟩ <;> rcases p2 with ⟨d', rfl⟩ | ⟨t1, t2, t3, rfl⟩
      · rfl
      · exfalso
        rcases d with d | d | d
        · exact t1 (onk.mp d)
        · exact t2 (onq.mp d)
        · obtain ⟨j1, hb1, hw1⟩ := on_1 (fun z => t1 (onk.mp z))
          obtain ⟨j2, hb2, hw2⟩ := on_1 (fun z => t2 (onq.mp z))
          have o1 := (hSim.on hk hb1 hw1).1
          have o2 := (hSim.on hq hb2 hw2).1
          rw [show J 14 (k + 1) = nI j1 from o1.2.2.2.1, show J 14 (q + 1) = nI j2 from o2.2.2.2.1, nI_eq (by have := o1.2.1; omega) (by have := o2.2.1; omega)] at t3
          exact d (by rw [hb1, hb2, t3])
      · exfalso
        have o1 := (hSim.on hk b1 w1).1
        have o2 := (hSim.on hq b2 w2).1
        rcases d' with d | d | d
        · exact on_there o1 (by rw [← thV_eq]; exact d)
        · exact on_there o2 (by rw [← thV_eq]; exact d)
        · exact d ((show J 14 (k + 1) = nI j from o1.2.2.2.1).trans (show J 14 (q + 1) = nI j from o2.2.2.2.1).symm)
      · have e12 : L 12 (q + 1) = iLen (I q) := (hSim.2.1 q hq).1
        rw [hSim.pl hk b1 w1, hSim.pl hq b2 w2, e12]
end OPS
