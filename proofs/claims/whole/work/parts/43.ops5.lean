/-! A place asked ahead. -/
section OPS5
variable {dA : Nat → ClassId} {ad am : Nat → Nat} {g g1 g2 : Nat → Option va_E} {nb ni : Nat} {T : Int64} {B : Nat → BT} {I : Nat → IT} {n : Nat} {tk : Int32} {fr : Nat → Int32} {th : Int32} {L : LA} {J : JA} {ed : Nat} {kn : Int32}
theorem pl_eq (hB : BAll B nb T L J) {t : Int64} (ht : t.toInt ≤ 1000000) : ∀ (f : Nat) (j : Nat) (p m start : Int64) (F : Nat), j < nb → T.toInt ≤ m.toInt → m.toInt + f = t.toInt → 12 ≤ F + j → p.toInt + start.toInt = (wayB (B j) m).toInt → 0 ≤ p.toInt → p.toInt < (bLen (B j)).toInt → paN B t F j start = plN L J f j p m := by
  have hn := hB.1
  intro f
  induction f with
  | zero =>
    intro j p m start F hj hm hf hF hp p0 p1
    obtain ⟨hbr, hbs, -⟩ := hB.2 j hj
    have htold := hbr.2.2.2.2.2.2.2.2.2.1
    have h0 := hbr.2.2.2.2.2.2.2.2.1
    have hl := hbr.2.2.1
    have emt : m = t := Int64.toInt_inj.mp (by omega)
    subst emt
    have w := way_int hbr (t := m) (by omega) (by omega)
    obtain ⟨F', rfl⟩ : ∃ F', F = F' + 1 := ⟨F - 1, by omega⟩
    have es : (start + bLen (B j)).toInt = start.toInt + (bLen (B j)).toInt := i64_add (by omega) (by omega)
    have hlt : m < towB (B j) (start + bLen (B j)) := (tow_iff hbr (t := m) (by omega) (by omega) (by rw [es]; omega) (by rw [es]; omega)).mpr (Int64.lt_iff_toInt_lt.mpr (by rw [es]; omega))
    simp only [paN, plN]
    rw [if_neg (Int64.not_le.mpr hlt)]
    have ep : p = wayB (B j) m - start := Int64.toInt_inj.mp (by rw [i64_sub (by omega) (by omega)]; omega)
    rw [ep, Int64.sub_eq_add_neg, Int64.sub_eq_add_neg, Int64.add_assoc, Int64.mul_comm]
  | succ f ih =>
    intro j p m start F hj hm hf hF hp p0 p1
    obtain ⟨hbr, hbs, hon⟩ := hB.2 j hj
    have htold := hbr.2.2.2.2.2.2.2.2.2.1
    have h0 := hbr.2.2.2.2.2.2.2.2.1
    have hl := hbr.2.2.1
    have hl1 := hbr.2.1
    have em : (m + 1).toInt = m.toInt + 1 := t_succ (by omega) (by omega)
    obtain ⟨w1, w2, w3⟩ := way_ms hbr hbs (t := m) (by omega) (by omega)
    have w := way_int hbr (t := m) (by omega) (by omega)
    have wn := way_int hbr (t := m + 1) (by omega) (by omega)
    have ep : (p + rateMF L J j m).toInt = p.toInt + (rateMF L J j m).toInt := i64_add (by omega) (by omega)
    have e3 : L 3 j = bLen (B j) := hbs.1
    simp only [plN]
    rw [e3]
    by_cases c : p + rateMF L J j m < bLen (B j)
    · rw [if_pos c]
      have c' := Int64.lt_iff_toInt_lt.mp c
      exact ih j _ _ start F hj (by omega) (by omega) hF (by omega) (by omega) c'
    · rw [if_neg c]
      have c' := Int64.le_iff_toInt_le.mp (Int64.not_lt.mp c)
      obtain ⟨F', rfl⟩ : ∃ F', F = F' + 1 := ⟨F - 1, by omega⟩
      have es : (start + bLen (B j)).toInt = start.toInt + (bLen (B j)).toInt := i64_add (by omega) (by omega)
      have a1 : m < towB (B j) (start + bLen (B j)) := (tow_iff hbr (t := m) (by omega) (by omega) (by rw [es]; omega) (by rw [es]; omega)).mpr (Int64.lt_iff_toInt_lt.mpr (by rw [es]; omega))
      have a2 : ¬ m + 1 < towB (B j) (start + bLen (B j)) := fun z => by
        have := Int64.lt_iff_toInt_lt.mp ((tow_iff hbr (t := m + 1) (by omega) (by omega) (by rw [es]; omega) (by rw [es]; omega)).mp z)
        rw [es] at this
        omega
      have eu : towB (B j) (start + bLen (B j)) = m + 1 := by
        have b1 := Int64.lt_iff_toInt_lt.mp a1
        have b2 := Int64.le_iff_toInt_le.mp (Int64.not_lt.mp a2)
        exact Int64.toInt_inj.mp (by omega)
      simp only [paN]
      rw [eu, if_pos (Int64.le_iff_toInt_le.mpr (by omega))]
      have e5 : J 5 j = ontoV (B j) := hbs.2.2.2.2.2.1
      rw [e5]
      cases ho : bOnto (B j) with
      | none => rw [ontoV_none ho, if_pos rfl]
      | some k =>
        obtain ⟨k1, k2⟩ := hon k ho
        rw [ontoV_some ho, if_neg (show ¬ nI k = -1 from nI_ne_m1 (by omega)), nI_clamp (by omega)]
        simp only
        obtain ⟨hbr2, hbs2, -⟩ := hB.2 k k2
        have htold2 := hbr2.2.2.2.2.2.2.2.2.2.1
        have hl2 := hbr2.2.1
        have wk := way_int hbr2 (t := m + 1) (by omega) (by omega)
        have d1 : (p + rateMF L J j m - bLen (B j)).toInt = p.toInt + (rateMF L J j m).toInt - (bLen (B j)).toInt := by
          rw [i64_sub (by omega) (by omega), ep]
        have d2 : (wayB (B j) (m + 1) - start).toInt = (wayB (B j) (m + 1)).toInt - start.toInt := i64_sub (by omega) (by omega)
        have d3 : (wayB (B j) (m + 1) - start - bLen (B j)).toInt = (wayB (B j) (m + 1)).toInt - start.toInt - (bLen (B j)).toInt := by
          rw [i64_sub (by omega) (by omega), d2]
        have d4 : (wayB (B k) (m + 1) - (wayB (B j) (m + 1) - start - bLen (B j))).toInt = (wayB (B k) (m + 1)).toInt - ((wayB (B j) (m + 1)).toInt - start.toInt - (bLen (B j)).toInt) := by
          rw [i64_sub (by omega) (by omega), d3]
        exact ih k _ _ _ F' k2 (by omega) (by omega) (by omega) (by omega) (by omega) (by omega)
theorem pa_eq (hSim : Sim nb ni T B I n tk fr L J ed kn) {k : Nat} (hk : k < ni) {t : Int64} (t1 : T ≤ t) (t2 : t ≤ 1000000) : paF B (I k) t = placeM T L J (k + 1) t := by
  obtain ⟨hB, hA, -, -, -, s6, s7, -⟩ := hSim
  have a := Int64.le_iff_toInt_le.mp t1
  have b := Int64.le_iff_toInt_le.mp t2
  rw [show (1000000 : Int64).toInt = 1000000 from rfl] at b
  have hn := hB.1
  obtain ⟨i1, i2, i3⟩ := hA k hk
  unfold paF placeM
  rcases i3 with w | ⟨j, ho, -⟩ | l
  · obtain ⟨w1, ⟨j, hj, wb, wo⟩, w3, w4, w5, w6, w7, w8, w9, -⟩ := w
    have w3 : L 13 (k + 1) = iTurn (I k) := w3
    have w6 : J 16 (k + 1) = 0 := w6
    have w9 : L 15 (k + 1) = 0 := w9
    have wo : J 14 (k + 1) = nI j := wo
    have eo : oN J (k + 1) = j := by unfold oN; rw [wo, nI_clamp (by omega)]
    obtain ⟨hbr, -, -⟩ := hB.2 j hj
    have hl := hbr.2.1
    have q := Int64.lt_iff_toInt_lt.mp w4
    rw [wb, if_pos w6, w3, w9, eo]
    simp only
    rw [if_neg (by rw [w1]; decide), if_neg (Int64.not_le.mpr w4)]
    by_cases c : iTurn (I k) ≤ t
    · rw [if_pos c, if_pos c]
      have c' := Int64.le_iff_toInt_le.mp c
      have z0 : (0 : Int64).toInt = 0 := rfl
      exact pl_eq hB b _ j _ _ _ 12 hj (by omega) (by omega) (by omega) (by omega) (by decide) (by omega)
    · rw [if_neg c, if_neg c]
  · obtain ⟨o1, hj, o3, o4, o5, o6, o7, o8, o9, o10, o11, o12, o13, o14, o15⟩ := ho
    have o4 : J 14 (k + 1) = nI j := o4
    have o5 : L 13 (k + 1) ≤ T := o5
    have o6 : J 16 (k + 1) = 0 := o6
    have eo : oN J (k + 1) = j := by unfold oN; rw [o4, nI_clamp (by omega)]
    rw [o3, if_pos o6, if_pos (Int64.le_trans o5 t1), if_pos o5, eo]
    simp only
    rw [if_pos o1]
    exact pl_eq hB b _ j _ _ _ 12 hj (by omega) (by omega) (by omega) o12 o13 o14
  · have l5 : J 16 (k + 1) = 1 := l.2.2.2.2.1
    rw [l.1, if_neg (by rw [l5]; decide)]
theorem place_sim (hSim : Sim nb ni T B I n tk fr L J ed kn) {x : Int32} {t r1 r2 : Int64}
    (p1 : ((∀ k, k < ni → x ≠ nI (k + 1)) ∧ r1 = -11) ∨ (∃ k, k < ni ∧ x = nI (k + 1) ∧ ((nolF T t = 0 ∧ r1 = -12) ∨ (¬ nolF T t = 0 ∧ r1 = paF B (I k) t))))
    (p2 : ((∀ k, k < ni → x ≠ nI (k + 1)) ∧ r2 = -11) ∨ (∃ k, k < ni ∧ x = nI (k + 1) ∧ ((inF t T 1000000 = 0 ∧ r2 = -12) ∨ (¬ inF t T 1000000 = 0 ∧ r2 = placeM T L J (k + 1) t)))) : r1 = r2 := by
  have hni := hSim.2.2.2.2.1
  rcases p1 with ⟨a, rfl⟩ | ⟨k, hk, e, p1⟩ <;> rcases p2 with ⟨a', rfl⟩ | ⟨q, hq, e', p2⟩
  · rfl
  · exact absurd e' (a q hq)
  · exact absurd e (a' k hk)
  · have : k = q := uniq_i e e' hk hq hni
    subst this
    rw [nol_in] at p1
    rcases p1 with ⟨c, rfl⟩ | ⟨c, rfl⟩ <;> rcases p2 with ⟨c', rfl⟩ | ⟨c', rfl⟩
    · rfl
    · exact absurd c c'
    · exact absurd c' c
    · obtain ⟨t1, t2⟩ := inF_1 c'
      exact pa_eq hSim hk t1 t2
end OPS5
