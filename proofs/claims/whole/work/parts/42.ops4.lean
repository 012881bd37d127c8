/-! A new belt; a new item; both new objects. -/
section OPS4
variable {dA : Nat → ClassId} {ad am : Nat → Nat} {g g1 g2 : Nat → Option va_E} {nb ni : Nat} {T : Int64} {B : Nat → BT} {I : Nat → IT} {n : Nat} {tk : Int32} {fr : Nat → Int32} {th : Int32} {L : LA} {J : JA} {ed : Nat} {kn : Int32}
theorem inF_pos {v a b : Int64} (h : ¬ inF v a b = 0) : a.toInt ≤ v.toInt ∧ v.toInt ≤ b.toInt := by
  have h1 : ¬ v < a := fun c => h ((inF_iff v a b).mpr (Or.inl c))
  have h2 : ¬ b < v := fun c => h ((inF_iff v a b).mpr (Or.inr c))
  exact ⟨Int64.le_iff_toInt_le.mp (Int64.not_lt.mp h1), Int64.le_iff_toInt_le.mp (Int64.not_lt.mp h2)⟩
theorem nI_full {q m : Nat} (h : q ≤ m) (hm : m < 2 ^ 31) : nI q < nI m ↔ ¬ nI q = nI m := by
  rw [nI_ltI (by omega) hm, nI_eq (by omega) hm]
  omega
theorem belt_sim (hS : SRep dA ad g nb ni T B I n tk fr) (hM : MRep dA am g th T nb ni ed kn L J) (hD : Dis ad am nb ni) (hSim : Sim nb ni T B I n tk fr L J ed kn) {len spd : Int64} {r1 r2 : Int32}
    (p1 : ((len < 100000 ∨ 100000000 < len ∨ spd < 1 ∨ 5000 < spd) ∧ r1 = -12 ∧ g = g1) ∨ (¬ len < 100000 ∧ ¬ 100000000 < len ∧ ¬ spd < 1 ∧ ¬ 5000 < spd ∧ ((¬ nI nb < 12 ∧ r1 = -14 ∧ g = g1) ∨ (nI nb < 12 ∧ r1 = nI nb ∧ ∃ ad' b, BOk b ∧ bLen b = len ∧ bSpd b = spd ∧ bSen b = len / 2 ∧ bOnto b = none ∧ bRun b = 1 ∧ bTel b = 0 ∧ bTold b = 0 ∧ bGb b = 8 ∧ bWat b = 0 ∧ SRep dA ad' g1 (nb + 1) ni T (va_up B nb b) I n tk fr ∧ SNew ad ad' nb ni (nb + 1) ni g ∧ SFr ad nb ni g g1))))
    (p2 : ((MRep dA am g2 0 T nb ni ed kn L J ∧ MFr am g1 g2) ∧ (inF len 100000 100000000 = 0 ∨ inF spd 1 5000 = 0) ∧ r2 = -12) ∨ (¬ inF len 100000 100000000 = 0 ∧ ¬ inF spd 1 5000 = 0 ∧ (((MRep dA am g2 0 T nb ni ed kn L J ∧ MFr am g1 g2) ∧ nI nb = 12 ∧ r2 = -14) ∨ (¬ nI nb = 12 ∧ r2 = nI nb ∧ MRep dA am g2 0 T (nb + 1) ni ed kn (va_up (va_up L 3 (vp_updL (L 3) nb len)) 4 (vp_updL (L 4) nb spd)) (va_up (va_up (va_up J 5 (upd (J 5) nb (-1))) 7 (upd (J 7) nb 1)) 8 (upd (J 8) nb 8)) ∧ MFr am g1 g2)))) : r1 = r2 ∧ Inv dA g2 (ad 0) (am 0) := by
  have i1 := inF_iff len 100000 100000000
  have i2 := inF_iff spd 1 5000
  have hn := hSim.1.1
  rcases p1 with ⟨c, rfl, rfl⟩ | ⟨c1, c2, c3, c4, p1⟩ <;> rcases p2 with ⟨⟨m1, m2⟩, c', rfl⟩ | ⟨d1, d2, p2⟩
  · exact ⟨rfl, inv_same hS hD hSim m1 m2⟩
  · exfalso
    rcases c with c | c | c | c
    · exact d1 (i1.mpr (Or.inl c))
    · exact d1 (i1.mpr (Or.inr c))
    · exact d2 (i2.mpr (Or.inl c))
    · exact d2 (i2.mpr (Or.inr c))
  · exfalso
    rcases c' with c | c
    · rcases i1.mp c with c | c
      · exact c1 c
      · exact c2 c
    · rcases i2.mp c with c | c
      · exact c3 c
      · exact c4 c
  · have hf : nI nb < 12 ↔ ¬ nI nb = 12 := nI_full (m := 12) hn (by decide)
    rcases p1 with ⟨f, rfl, rfl⟩ | ⟨f, rfl, ad', b, b1, b2, b3, b4, b5, b6, b7, b8, b9, b10, hS1, hN1, hF1⟩ <;> rcases p2 with ⟨⟨m1, m2⟩, f', rfl⟩ | ⟨f', rfl, m1, m2⟩
    · exact ⟨rfl, inv_same hS hD hSim m1 m2⟩
    · exact absurd (hf.mpr f') f
    · exact absurd f' (hf.mp f)
    · have hlt : nb < 12 := lt_of_nI (m := 12) f (by omega)
      obtain ⟨l1, l2⟩ := inF_pos d1
      obtain ⟨l3, l4⟩ := inF_pos d2
      obtain ⟨hB, hA, hE, s4, s5, s6, s7, s8, s9, s10, s11⟩ := hSim
      refine ⟨rfl, inv_mk hN1.1 hS1 m1 m2 (hD.new hM hN1) ⟨⟨by omega, fun k hk => ?_⟩, fun i hi => ?_, hE, s4, s5, s6, s7, s8, fun k h1 h2 => ?_, s10, fun k hk => ?_⟩⟩
      · by_cases hkn : k = nb
        · subst hkn
          rw [va_up_self]
          refine ⟨⟨b1, by rw [b2]; exact l1, by rw [b2]; exact l2, by rw [b3]; exact l3, by rw [b3]; exact l4, by rw [b4, b2], Or.inr b6, ⟨8, by omega, by rw [b9]; rfl⟩, by rw [b8]; exact Int.le_refl _, by rw [b8]; exact s6, s7, by rw [b10]; exact Int.le_refl _, by rw [b10, b8]; exact Int.le_refl _⟩, ⟨?_, ?_, ?_, ?_, ?_, ?_, ?_⟩, fun z hz => ?_⟩
          · show vp_updL (L 3) k len k = _
            rw [pk_uLs, b2]
          · show vp_updL (L 4) k spd k = _
            rw [pk_uLs, b3]
          · show L 6 k = _
            rw [b8]; exact (s9 k (Nat.le_refl _) hlt).1
          · show upd (J 7) k 1 k = _
            rw [pk_us, b6]
          · show upd (J 8) k 8 k = _
            rw [pk_us, b9]
          · show upd (J 5) k (-1) k = _
            rw [pk_us, ontoV_none b5]
          · show J 9 k = _
            rw [b7]; exact (s9 k (Nat.le_refl _) hlt).2
          · rw [b5] at hz; cases hz
        · rw [va_up_ne _ _ hkn]
          obtain ⟨a1, a2, a3⟩ := hB.2 k (by omega)
          refine ⟨a1, ⟨?_, ?_, a2.2.2.1, ?_, ?_, ?_, a2.2.2.2.2.2.2⟩, fun z hz => ⟨(a3 z hz).1, by have := (a3 z hz).2; omega⟩⟩
          · show vp_updL (L 3) nb len k = _
            rw [pk_uLn hkn]; exact a2.1
          · show vp_updL (L 4) nb spd k = _
            rw [pk_uLn hkn]; exact a2.2.1
          · show upd (J 7) nb 1 k = _
            rw [pk_un hkn]; exact a2.2.2.2.1
          · show upd (J 8) nb 8 k = _
            rw [pk_un hkn]; exact a2.2.2.2.2.1
          · show upd (J 5) nb (-1) k = _
            rw [pk_un hkn]; exact a2.2.2.2.2.2.1
      · refine (show ISim B nb T (vM L J (i + 1)) (I i) from hA i hi).congrB (Nat.le_succ _) (fun j hj => ?_)
        rw [va_up_ne _ _ (by omega)]; exact ⟨rfl, rfl, rfl, fun _ => rfl⟩
      · exact s9 k (by omega) h2
      · by_cases hkn : k = nb
        · subst hkn
          rw [va_up_self, b7]
          exact ⟨by decide, by decide, fun _ => b9⟩
        · rw [va_up_ne _ _ hkn]; exact s11 k (by omega)
theorem feed_sim (hS : SRep dA ad g nb ni T B I n tk fr) (hM : MRep dA am g th T nb ni ed kn L J) (hD : Dis ad am nb ni) (hSim : Sim nb ni T B I n tk fr L J ed kn) {x : Int32} {len at0 : Int64} {r1 r2 : Int32}
    (p1 : ((∀ k, k < nb → x ≠ nI k) ∧ r1 = -11 ∧ g = g1) ∨ (∃ k, k < nb ∧ x = nI k ∧ (((len < 1 ∨ 100000 < len ∨ nolF T at0 = 0) ∧ r1 = -12 ∧ g = g1) ∨ (¬ len < 1 ∧ ¬ 100000 < len ∧ ¬ nolF T at0 = 0 ∧ ((¬ nI ni < 60 ∧ r1 = -14 ∧ g = g1) ∨ (nI ni < 60 ∧ r1 = nI (ni + 1) ∧ ∃ ad', SRep dA ad' g1 nb (ni + 1) T B (va_up I ni (if at0 = T then comeI B (len, some k, 1, at0, 0, 0, 0) k T 0 else (len, some k, 1, at0, 0, 0, 0))) n tk fr ∧ SNew ad ad' nb ni nb (ni + 1) g ∧ SFr ad nb ni g g1))))))
    (p2 : ((MRep dA am g2 0 T nb ni ed kn L J ∧ MFr am g1 g2) ∧ (∀ k, k < nb → x ≠ nI k) ∧ r2 = -11) ∨ (∃ k, k < nb ∧ x = nI k ∧ (((MRep dA am g2 0 T nb ni ed kn L J ∧ MFr am g1 g2) ∧ (inF len 1 100000 = 0 ∨ inF at0 T 1000000 = 0) ∧ r2 = -12) ∨ (¬ inF len 1 100000 = 0 ∧ ¬ inF at0 T 1000000 = 0 ∧ (((MRep dA am g2 0 T nb ni ed kn L J ∧ MFr am g1 g2) ∧ nI ni = 60 ∧ r2 = -14) ∨ (¬ nI ni = 60 ∧ r2 = nI (ni + 1) ∧ MRep dA am g2 0 T nb (ni + 1) ed kn (va_up (va_up L 12 (vp_updL (L 12) (ni + 1) len)) 13 (vp_updL (L 13) (ni + 1) at0)) (va_up J 14 (upd (J 14) (ni + 1) (nI k))) ∧ MFr am g1 g2)))))) : r1 = r2 ∧ Inv dA g2 (ad 0) (am 0) := by
  have i1 := inF_iff len 1 100000
  have hn := hSim.1.1
  rcases p1 with ⟨a, rfl, rfl⟩ | ⟨k, hk, e, p1⟩ <;> rcases p2 with ⟨⟨m1, m2⟩, a', rfl⟩ | ⟨k2, hk2, e2, p2⟩
  · exact ⟨rfl, inv_same hS hD hSim m1 m2⟩
  · exact absurd e2 (a k2 hk2)
  · exact absurd e (a' k hk)
  · have h1 : k = k2 := uniq_b e e2 hk hk2 hn
    subst h1
    rw [nol_in] at p1
    rcases p1 with ⟨c, rfl, rfl⟩ | ⟨c1, c2, c3, p1⟩ <;> rcases p2 with ⟨⟨m1, m2⟩, c', rfl⟩ | ⟨d1, d2, p2⟩
    · exact ⟨rfl, inv_same hS hD hSim m1 m2⟩
    · exfalso
      rcases c with c | c | c
      · exact d1 (i1.mpr (Or.inl c))
      · exact d1 (i1.mpr (Or.inr c))
      · exact d2 c
    · exfalso
      rcases c' with c | c
      · rcases i1.mp c with c | c
        · exact c1 c
        · exact c2 c
      · exact c3 c
    · have hf : nI ni < 60 ↔ ¬ nI ni = 60 := nI_full (m := 60) hSim.2.2.2.2.1 (by decide)
      rcases p1 with ⟨f, rfl, rfl⟩ | ⟨f, rfl, ad', hS1, hN1, hF1⟩ <;> rcases p2 with ⟨⟨m1, m2⟩, f', rfl⟩ | ⟨f', rfl, m1, m2⟩
      · exact ⟨rfl, inv_same hS hD hSim m1 m2⟩
      · exact absurd (hf.mpr f') f
      · exact absurd f' (hf.mp f)
      · have hni := hSim.2.2.2.2.1
        have hlt : ni < 60 := lt_of_nI (m := 60) f (by omega)
        obtain ⟨l1, l2⟩ := inF_pos d1
        obtain ⟨l3, l4⟩ := inF_pos d2
        rw [show (1000000 : Int64).toInt = 1000000 from rfl] at l4
        obtain ⟨hB, hA, hE, s4, s5, s6, s7, s8, s9, s10, s11⟩ := hSim
        obtain ⟨hbr, hbs, -⟩ := hB.2 k hk
        have htold := hbr.2.2.2.2.2.2.2.2.2.1
        obtain ⟨z1, z2, z3, z4⟩ := s10 (ni + 1) (by omega) (by omega)
        have vn : vM (va_up (va_up L 12 (vp_updL (L 12) (ni + 1) len)) 13 (vp_updL (L 13) (ni + 1) at0)) (va_up J 14 (upd (J 14) (ni + 1) (nI k))) (ni + 1) = (len, at0, 0, nI k, 0, 0, 0) := by
          show (vp_updL (L 12) (ni + 1) len (ni + 1), vp_updL (L 13) (ni + 1) at0 (ni + 1), L 15 (ni + 1), upd (J 14) (ni + 1) (nI k) (ni + 1), J 16 (ni + 1), J 17 (ni + 1), J 18 (ni + 1)) = _
          rw [pk_uLs, pk_uLs, pk_us, z1, z2, z3, z4]
        have vo : ∀ i, i ≠ ni + 1 → vM (va_up (va_up L 12 (vp_updL (L 12) (ni + 1) len)) 13 (vp_updL (L 13) (ni + 1) at0)) (va_up J 14 (upd (J 14) (ni + 1) (nI k))) i = vM L J i := by
          intro i hi
          show (vp_updL (L 12) (ni + 1) len i, vp_updL (L 13) (ni + 1) at0 i, L 15 i, upd (J 14) (ni + 1) (nI k) i, J 16 i, J 17 i, J 18 i) = _
          rw [pk_uLn hi, pk_uLn hi, pk_un hi]; rfl
        refine ⟨rfl, inv_mk hN1.1 hS1 m1 m2 (hD.new hM hN1) ⟨⟨hn, fun b hb => hB.2 b hb⟩, fun i hi => ?_, hE, s4, by omega, s6, s7, s8, s9, fun i h1 h2 => s10 i (by omega) h2, s11⟩⟩
        by_cases hin : i = ni
        · subst hin
          rw [va_up_self]
          show ISim B nb T (vM (va_up (va_up L 12 (vp_updL (L 12) (i + 1) len)) 13 (vp_updL (L 13) (i + 1) at0)) (va_up J 14 (upd (J 14) (i + 1) (nI k))) (i + 1)) _
          rw [vn]
          by_cases ht : at0 = T
          · rw [if_pos ht]
            refine ⟨rfl, ⟨l1, l2⟩, Or.inr (Or.inl ⟨k, come_on hbr hk htold s7 (x := (len, some k, 1, at0, 0, 0, 0)) ⟨l1, l2⟩ (by decide) (by decide) rfl ?_ rfl rfl rfl rfl⟩)⟩
            show at0 ≤ T
            rw [ht]; exact Int64.le_refl _
          · rw [if_neg ht]
            refine ⟨rfl, ⟨l1, l2⟩, Or.inl ⟨rfl, ⟨k, hk, rfl, rfl⟩, rfl, ?_, l4, rfl, rfl, rfl, rfl, rfl, rfl⟩⟩
            apply Int64.lt_iff_toInt_lt.mpr
            show T.toInt < at0.toInt
            have : at0.toInt ≠ T.toInt := fun z => ht (Int64.toInt_inj.mp z)
            omega
        · rw [va_up_ne _ _ hin]
          show ISim B nb T (vM (va_up (va_up L 12 (vp_updL (L 12) (ni + 1) len)) 13 (vp_updL (L 13) (ni + 1) at0)) (va_up J 14 (upd (J 14) (ni + 1) (nI k))) (i + 1)) (I i)
          rw [vo (i + 1) (by omega)]
          exact hA i (by omega)
theorem init_sim {dA : Nat → ClassId} {g0 g1 g2 : Nat → Option va_E} {ad am : Nat → Nat} (h1 : ∀ (B : Nat → BT) (I : Nat → IT), SRep dA ad g0 0 0 0 B I 0 0 (fun _ => 0)) (hx : ∀ r, okR 0 0 r → ∃ e, g1 (ad r) = some e) (hk : ∀ r, okR 0 0 r → g1 (ad r) = g0 (ad r)) (ha : ∀ r, okR 0 0 r → ad r ≠ am 0) (hf : ∀ k, mok k = true → k ≠ 0 → g1 (am k) = none) (hs : ∀ z e, z ≠ am 0 → g1 z = some e → g2 z = some e) (h2 : MRep dA am g2 0 0 0 0 0 0 (fun _ _ => 0) (fun _ _ => 0)) : Inv dA g2 (ad 0) (am 0) := by
  have hD : Dis ad am 0 0 := by
    intro r k hr hm
    by_cases hk0 : k = 0
    · subst hk0; exact ha r hr
    · obtain ⟨e, he⟩ := hx r hr
      exact ne_fresh he (hf k hm hk0)
  refine ⟨ad, am, 0, 0, 0, fun _ => (0, 0, 0, none, 0, 0, 0, 0, 0, fun _ => 0, fun _ => 0, fun _ => 0), fun _ => (0, none, 0, 0, 0, 0, 0), 0, 0, fun _ => 0, 0, fun _ _ => 0, fun _ _ => 0, 0, 0, rfl, rfl, (h1 _ _).congr fun r hr => ?_, h2, hD, ⟨by omega, fun k hk => absurd hk (Nat.not_lt_zero _)⟩, fun i hi => absurd hi (Nat.not_lt_zero _), ⟨rfl, fun q _ h => absurd h (Nat.not_lt_zero _)⟩, rfl, by omega, by decide, by decide, by decide, fun _ _ _ => ⟨rfl, rfl⟩, fun _ _ _ => ⟨rfl, rfl, rfl, rfl⟩, fun k hk => absurd hk (Nat.not_lt_zero _)⟩
  obtain ⟨e, he⟩ := hx r hr
  rw [← hk r hr, he]
  exact hs _ e (ha r hr) he
end OPS4
