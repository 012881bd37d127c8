/-! The whole relation. -/
def Sim (nb ni : Nat) (T : Int64) (B : Nat → BT) (I : Nat → IT) (n : Nat) (tk : Int32) (fr : Nat → Int32) (L : LA) (J : JA) (ed : Nat) (kn : Int32) : Prop :=
  BAll B nb T L J ∧ ASim B nb ni T (L, J, ed) I ∧ ESim (n, fr) (L, J, ed) ∧ tk = kn ∧ ni ≤ 60 ∧ 0 ≤ T.toInt ∧ T.toInt ≤ 1000000 ∧ (ed : Int) ≤ 120 * T.toInt ∧ (∀ k, nb ≤ k → k < 12 → L 6 k = 0 ∧ J 9 k = 0) ∧ (∀ i, ni < i → i ≤ 60 → L 15 i = 0 ∧ J 16 i = 0 ∧ J 17 i = 0 ∧ J 18 i = 0) ∧ ∀ k, k < nb → 0 ≤ (bTel (B k)).toInt ∧ (bTel (B k)).toInt ≤ 100 ∧ (bTold (B k) = 0 → bGb (B k) = 8)
def Dis (ad am : Nat → Nat) (nb ni : Nat) : Prop := ∀ r k, okR nb ni r → mok k = true → ad r ≠ am k
/-- the class's object at q0 and the reference's at q1 agree -/
def Inv (dA : Nat → ClassId) (g : Nat → Option va_E) (q0 q1 : Nat) : Prop := ∃ (ad am : Nat → Nat) (nb ni : Nat) (T : Int64) (B : Nat → BT) (I : Nat → IT) (n : Nat) (tk : Int32) (fr : Nat → Int32) (th : Int32) (L : LA) (J : JA) (ed : Nat) (kn : Int32), ad 0 = q0 ∧ am 0 = q1 ∧ SRep dA ad g nb ni T B I n tk fr ∧ MRep dA am g th T nb ni ed kn L J ∧ Dis ad am nb ni ∧ Sim nb ni T B I n tk fr L J ed kn
section GLOB
variable {dA : Nat → ClassId} {ad am : Nat → Nat} {g g' : Nat → Option va_E} {nb ni : Nat} {T : Int64} {B : Nat → BT} {I : Nat → IT} {n : Nat} {tk : Int32} {fr : Nat → Int32} {th : Int32} {L : LA} {J : JA} {ed : Nat} {kn : Int32}
theorem SRep.own (h : SRep dA ad g nb ni T B I n tk fr) : ∀ r, okR nb ni r → ∃ e, g (ad r) = some e := by
  intro r hr
  rcases hr with h1 | h1 | h1
  · have : r = 0 ∨ r = 1 ∨ r = 2 ∨ r = 3 ∨ r = 4 := by omega
    rcases this with rfl | rfl | rfl | rfl | rfl
    · exact ⟨_, h.this⟩
    · exact ⟨_, h.bs⟩
    · exact ⟨_, h.is⟩
    · exact ⟨_, h.es⟩
    · exact ⟨_, h.rs⟩
  · obtain ⟨i, hi⟩ : ∃ i, i = (r - 5) / 4 := ⟨_, rfl⟩
    have hin : i < nb := by omega
    have : r = 5 + 4 * i ∨ r = 6 + 4 * i ∨ r = 7 + 4 * i ∨ r = 8 + 4 * i := by omega
    rcases this with rfl | rfl | rfl | rfl
    · exact ⟨_, h.b hin⟩
    · exact ⟨_, h.bg hin⟩
    · exact ⟨_, h.bp hin⟩
    · exact ⟨_, h.bw hin⟩
  · obtain ⟨i, rfl⟩ : ∃ i, r = 60 + i := ⟨r - 60, by omega⟩
    exact ⟨_, h.i (by omega)⟩
theorem SRep.congr (h : SRep dA ad g nb ni T B I n tk fr) (hg : ∀ r, okR nb ni r → g' (ad r) = g (ad r)) : SRep dA ad g' nb ni T B I n tk fr := by
  have hb := h.nb12
  refine ⟨h.1, ?_, ?_, ?_, ?_, ?_, fun i hi => ⟨?_, ?_, ?_, ?_⟩, fun i hi => ?_, h.nb12, h.ni60, fun i hi j => h.onto hi, fun i hi j => h.bt hi⟩
  · rw [hg 0 (ok0 (by omega))]; exact h.this
  · rw [hg 1 (ok0 (by omega))]; exact h.bs
  · rw [hg 2 (ok0 (by omega))]; exact h.is
  · rw [hg 3 (ok0 (by omega))]; exact h.es
  · rw [hg 4 (ok0 (by omega))]; exact h.rs
  · rw [hg _ (Or.inr (Or.inl (by omega)))]; exact h.b hi
  · rw [hg _ (Or.inr (Or.inl (by omega)))]; exact h.bg hi
  · rw [hg _ (Or.inr (Or.inl (by omega)))]; exact h.bp hi
  · rw [hg _ (Or.inr (Or.inl (by omega)))]; exact h.bw hi
  · rw [hg _ (okI hi)]; exact h.i hi
theorem SRep.keepM (h : SRep dA ad g nb ni T B I n tk fr) (hD : Dis ad am nb ni) (hF : MFr am g g') : SRep dA ad g' nb ni T B I n tk fr :=
  h.congr fun r hr => by
    obtain ⟨e, he⟩ := h.own r hr
    rw [he]; exact hF _ e (fun k hk => hD r k hr hk) he
theorem MRep.keepS (h : MRep dA am g th T nb ni ed kn L J) (hD : Dis ad am nb ni) (hF : SFr ad nb ni g g') : MRep dA am g' th T nb ni ed kn L J :=
  ⟨h.1, fun k hk => hF _ _ (fun r hr => (hD r k hr hk).symm) (h.2 k hk)⟩
theorem Dis.new {ad' : Nat → Nat} {nb' ni' : Nat} (hD : Dis ad am nb ni) (hM : MRep dA am g th T nb ni ed kn L J) (hN : SNew ad ad' nb ni nb' ni' g) : Dis ad' am nb' ni' := by
  intro r k hr hk
  rcases hN.2 r hr with ⟨h1, h2⟩ | h
  · rw [h2]; exact hD r k h1 hk
  · exact (ne_fresh (hM.2 k hk) h).symm
theorem Sim.wf (h : Sim nb ni T B I n tk fr L J ed kn) : MWf nb ni J := by
  obtain ⟨hB, hA, -, -, hni, -⟩ := h
  have hn := hB.1
  refine ⟨hn, hni, fun i h1 h2 => ?_, fun b hb => ?_⟩
  · obtain ⟨k, rfl⟩ : ∃ k, i = k + 1 := ⟨i - 1, by omega⟩
    obtain ⟨-, -, hm⟩ := hA k (by omega)
    rcases hm with hw | ⟨j, ho, -⟩ | hl
    · obtain ⟨-, ⟨j, hj, -, e⟩, -⟩ := hw; exact ⟨j, hj, e⟩
    · exact ⟨j, ho.2.1, ho.2.2.2.1⟩
    · obtain ⟨-, -, -, -, -, j, hj, e⟩ := hl; exact ⟨j, hj, e⟩
  · obtain ⟨-, hs, hon⟩ := hB.2 b hb
    rw [hs.2.2.2.2.2.1]
    cases hq : bOnto (B b) with
    | none => exact Or.inl (ontoV_none hq)
    | some q => exact Or.inr ⟨q, (hon q hq).2, ontoV_some hq⟩
theorem Sim.hed (h : Sim nb ni T B I n tk fr L J ed kn) : ∀ t : Int64, T ≤ t → t ≤ 1000000 → ed + 120 * (t.toInt - T.toInt).toNat ≤ 2000000000 := by
  obtain ⟨-, -, -, -, -, h0, h1, he, -⟩ := h
  intro t ht1 ht2
  have a := Int64.le_iff_toInt_le.mp ht1
  have b := Int64.le_iff_toInt_le.mp ht2
  rw [show (1000000 : Int64).toInt = 1000000 from rfl] at b
  omega
theorem Sim.nle (h : Sim nb ni T B I n tk fr L J ed kn) : n ≤ 1000000000 := by
  obtain ⟨-, -, hE, -, -, h0, h1, he, -⟩ := h
  have : n = ed := hE.1
  omega
theorem inF_iff (v a b : Int64) : inF v a b = 0 ↔ v < a ∨ b < v := by
  unfold inF
  by_cases h1 : v < a
  · rw [if_pos h1]; exact ⟨fun _ => Or.inl h1, fun _ => rfl⟩
  · rw [if_neg h1]
    by_cases h2 : b < v
    · rw [if_pos h2]; exact ⟨fun _ => Or.inr h2, fun _ => rfl⟩
    · rw [if_neg h2]; exact ⟨fun q => absurd q (by decide), fun q => absurd q (by simp only [h1, h2, or_self, not_false_eq_true])⟩
theorem nol_in (now t : Int64) : nolF now t = inF t now 1000000 := rfl
theorem on_iff (h : Sim nb ni T B I n tk fr L J ed kn) {k : Nat} (hk : k < ni) : onF (I k) = 0 ↔ thereF T L J (k + 1) = 0 := by
  obtain ⟨-, -, hm⟩ := h.2.1 k hk
  rw [thV_eq]
  rcases hm with hw | ⟨j, ho, -⟩ | hl
  · obtain ⟨w1, ⟨j, hj, hbt, -⟩, w3, w4, w5, w6, -⟩ := hw
    refine ⟨fun _ => ?_, fun _ => ?_⟩
    · unfold thV; rw [if_pos w6, if_pos (by rw [w3]; exact w4)]
    · unfold onF; rw [hbt]; simp only; rw [if_neg (by rw [w1]; decide)]
  · refine ⟨fun q => ?_, fun q => absurd q (on_there ho)⟩
    unfold onF at q
    rw [ho.2.2.1] at q
    simp only at q
    rw [if_pos ho.1] at q
    exact absurd q (by decide)
  · refine ⟨fun _ => ?_, fun _ => ?_⟩
    · unfold thV; rw [if_neg (by rw [hl.2.2.2.2.1]; decide)]
    · unfold onF; rw [hl.1]
/-- an item that is on a belt, by the class -/
theorem Sim.on (h : Sim nb ni T B I n tk fr L J ed kn) {k j : Nat} (hk : k < ni) (hb : iBt (I k) = some j) (hw : iWt (I k) = 0) : OnB B nb T (vM L J (k + 1)) (I k) j ∧ T < iTurn (I k) := by
  obtain ⟨-, -, hm⟩ := h.2.1 k hk
  rcases hm with hw' | ⟨j', ho, ht⟩ | hl
  · rw [hw'.1] at hw; exact absurd hw (by decide)
  · have : j' = j := Option.some.inj (ho.2.2.1.symm.trans hb)
    subst this
    exact ⟨ho, ht⟩
  · rw [hl.1] at hb; cases hb
theorem Sim.pl (h : Sim nb ni T B I n tk fr L J ed kn) {k j : Nat} (hk : k < ni) (hb : iBt (I k) = some j) (hw : iWt (I k) = 0) : wayB (B j) T - iStart (I k) = L 15 (k + 1) := by
  have ho := (h.on hk hb hw).1
  obtain ⟨hbr, -, -⟩ := h.1.2 j ho.2.1
  exact (on_place hbr hbr.2.2.2.2.2.2.2.2.2.1 h.2.2.2.2.2.2.1 ho).1
end GLOB
