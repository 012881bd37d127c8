/-! The class's state as mathematics, and the heap that holds it. A belt: (length, speed, sensor, onto, running, tellings, toldAt, gearBefore, wayAtTelling, gears, paces, ways); an item: (length, belt, waiting, turn, start, frontTold, endTold). Belts and items by their places. -/
abbrev BT : Type := Int64 × Int64 × Int64 × Option Nat × Int32 × Int32 × Int64 × Int32 × Int64 × (Nat → Int32) × (Nat → Int64) × (Nat → Int64)
abbrev IT : Type := Int64 × Option Nat × Int32 × Int64 × Int64 × Int32 × Int32
abbrev bLen (b : BT) : Int64 := b.1
abbrev bSpd (b : BT) : Int64 := b.2.1
abbrev bSen (b : BT) : Int64 := b.2.2.1
abbrev bOnto (b : BT) : Option Nat := b.2.2.2.1
abbrev bRun (b : BT) : Int32 := b.2.2.2.2.1
abbrev bTel (b : BT) : Int32 := b.2.2.2.2.2.1
abbrev bTold (b : BT) : Int64 := b.2.2.2.2.2.2.1
abbrev bGb (b : BT) : Int32 := b.2.2.2.2.2.2.2.1
abbrev bWat (b : BT) : Int64 := b.2.2.2.2.2.2.2.2.1
abbrev bFg (b : BT) : Nat → Int32 := b.2.2.2.2.2.2.2.2.2.1
abbrev bFp (b : BT) : Nat → Int64 := b.2.2.2.2.2.2.2.2.2.2.1
abbrev bFw (b : BT) : Nat → Int64 := b.2.2.2.2.2.2.2.2.2.2.2
abbrev iLen (x : IT) : Int64 := x.1
abbrev iBt (x : IT) : Option Nat := x.2.1
abbrev iWt (x : IT) : Int32 := x.2.2.1
abbrev iTurn (x : IT) : Int64 := x.2.2.2.1
abbrev iStart (x : IT) : Int64 := x.2.2.2.2.1
abbrev iFt (x : IT) : Int32 := x.2.2.2.2.2.1
abbrev iEt (x : IT) : Int32 := x.2.2.2.2.2.2
abbrev bA (ad : Nat → Nat) (i : Nat) : Nat := ad (5 + 4 * i)
abbrev bG (ad : Nat → Nat) (i : Nat) : Nat := ad (6 + 4 * i)
abbrev bP (ad : Nat → Nat) (i : Nat) : Nat := ad (7 + 4 * i)
abbrev bW (ad : Nat → Nat) (i : Nat) : Nat := ad (8 + 4 * i)
abbrev iA (ad : Nat → Nat) (i : Nat) : Nat := ad (60 + i)
abbrev bCell (ad : Nat → Nat) (i : Nat) (b : BT) : va_E := beltE (nI i) (bLen b) (bSpd b) (bSen b) ((bOnto b).map (bA ad)) (bRun b) (bTel b) (bTold b) (bGb b) (bWat b) (bG ad i) (bP ad i) (bW ad i)
abbrev iCell (ad : Nat → Nat) (i : Nat) (x : IT) : va_E := itemE (nI (i + 1)) (iLen x) ((iBt x).map (bA ad)) (iWt x) (iTurn x) (iStart x) (iFt x) (iEt x)
abbrev sCell (ad : Nat → Nat) (nb ni : Nat) (now : Int64) : va_E := .inr (3, [.ref (ad 1), .int (nI nb), .ref (ad 2), .int (nI ni), .ref (ad 3), .long now])
abbrev refE (dA : Nat → ClassId) (t n : Nat) (f : Nat → Option Nat) : va_E := .inl (dA t, n, .inr (.inr (.inr (.inr f))))
def okR (nb ni r : Nat) : Prop := r < 5 ∨ (5 ≤ r ∧ r < 5 + 4 * nb) ∨ (60 ≤ r ∧ r < 60 + ni)
def bTab (ad : Nat → Nat) (nb : Nat) : Nat → Option Nat := fun i => if i < nb then some (bA ad i) else none
def iTab (ad : Nat → Nat) (ni : Nat) : Nat → Option Nat := fun i => if i < ni then some (iA ad i) else none
def SRep (dA : Nat → ClassId) (ad : Nat → Nat) (g : Nat → Option va_E) (nb ni : Nat) (now : Int64) (B : Nat → BT) (I : Nat → IT) (n : Nat) (tk : Int32) (fr : Nat → Int32) : Prop :=
  (∀ r r', okR nb ni r → okR nb ni r' → ad r = ad r' → r = r') ∧
  g (ad 0) = some (sCell ad nb ni now) ∧ g (ad 1) = some (refE dA 3 12 (bTab ad nb)) ∧ g (ad 2) = some (refE dA 4 60 (iTab ad ni)) ∧ g (ad 3) = some (edgeE (ad 4) (nI n) tk) ∧ g (ad 4) = some (intE dA 1600 fr) ∧
  (∀ i, i < nb → g (bA ad i) = some (bCell ad i (B i)) ∧ g (bG ad i) = some (intE dA 8 (bFg (B i))) ∧ g (bP ad i) = some (lonE dA 8 (bFp (B i))) ∧ g (bW ad i) = some (lonE dA 8 (bFw (B i)))) ∧
  (∀ i, i < ni → g (iA ad i) = some (iCell ad i (I i))) ∧
  nb ≤ 12 ∧ ni ≤ 60 ∧ (∀ i, i < nb → ∀ j, bOnto (B i) = some j → j < nb) ∧ (∀ i, i < ni → ∀ j, iBt (I i) = some j → j < nb)
/-- what a call of the class leaves alone: all that isn't its own -/
def SFr (ad : Nat → Nat) (nb ni : Nat) (g g' : Nat → Option va_E) : Prop := ∀ a e, (∀ r, okR nb ni r → a ≠ ad r) → g a = some e → g' a = some e
theorem SFr.rfl' {ad : Nat → Nat} {nb ni : Nat} {g : Nat → Option va_E} : SFr ad nb ni g g := fun _ _ _ h => h
theorem SFr.trans {ad : Nat → Nat} {nb ni : Nat} {g g1 g2 : Nat → Option va_E} (h1 : SFr ad nb ni g g1) (h2 : SFr ad nb ni g1 g2) : SFr ad nb ni g g2 := fun a e h q => h2 a e h (h1 a e h q)
theorem SFr.up {ad : Nat → Nat} {nb ni r : Nat} {g : Nat → Option va_E} {e : Option va_E} (hr : okR nb ni r) : SFr ad nb ni g (va_up g (ad r) e) := fun a e0 h q => by rw [va_up_ne _ _ (h r hr)]; exact q
section SREP
variable {dA : Nat → ClassId} {ad : Nat → Nat} {g : Nat → Option va_E} {nb ni : Nat} {now : Int64} {B : Nat → BT} {I : Nat → IT} {n : Nat} {tk : Int32} {fr : Nat → Int32}
theorem SRep.ne (h : SRep dA ad g nb ni now B I n tk fr) {r r' : Nat} (h1 : okR nb ni r) (h2 : okR nb ni r') (hne : r ≠ r') : ad r ≠ ad r' := fun q => hne (h.1 r r' h1 h2 q)
theorem SRep.this (h : SRep dA ad g nb ni now B I n tk fr) : g (ad 0) = some (sCell ad nb ni now) := h.2.1
theorem SRep.bs (h : SRep dA ad g nb ni now B I n tk fr) : g (ad 1) = some (refE dA 3 12 (bTab ad nb)) := h.2.2.1
theorem SRep.is (h : SRep dA ad g nb ni now B I n tk fr) : g (ad 2) = some (refE dA 4 60 (iTab ad ni)) := h.2.2.2.1
theorem SRep.es (h : SRep dA ad g nb ni now B I n tk fr) : g (ad 3) = some (edgeE (ad 4) (nI n) tk) := h.2.2.2.2.1
theorem SRep.rs (h : SRep dA ad g nb ni now B I n tk fr) : g (ad 4) = some (intE dA 1600 fr) := h.2.2.2.2.2.1
theorem SRep.b (h : SRep dA ad g nb ni now B I n tk fr) {i : Nat} (hi : i < nb) : g (bA ad i) = some (bCell ad i (B i)) := (h.2.2.2.2.2.2.1 i hi).1
theorem SRep.bg (h : SRep dA ad g nb ni now B I n tk fr) {i : Nat} (hi : i < nb) : g (bG ad i) = some (intE dA 8 (bFg (B i))) := (h.2.2.2.2.2.2.1 i hi).2.1
theorem SRep.bp (h : SRep dA ad g nb ni now B I n tk fr) {i : Nat} (hi : i < nb) : g (bP ad i) = some (lonE dA 8 (bFp (B i))) := (h.2.2.2.2.2.2.1 i hi).2.2.1
theorem SRep.bw (h : SRep dA ad g nb ni now B I n tk fr) {i : Nat} (hi : i < nb) : g (bW ad i) = some (lonE dA 8 (bFw (B i))) := (h.2.2.2.2.2.2.1 i hi).2.2.2
theorem SRep.i (h : SRep dA ad g nb ni now B I n tk fr) {i : Nat} (hi : i < ni) : g (iA ad i) = some (iCell ad i (I i)) := h.2.2.2.2.2.2.2.1 i hi
theorem SRep.nb12 (h : SRep dA ad g nb ni now B I n tk fr) : nb ≤ 12 := h.2.2.2.2.2.2.2.2.1
theorem SRep.ni60 (h : SRep dA ad g nb ni now B I n tk fr) : ni ≤ 60 := h.2.2.2.2.2.2.2.2.2.1
theorem SRep.onto (h : SRep dA ad g nb ni now B I n tk fr) {i j : Nat} (hi : i < nb) (hj : bOnto (B i) = some j) : j < nb := h.2.2.2.2.2.2.2.2.2.2.1 i hi j hj
theorem SRep.bt (h : SRep dA ad g nb ni now B I n tk fr) {i j : Nat} (hi : i < ni) (hj : iBt (I i) = some j) : j < nb := h.2.2.2.2.2.2.2.2.2.2.2 i hi j hj
theorem ok0 {nb ni r : Nat} (h : r < 5) : okR nb ni r := Or.inl h
theorem okB {nb ni i k : Nat} (hi : i < nb) (hk : k < 4) : okR nb ni (5 + k + 4 * i) := Or.inr (Or.inl (by omega))
theorem okI {nb ni i : Nat} (hi : i < ni) : okR nb ni (60 + i) := Or.inr (Or.inr (by omega))
theorem SRep.pw (h : SRep dA ad g nb ni now B I n tk fr) {i : Nat} (hi : i < nb) : bP ad i ≠ bW ad i := h.ne (Or.inr (Or.inl (by omega))) (Or.inr (Or.inl (by omega))) (by omega)
/-- an item changes -/
theorem SRep.setI (h : SRep dA ad g nb ni now B I n tk fr) {i : Nat} (hi : i < ni) {x : IT} (hx : ∀ j, iBt x = some j → j < nb) : SRep dA ad (va_up g (iA ad i) (some (iCell ad i x))) nb ni now B (va_up I i x) n tk fr := by
  have hb := h.nb12
  have key : ∀ r, okR nb ni r → r ≠ 60 + i → va_up g (iA ad i) (some (iCell ad i x)) (ad r) = g (ad r) := fun r hr hne => va_up_ne _ _ (h.ne hr (okI hi) hne)
  refine ⟨h.1, ?_, ?_, ?_, ?_, ?_, ?_, ?_, h.nb12, h.ni60, fun k hk j => h.onto hk, ?_⟩
  · rw [key 0 (ok0 (by omega)) (by omega)]; exact h.this
  · rw [key 1 (ok0 (by omega)) (by omega)]; exact h.bs
  · rw [key 2 (ok0 (by omega)) (by omega)]; exact h.is
  · rw [key 3 (ok0 (by omega)) (by omega)]; exact h.es
  · rw [key 4 (ok0 (by omega)) (by omega)]; exact h.rs
  · intro k hk
    refine ⟨?_, ?_, ?_, ?_⟩
    · rw [key _ (Or.inr (Or.inl (by omega))) (by omega)]; exact h.b hk
    · rw [key _ (Or.inr (Or.inl (by omega))) (by omega)]; exact h.bg hk
    · rw [key _ (Or.inr (Or.inl (by omega))) (by omega)]; exact h.bp hk
    · rw [key _ (Or.inr (Or.inl (by omega))) (by omega)]; exact h.bw hk
  · intro k hk
    by_cases hki : k = i
    · subst hki
      rw [va_up_self, va_up_self]
    · rw [key _ (okI hk) (by omega), va_up_ne _ _ hki]; exact h.i hk
  · intro k hk j hj
    by_cases hki : k = i
    · subst hki
      rw [va_up_self] at hj
      exact hx j hj
    · rw [va_up_ne _ _ hki] at hj
      exact h.bt hk hj
/-- the time -/
theorem SRep.setNow (h : SRep dA ad g nb ni now B I n tk fr) {t : Int64} : SRep dA ad (va_up g (ad 0) (some (sCell ad nb ni t))) nb ni t B I n tk fr := by
  have hb := h.nb12
  have key : ∀ r, okR nb ni r → r ≠ 0 → va_up g (ad 0) (some (sCell ad nb ni t)) (ad r) = g (ad r) := fun r hr hne => va_up_ne _ _ (h.ne hr (ok0 (by omega)) hne)
  refine ⟨h.1, va_up_self _ _ _, ?_, ?_, ?_, ?_, ?_, ?_, h.nb12, h.ni60, fun k hk j => h.onto hk, fun k hk j => h.bt hk⟩
  · rw [key 1 (ok0 (by omega)) (by omega)]; exact h.bs
  · rw [key 2 (ok0 (by omega)) (by omega)]; exact h.is
  · rw [key 3 (ok0 (by omega)) (by omega)]; exact h.es
  · rw [key 4 (ok0 (by omega)) (by omega)]; exact h.rs
  · intro k hk
    refine ⟨?_, ?_, ?_, ?_⟩
    · rw [key _ (Or.inr (Or.inl (by omega))) (by omega)]; exact h.b hk
    · rw [key _ (Or.inr (Or.inl (by omega))) (by omega)]; exact h.bg hk
    · rw [key _ (Or.inr (Or.inl (by omega))) (by omega)]; exact h.bp hk
    · rw [key _ (Or.inr (Or.inl (by omega))) (by omega)]; exact h.bw hk
  · intro k hk
    rw [key _ (okI hk) (by omega)]; exact h.i hk
/-- the edges: the rows first, then the list's own cell -/
theorem SRep.setE (h : SRep dA ad g nb ni now B I n tk fr) {n' : Nat} {tk' : Int32} {fr' : Nat → Int32} : SRep dA ad (va_up (va_up g (ad 4) (some (intE dA 1600 fr'))) (ad 3) (some (edgeE (ad 4) (nI n') tk'))) nb ni now B I n' tk' fr' := by
  have hb := h.nb12
  have key : ∀ r, okR nb ni r → r ≠ 3 → r ≠ 4 → va_up (va_up g (ad 4) (some (intE dA 1600 fr'))) (ad 3) (some (edgeE (ad 4) (nI n') tk')) (ad r) = g (ad r) := fun r hr h3 h4 => by rw [va_up_ne _ _ (h.ne hr (ok0 (by omega)) h3), va_up_ne _ _ (h.ne hr (ok0 (by omega)) h4)]
  refine ⟨h.1, ?_, ?_, ?_, va_up_self _ _ _, ?_, ?_, ?_, h.nb12, h.ni60, fun k hk j => h.onto hk, fun k hk j => h.bt hk⟩
  · rw [key 0 (ok0 (by omega)) (by omega) (by omega)]; exact h.this
  · rw [key 1 (ok0 (by omega)) (by omega) (by omega)]; exact h.bs
  · rw [key 2 (ok0 (by omega)) (by omega) (by omega)]; exact h.is
  · rw [va_up_ne _ _ (h.ne (ok0 (by omega)) (ok0 (by omega)) (by omega)), va_up_self]
  · intro k hk
    refine ⟨?_, ?_, ?_, ?_⟩
    · rw [key _ (Or.inr (Or.inl (by omega))) (by omega) (by omega)]; exact h.b hk
    · rw [key _ (Or.inr (Or.inl (by omega))) (by omega) (by omega)]; exact h.bg hk
    · rw [key _ (Or.inr (Or.inl (by omega))) (by omega) (by omega)]; exact h.bp hk
    · rw [key _ (Or.inr (Or.inl (by omega))) (by omega) (by omega)]; exact h.bw hk
  · intro k hk
    rw [key _ (okI hk) (by omega) (by omega)]; exact h.i hk
/-- a belt changes, as any heap that holds it anew and all else as before -/
theorem SRep.setB (h : SRep dA ad g nb ni now B I n tk fr) {i : Nat} (hi : i < nb) {b : BT} {g' : Nat → Option va_E} (hon : ∀ j, bOnto b = some j → j < nb) (h0 : g' (bA ad i) = some (bCell ad i b)) (h1 : g' (bG ad i) = some (intE dA 8 (bFg b))) (h2 : g' (bP ad i) = some (lonE dA 8 (bFp b))) (h3 : g' (bW ad i) = some (lonE dA 8 (bFw b))) (ho : ∀ q, q ≠ bA ad i → q ≠ bG ad i → q ≠ bP ad i → q ≠ bW ad i → g' q = g q) : SRep dA ad g' nb ni now (va_up B i b) I n tk fr := by
  have hb := h.nb12
  have key : ∀ r, okR nb ni r → r ≠ 5 + 4 * i → r ≠ 6 + 4 * i → r ≠ 7 + 4 * i → r ≠ 8 + 4 * i → g' (ad r) = g (ad r) := fun r hr n0 n1 n2 n3 => ho _ (h.ne hr (Or.inr (Or.inl (by omega))) n0) (h.ne hr (Or.inr (Or.inl (by omega))) n1) (h.ne hr (Or.inr (Or.inl (by omega))) n2) (h.ne hr (Or.inr (Or.inl (by omega))) n3)
  refine ⟨h.1, ?_, ?_, ?_, ?_, ?_, ?_, ?_, h.nb12, h.ni60, ?_, fun k hk j => h.bt hk⟩
  · rw [key 0 (ok0 (by omega)) (by omega) (by omega) (by omega) (by omega)]; exact h.this
  · rw [key 1 (ok0 (by omega)) (by omega) (by omega) (by omega) (by omega)]; exact h.bs
  · rw [key 2 (ok0 (by omega)) (by omega) (by omega) (by omega) (by omega)]; exact h.is
  · rw [key 3 (ok0 (by omega)) (by omega) (by omega) (by omega) (by omega)]; exact h.es
  · rw [key 4 (ok0 (by omega)) (by omega) (by omega) (by omega) (by omega)]; exact h.rs
  · intro k hk
    by_cases hki : k = i
    · subst hki
      rw [va_up_self]
      exact ⟨h0, h1, h2, h3⟩
    · rw [va_up_ne _ _ hki]
      refine ⟨?_, ?_, ?_, ?_⟩
      · rw [key _ (Or.inr (Or.inl (by omega))) (by omega) (by omega) (by omega) (by omega)]; exact h.b hk
      · rw [key _ (Or.inr (Or.inl (by omega))) (by omega) (by omega) (by omega) (by omega)]; exact h.bg hk
      · rw [key _ (Or.inr (Or.inl (by omega))) (by omega) (by omega) (by omega) (by omega)]; exact h.bp hk
      · rw [key _ (Or.inr (Or.inl (by omega))) (by omega) (by omega) (by omega) (by omega)]; exact h.bw hk
  · intro k hk
    rw [key _ (okI hk) (by omega) (by omega) (by omega) (by omega)]; exact h.i hk
  · intro k hk j hj
    by_cases hki : k = i
    · subst hki
      rw [va_up_self] at hj
      exact hon j hj
    · rw [va_up_ne _ _ hki] at hj
      exact h.onto hk hj
end SREP
