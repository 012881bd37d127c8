/-! The reference's state, and the heap that holds it: L its arrays of longs, J those of ints and booleans, by the places of its fields. -/
abbrev mCell (ad : Nat → Nat) (th : Int32) (now : Int64) (nb ni ed : Nat) (kn : Int32) : va_E := .inr (4, [.int th, .long now, .int ((nI nb)), .ref (ad 3), .ref (ad 4), .ref (ad 5), .ref (ad 6), .ref (ad 7), .ref (ad 8), .ref (ad 9), .ref (ad 10), .int ((nI ni)), .ref (ad 12), .ref (ad 13), .ref (ad 14), .ref (ad 15), .ref (ad 16), .ref (ad 17), .ref (ad 18), .int ((nI ed)), .int kn, .ref (ad 21), .ref (ad 22), .ref (ad 23), .ref (ad 24)])
def mL (k : Nat) : Bool := k == 3 || k == 4 || k == 6 || k == 10 || k == 12 || k == 13 || k == 15 || k == 21
def mZ (k : Nat) : Bool := k == 7 || k == 16 || k == 17 || k == 18
def mI (k : Nat) : Bool := k == 5 || k == 8 || k == 9 || k == 14 || k == 22 || k == 23 || k == 24
def mok (k : Nat) : Bool := k == 0 || mL k || mZ k || mI k
def msz (k : Nat) : Nat := if k < 11 then 12 else if k < 20 then 61 else 400
abbrev LA : Type := Nat → Nat → Int64
abbrev JA : Type := Nat → Nat → Int32
def mcell (dA : Nat → ClassId) (ad : Nat → Nat) (th : Int32) (now : Int64) (nb ni ed : Nat) (kn : Int32) (L : LA) (J : JA) (k : Nat) : va_E := if k = 0 then mCell ad th now nb ni ed kn else if mL k = true then lonE dA (msz k) (L k) else if mZ k = true then booE dA (msz k) (J k) else intE dA (msz k) (J k)
def MRep (dA : Nat → ClassId) (ad : Nat → Nat) (g : Nat → Option va_E) (th : Int32) (now : Int64) (nb ni ed : Nat) (kn : Int32) (L : LA) (J : JA) : Prop :=
  (∀ j k, mok j = true → mok k = true → ad j = ad k → j = k) ∧ ∀ k, mok k = true → g (ad k) = some (mcell dA ad th now nb ni ed kn L J k)
def MFr (ad : Nat → Nat) (g g' : Nat → Option va_E) : Prop := ∀ a e, (∀ k, mok k = true → a ≠ ad k) → g a = some e → g' a = some e
theorem MFr.rfl' {ad : Nat → Nat} {g : Nat → Option va_E} : MFr ad g g := fun _ _ _ h => h
theorem MFr.trans {ad : Nat → Nat} {g g1 g2 : Nat → Option va_E} (h1 : MFr ad g g1) (h2 : MFr ad g1 g2) : MFr ad g g2 := fun a e h q => h2 a e h (h1 a e h q)
theorem MFr.up {ad : Nat → Nat} {k : Nat} {g : Nat → Option va_E} {e : Option va_E} (hk : mok k = true) : MFr ad g (va_up g (ad k) e) := fun a e0 h q => by rw [va_up_ne _ _ (h k hk)]; exact q
section MREP
variable {dA : Nat → ClassId} {ad : Nat → Nat} {g : Nat → Option va_E} {th : Int32} {now : Int64} {nb ni ed : Nat} {kn : Int32} {L : LA} {J : JA}
theorem MRep.ne (h : MRep dA ad g th now nb ni ed kn L J) (j k : Nat) (hj : mok j = true := by rfl) (hk : mok k = true := by rfl) (hne : j ≠ k := by decide) : ad j ≠ ad k := fun q => hne (h.1 j k hj hk q)
theorem MRep.this (h : MRep dA ad g th now nb ni ed kn L J) : g (ad 0) = some (mCell ad th now nb ni ed kn) := h.2 0 rfl
theorem MRep.a3 (h : MRep dA ad g th now nb ni ed kn L J) : g (ad 3) = some (lonE dA 12 (L 3)) := h.2 3 rfl
theorem MRep.a4 (h : MRep dA ad g th now nb ni ed kn L J) : g (ad 4) = some (lonE dA 12 (L 4)) := h.2 4 rfl
theorem MRep.a5 (h : MRep dA ad g th now nb ni ed kn L J) : g (ad 5) = some (intE dA 12 (J 5)) := h.2 5 rfl
theorem MRep.a6 (h : MRep dA ad g th now nb ni ed kn L J) : g (ad 6) = some (lonE dA 12 (L 6)) := h.2 6 rfl
theorem MRep.a7 (h : MRep dA ad g th now nb ni ed kn L J) : g (ad 7) = some (booE dA 12 (J 7)) := h.2 7 rfl
theorem MRep.a8 (h : MRep dA ad g th now nb ni ed kn L J) : g (ad 8) = some (intE dA 12 (J 8)) := h.2 8 rfl
theorem MRep.a9 (h : MRep dA ad g th now nb ni ed kn L J) : g (ad 9) = some (intE dA 12 (J 9)) := h.2 9 rfl
theorem MRep.a10 (h : MRep dA ad g th now nb ni ed kn L J) : g (ad 10) = some (lonE dA 12 (L 10)) := h.2 10 rfl
theorem MRep.a12 (h : MRep dA ad g th now nb ni ed kn L J) : g (ad 12) = some (lonE dA 61 (L 12)) := h.2 12 rfl
theorem MRep.a13 (h : MRep dA ad g th now nb ni ed kn L J) : g (ad 13) = some (lonE dA 61 (L 13)) := h.2 13 rfl
theorem MRep.a14 (h : MRep dA ad g th now nb ni ed kn L J) : g (ad 14) = some (intE dA 61 (J 14)) := h.2 14 rfl
theorem MRep.a15 (h : MRep dA ad g th now nb ni ed kn L J) : g (ad 15) = some (lonE dA 61 (L 15)) := h.2 15 rfl
theorem MRep.a16 (h : MRep dA ad g th now nb ni ed kn L J) : g (ad 16) = some (booE dA 61 (J 16)) := h.2 16 rfl
theorem MRep.a17 (h : MRep dA ad g th now nb ni ed kn L J) : g (ad 17) = some (booE dA 61 (J 17)) := h.2 17 rfl
theorem MRep.a18 (h : MRep dA ad g th now nb ni ed kn L J) : g (ad 18) = some (booE dA 61 (J 18)) := h.2 18 rfl
theorem MRep.a21 (h : MRep dA ad g th now nb ni ed kn L J) : g (ad 21) = some (lonE dA 400 (L 21)) := h.2 21 rfl
theorem MRep.a22 (h : MRep dA ad g th now nb ni ed kn L J) : g (ad 22) = some (intE dA 400 (J 22)) := h.2 22 rfl
theorem MRep.a23 (h : MRep dA ad g th now nb ni ed kn L J) : g (ad 23) = some (intE dA 400 (J 23)) := h.2 23 rfl
theorem MRep.a24 (h : MRep dA ad g th now nb ni ed kn L J) : g (ad 24) = some (intE dA 400 (J 24)) := h.2 24 rfl
theorem MRep.set0 (h : MRep dA ad g th now nb ni ed kn L J) {th' : Int32} {now' : Int64} {nb' ni' ed' : Nat} {kn' : Int32} : MRep dA ad (va_up g (ad 0) (some (mCell ad th' now' nb' ni' ed' kn'))) th' now' nb' ni' ed' kn' L J := by
  refine ⟨h.1, fun k hk => ?_⟩
  by_cases h0 : k = 0
  · subst h0
    rw [va_up_self]
    rfl
  · rw [va_up_ne _ _ (fun q => h0 (h.1 k 0 hk rfl q)), h.2 k hk]
    unfold mcell
    rw [if_neg h0, if_neg h0]
theorem MRep.setL (h : MRep dA ad g th now nb ni ed kn L J) (j : Nat) (f : Nat → Int64) (hj : mL j = true := by rfl) (hj0 : mok j = true := by rfl) (hz : j ≠ 0 := by decide) : MRep dA ad (va_up g (ad j) (some (lonE dA (msz j) f))) th now nb ni ed kn (va_up L j f) J := by
  refine ⟨h.1, fun k hk => ?_⟩
  by_cases h0 : k = j
  · subst h0
    rw [va_up_self]
    unfold mcell
    rw [if_neg hz, if_pos hj, va_up_self]
  · rw [va_up_ne _ _ (fun q => h0 (h.1 k j hk hj0 q)), h.2 k hk]
    unfold mcell
    rw [va_up_ne _ _ h0]
theorem MRep.setZ (h : MRep dA ad g th now nb ni ed kn L J) (j : Nat) (f : Nat → Int32) (hj : mZ j = true := by rfl) (hl : mL j = false := by rfl) (hj0 : mok j = true := by rfl) (hz : j ≠ 0 := by decide) : MRep dA ad (va_up g (ad j) (some (booE dA (msz j) f))) th now nb ni ed kn L (va_up J j f) := by
  refine ⟨h.1, fun k hk => ?_⟩
  by_cases h0 : k = j
  · subst h0
    rw [va_up_self]
    unfold mcell
    rw [if_neg hz, hl, if_neg (by decide), if_pos hj, va_up_self]
  · rw [va_up_ne _ _ (fun q => h0 (h.1 k j hk hj0 q)), h.2 k hk]
    unfold mcell
    rw [va_up_ne _ _ h0]
theorem MRep.setJ (h : MRep dA ad g th now nb ni ed kn L J) (j : Nat) (f : Nat → Int32) (hj : mZ j = false := by rfl) (hl : mL j = false := by rfl) (hj0 : mok j = true := by rfl) (hz : j ≠ 0 := by decide) : MRep dA ad (va_up g (ad j) (some (intE dA (msz j) f))) th now nb ni ed kn L (va_up J j f) := by
  refine ⟨h.1, fun k hk => ?_⟩
  by_cases h0 : k = j
  · subst h0
    rw [va_up_self]
    unfold mcell
    rw [if_neg hz, hl, if_neg (by decide), hj, if_neg (by decide), va_up_self]
  · rw [va_up_ne _ _ (fun q => h0 (h.1 k j hk hj0 q)), h.2 k hk]
    unfold mcell
    rw [va_up_ne _ _ h0]
end MREP
/-- places of belts that are used as indices are in range -/
def MWf (nb ni : Nat) (J : JA) : Prop := nb ≤ 12 ∧ ni ≤ 60 ∧ (∀ i, 1 ≤ i → i ≤ ni → ∃ j, j < nb ∧ J 14 i = nI j) ∧ ∀ b, b < nb → J 5 b = -1 ∨ ∃ j, j < nb ∧ J 5 b = nI j
/-! the reference's methods as functions -/
def inF (v a b : Int64) : Int32 := if v < a then 0 else if b < v then 0 else 1
def isBF (nb : Nat) (x : Int32) : Int32 := if x < 0 then 0 else if nI nb ≤ x then 0 else 1
def isIF (ni : Nat) (x : Int32) : Int32 := if x ≤ 0 then 0 else if nI ni < x then 0 else 1
def gearQ (L : LA) (J : JA) (b : Nat) (m : Int64) : Int64 := if J 7 b = 0 then (J 8 b).toInt64 - ((m - L 6 b) / 20 + 1) else (J 8 b).toInt64 + ((m - L 6 b) / 20 + 1)
def gearMF (L : LA) (J : JA) (b : Nat) (m : Int64) : Int32 := if gearQ L J b m ≤ 8 then (if 0 ≤ gearQ L J b m then (gearQ L J b m).toInt32 else 0) else 8
def rateMF (L : LA) (J : JA) (b : Nat) (m : Int64) : Int64 := L 4 b * (gearMF L J b m).toInt64 / 8
def thereF (now : Int64) (L : LA) (J : JA) (i : Nat) : Int32 := if J 16 i = 0 then (if now < L 13 i then 0 else 1) else 0
