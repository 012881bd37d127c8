/-! The class's methods as functions of its state. -/
def wayB (b : BT) (t : Int64) : Int64 := wayF (bTold b) (bFp b) (bFw b) t
def towB (b : BT) (w : Int64) : Int64 := towF (bTold b) (bFp b) (bFw b) w
def aimI (B : Nat → BT) (x : IT) : IT := match iBt x with
  | none => x
  | some j => (iLen x, some j, iWt x, towB (B j) (iStart x + aimF (bLen (B j)) (bSen (B j)) (iLen x) (iFt x) (iEt x)), iStart x, iFt x, iEt x)
def comeI (B : Nat → BT) (x : IT) (j : Nat) (t pl : Int64) : IT := (iLen x, some j, 0, towB (B j) (wayB (B j) t - pl + bSen (B j)), wayB (B j) t - pl, 0, 0)
def moveI (B : Nat → BT) (x : IT) (t : Int64) : IT := match iBt x with
  | none => x
  | some j => if iWt x = 0 then (if 0 ≤ wayB (B j) t - iStart x - bLen (B j) then (match bOnto (B j) with
      | none => (iLen x, none, iWt x, 1000000000000, iStart x, iFt x, iEt x)
      | some k => comeI B x k t (wayB (B j) t - iStart x - bLen (B j))) else x) else comeI B x j t 0
def nextN (I : Nat → IT) : Nat → Int64
  | 0 => 1000000000000
  | k + 1 => if nextN I k ≤ iTurn (I k) then nextN I k else iTurn (I k)
def moveN (B : Nat → BT) (t : Int64) (I : Nat → IT) : Nat → (Nat → IT)
  | 0 => I
  | k + 1 => if iTurn (moveN B t I k k) = t then va_up (moveN B t I k) k (moveI B (moveN B t I k k) t) else moveN B t I k
def shK (I : Nat → IT) (i : Nat) (way : Int64) (k : Nat) : Prop := k ≠ i ∧ iBt (I k) = iBt (I i) ∧ iWt (I k) = 0 ∧ (way - iStart (I i) < way - iStart (I k) ∨ (way - iStart (I k) = way - iStart (I i) ∧ nI (k + 1) < nI (i + 1))) ∧ way - iStart (I k) - iLen (I k) - (way - iStart (I i)) < 50000
noncomputable def shF (I : Nat → IT) (ni i : Nat) (way : Int64) : Int32 := by
  classical
  exact if ∃ k, k < ni ∧ shK I i way k then 1 else 0
theorem shF_1 {I : Nat → IT} {ni i : Nat} {way : Int64} (h : ∃ k, k < ni ∧ shK I i way k) : shF I ni i way = 1 := if_pos h
theorem shF_0 {I : Nat → IT} {ni i : Nat} {way : Int64} (h : ¬ ∃ k, k < ni ∧ shK I i way k) : shF I ni i way = 0 := if_neg h
abbrev ET : Type := Nat × (Nat → Int32)
def addE (e : ET) (t : Int64) (b i k : Int32) : ET := (e.1 + 1, if 400 ≤ e.1 then e.2 else rowF e.2 e.1 t.toInt32 b i k)
def frI (x : IT) : IT := (iLen x, iBt x, iWt x, iTurn x, iStart x, 1, iEt x)
def enI (x : IT) : IT := (iLen x, iBt x, iWt x, iTurn x, iStart x, iFt x, 1)
noncomputable def tel1 (B : Nat → BT) (I : Nat → IT) (ni : Nat) (t : Int64) (i j : Nat) (e : ET) : IT × ET := if iFt (I i) = 0 then (if wayB (B j) t - iStart (I i) - bSen (B j) < 0 then (I i, e) else (frI (I i), addE e t (nI j) (nI (i + 1)) (if shF I ni i (wayB (B j) t) = 0 then 0 else 2))) else (I i, e)
def tel2 (B : Nat → BT) (x0 : IT) (t : Int64) (i j : Nat) (p : IT × ET) : IT × ET := if iFt p.1 = 0 then p else if iEt p.1 = 0 then (if wayB (B j) t - iStart x0 - bSen (B j) < iLen x0 then p else (enI p.1, addE p.2 t (nI j) (nI (i + 1)) 1)) else p
noncomputable def tellF (B : Nat → BT) (I : Nat → IT) (ni : Nat) (t : Int64) (i j : Nat) (e : ET) : IT × ET := (aimI B (tel2 B (I i) t i j (tel1 B I ni t i j e)).1, (tel2 B (I i) t i j (tel1 B I ni t i j e)).2)
noncomputable def tellO (B : Nat → BT) (I : Nat → IT) (ni : Nat) (t : Int64) (i : Nat) (e : ET) : (Nat → IT) × ET := match iBt (I i) with
  | none => (I, e)
  | some j => (va_up I i (tellF B I ni t i j e).1, (tellF B I ni t i j e).2)
noncomputable def tellN (B : Nat → BT) (ni : Nat) (t : Int64) (I : Nat → IT) (e : ET) : Nat → (Nat → IT) × ET
  | 0 => (I, e)
  | k + 1 => if iTurn ((tellN B ni t I e k).1 k) = t then tellO B (tellN B ni t I e k).1 ni t k (tellN B ni t I e k).2 else tellN B ni t I e k
def aimN (B : Nat → BT) (j : Nat) (I : Nat → IT) : Nat → (Nat → IT)
  | 0 => I
  | k + 1 => if iBt (aimN B j I k k) = some j then (if iWt (aimN B j I k k) = 0 then va_up (aimN B j I k) k (aimI B (aimN B j I k k)) else aimN B j I k) else aimN B j I k
noncomputable def pasN (B : Nat → BT) (ni : Nat) (t : Int64) : Nat → (Nat → IT) → ET → (Nat → IT) × ET
  | 0, I, e => (I, e)
  | f + 1, I, e => if nextN I ni ≤ t then pasN B ni t f (tellN B ni (nextN I ni) (moveN B (nextN I ni) I ni) e ni).1 (tellN B ni (nextN I ni) (moveN B (nextN I ni) I ni) e ni).2 else (I, e)
def paN (B : Nat → BT) (t : Int64) : Nat → Nat → Int64 → Int64
  | 0, _, _ => -1
  | f + 1, j, start => if towB (B j) (start + bLen (B j)) ≤ t then (match bOnto (B j) with
      | none => -1
      | some k => paN B t f k (wayB (B k) (towB (B j) (start + bLen (B j))) - (wayB (B j) (towB (B j) (start + bLen (B j))) - start - bLen (B j)))) else (nI j).toInt64 * 1000000000 + wayB (B j) t - start
def paF (B : Nat → BT) (x : IT) (t : Int64) : Int64 := match iBt x with
  | none => -1
  | some j => if iWt x = 0 then paN B t 12 j (iStart x) else (if iTurn x ≤ t then paN B t 12 j (wayB (B j) (iTurn x)) else -2)
def nolF (now t : Int64) : Int32 := if t < now then 0 else if 1000000 < t then 0 else 1
theorem aimI_bt (B : Nat → BT) (x : IT) : iBt (aimI B x) = iBt x := by
  unfold aimI
  cases h : iBt x with
  | none => exact h
  | some j => rfl
theorem iTab_at {ad : Nat → Nat} {ni k : Nat} (hk : k < ni) (h60 : ni ≤ 60) : va_rf (iTab ad ni (nI k).toNatClampNeg) = .ref (iA ad k) := by
  rw [nI_clamp (by omega)]
  show va_rf (if k < ni then some (iA ad k) else none) = _
  rw [if_pos hk]
  rfl
theorem bTab_at {ad : Nat → Nat} {nb k : Nat} (hk : k < nb) (h12 : nb ≤ 12) : va_rf (bTab ad nb (nI k).toNatClampNeg) = .ref (bA ad k) := by
  rw [nI_clamp (by omega)]
  show va_rf (if k < nb then some (bA ad k) else none) = _
  rw [if_pos hk]
  rfl
theorem moveI_ok {dA : Nat → ClassId} {ad : Nat → Nat} {g : Nat → Option va_E} {nb ni : Nat} {now : Int64} {B : Nat → BT} {I : Nat → IT} {n : Nat} {tk : Int32} {fr : Nat → Int32} (h : SRep dA ad g nb ni now B I n tk fr) {i : Nat} (hi : i < ni) (t : Int64) : ∀ j, iBt (moveI B (I i) t) = some j → j < nb := by
  intro j hj
  unfold moveI at hj
  cases hb : iBt (I i) with
  | none => rw [hb] at hj; simp only at hj; exact h.bt hi hj
  | some k =>
    have hk := h.bt hi hb
    rw [hb] at hj
    simp only at hj
    by_cases h1 : iWt (I i) = 0
    · rw [if_pos h1] at hj
      by_cases h2 : 0 ≤ wayB (B k) t - iStart (I i) - bLen (B k)
      · rw [if_pos h2] at hj
        cases ho : bOnto (B k) with
        | none => rw [ho] at hj; cases hj
        | some q => rw [ho] at hj; cases hj; exact h.onto hk ho
      · rw [if_neg h2] at hj
        exact h.bt hi hj
    · rw [if_neg h1] at hj
      cases hj
      exact hk
