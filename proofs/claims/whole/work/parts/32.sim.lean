/-! The relation between the class's state and the reference's. -/
/-- a belt of the class and the reference's arrays at its place -/
def BSim (L : LA) (J : JA) (k : Nat) (b : BT) : Prop := L 3 k = bLen b ∧ L 4 k = bSpd b ∧ L 6 k = bTold b ∧ J 7 k = bRun b ∧ J 8 k = bGb b ∧ J 5 k = ontoV b ∧ J 9 k = bTel b
theorem gear_eq {L : LA} {J : JA} {k : Nat} {b : BT} {now : Int} (hb : BRg b now) (hs : BSim L J k b) {t : Int64} (h1 : (bTold b).toInt ≤ t.toInt) (h2 : t.toInt ≤ 2000000) : gearMF L J k t = bFg b (stageF (bTold b) t).toNatClampNeg := by
  have h0 : 0 ≤ (bTold b).toInt := hb.2.2.2.2.2.2.2.2.1
  have hst := stI_lt (t.toInt - (bTold b).toInt)
  rw [stage_int h0 h1 h2, nI_clamp (by omega), (arr_int hb hst).2.2.2.2]
  obtain ⟨-, -, -, -, -, -, hr, ⟨q, hq, e⟩, -⟩ := hb
  obtain ⟨-, -, s6, s7, s8, -, -⟩ := hs
  have hc : (bGb b).toNatClampNeg = q := by rw [e, nI_clamp (by omega)]
  have ed : ((t - bTold b) / 20).toInt = (t.toInt - (bTold b).toInt) / 20 := by
    have := i64_sub (a := t) (b := bTold b) (by omega) (by omega)
    rw [lg_ldiv_nonneg (by omega) (by decide), this]; rfl
  have ed1 : ((t - bTold b) / 20 + 1).toInt = (t.toInt - (bTold b).toInt) / 20 + 1 := by
    rw [i64_add (by rw [ed, show (1 : Int64).toInt = 1 from rfl]; omega) (by rw [ed, show (1 : Int64).toInt = 1 from rfl]; omega), ed]; rfl
  rw [hc]
  unfold gearMF
  have hq1 : (gearQ L J k t).toInt = if bRun b = 0 then (q : Int) - ((t.toInt - (bTold b).toInt) / 20 + 1) else (q : Int) + ((t.toInt - (bTold b).toInt) / 20 + 1) := by
    unfold gearQ
    rw [s6, s7, s8, e]
    by_cases h : bRun b = 0
    · rw [if_pos h, if_pos h, i64_sub (by rw [nI_l64 (by omega), ed1]; omega) (by rw [nI_l64 (by omega), ed1]; omega), nI_l64 (by omega), ed1]
    · rw [if_neg h, if_neg h, i64_add (by rw [nI_l64 (by omega), ed1]; omega) (by rw [nI_l64 (by omega), ed1]; omega), nI_l64 (by omega), ed1]
  generalize gearQ L J k t = Q at hq1
  unfold gN stI
  rcases hr with hr | hr
  · rw [hr, if_pos rfl] at hq1
    rw [hr, if_pos rfl]
    rw [if_pos (Int64.le_iff_toInt_le.mpr (by rw [hq1]; simp; omega))]
    by_cases c : 0 ≤ Q
    · rw [if_pos c]
      have c' := Int64.le_iff_toInt_le.mp c
      rw [hq1] at c'
      simp at c'
      apply Int32.toInt_inj.mp
      rw [Int64.toInt_toInt32, hq1, Int.bmod_eq_of_le (by omega) (by omega)]
      rw [if_pos (by omega), nI_toInt (by omega)]
      omega
    · rw [if_neg c]
      have c' : ¬ 0 ≤ Q.toInt := fun z => c (Int64.le_iff_toInt_le.mpr (by simpa using z))
      rw [hq1] at c'
      have : q - ((if (t.toInt - (bTold b).toInt) / 20 < 8 then ((t.toInt - (bTold b).toInt) / 20).toNat else 7) + 1) = 0 := by
        split <;> omega
      rw [this]; rfl
  · rw [hr, if_neg (by decide)] at hq1
    rw [hr, if_neg (show ¬ (1 : Int32) = 0 by decide)]
    by_cases c : Q ≤ 8
    · rw [if_pos c]
      have c' := Int64.le_iff_toInt_le.mp c
      rw [hq1] at c'
      simp at c'
      rw [if_pos (Int64.le_iff_toInt_le.mpr (by rw [hq1]; simp; omega))]
      apply Int32.toInt_inj.mp
      rw [Int64.toInt_toInt32, hq1, Int.bmod_eq_of_le (by omega) (by omega)]
      rw [if_pos (by omega), nI_toInt (by omega)]
      omega
    · rw [if_neg c]
      have c' : ¬ Q.toInt ≤ 8 := fun z => c (Int64.le_iff_toInt_le.mpr (by simpa using z))
      rw [hq1] at c'
      have : min 8 (q + (if (t.toInt - (bTold b).toInt) / 20 < 8 then ((t.toInt - (bTold b).toInt) / 20).toNat else 7) + 1) = 8 := by
        split <;> omega
      rw [this]; rfl
theorem rate_eq {L : LA} {J : JA} {k : Nat} {b : BT} {now : Int} (hb : BRg b now) (hs : BSim L J k b) {t : Int64} (h1 : (bTold b).toInt ≤ t.toInt) (h2 : t.toInt ≤ 2000000) : (rateMF L J k t).toInt = Pb b (stI (t.toInt - (bTold b).toInt)) := by
  have h0 : 0 ≤ (bTold b).toInt := hb.2.2.2.2.2.2.2.2.1
  have hst := stI_lt (t.toInt - (bTold b).toInt)
  unfold rateMF
  rw [gear_eq hb hs h1 h2, stage_int h0 h1 h2, nI_clamp (by omega), hs.2.1]
  have := hb.1 _ hst
  rw [this.1, ← (arr_int hb hst).1, this.2.1]
  rfl
/-- a millisecond's way -/
theorem way_ms {L : LA} {J : JA} {k : Nat} {b : BT} {now : Int} (hb : BRg b now) (hs : BSim L J k b) {t : Int64} (h1 : (bTold b).toInt ≤ t.toInt) (h2 : t.toInt ≤ 1000000) : (wayB b (t + 1)).toInt = (wayB b t).toInt + (rateMF L J k t).toInt ∧ 0 ≤ (rateMF L J k t).toInt ∧ (rateMF L J k t).toInt ≤ 5000 := by
  have et : (t + 1).toInt = t.toInt + 1 := by
    have h0 : 0 ≤ (bTold b).toInt := hb.2.2.2.2.2.2.2.2.1
    rw [i64_add (by rw [show (1 : Int64).toInt = 1 from rfl]; omega) (by rw [show (1 : Int64).toInt = 1 from rfl]; omega)]; rfl
  rw [rate_eq hb hs h1 (by omega), (way_int hb h1 (by omega)).1, (way_int hb (t := t + 1) (by omega) (by omega)).1, et, show t.toInt + 1 - (bTold b).toInt = t.toInt - (bTold b).toInt + 1 by omega, WI_succ (Fb_s b) (by omega)]
  exact ⟨rfl, Pb_r hb _⟩
/-- the reference's numbers of an item: size, comes, place, on, left, front, back -/
abbrev MIT : Type := Int64 × Int64 × Int64 × Int32 × Int32 × Int32 × Int32
abbrev vSz (v : MIT) : Int64 := v.1
abbrev vCm (v : MIT) : Int64 := v.2.1
abbrev vPl (v : MIT) : Int64 := v.2.2.1
abbrev vOn (v : MIT) : Int32 := v.2.2.2.1
abbrev vLf (v : MIT) : Int32 := v.2.2.2.2.1
abbrev vFr (v : MIT) : Int32 := v.2.2.2.2.2.1
abbrev vBk (v : MIT) : Int32 := v.2.2.2.2.2.2
def vM (L : LA) (J : JA) (i : Nat) : MIT := (L 12 i, L 13 i, L 15 i, J 14 i, J 16 i, J 17 i, J 18 i)
def thV (now : Int64) (v : MIT) : Int32 := if vLf v = 0 then (if now < vCm v then 0 else 1) else 0
theorem thV_eq (now : Int64) (L : LA) (J : JA) (i : Nat) : thereF now L J i = thV now (vM L J i) := rfl
def lenV (x : IT) : Prop := 1 ≤ (iLen x).toInt ∧ (iLen x).toInt ≤ 100000
def Wait (nb : Nat) (T : Int64) (v : MIT) (x : IT) : Prop := iWt x = 1 ∧ (∃ j, j < nb ∧ iBt x = some j ∧ vOn v = nI j) ∧ vCm v = iTurn x ∧ T < iTurn x ∧ (iTurn x).toInt ≤ 1000000 ∧ vLf v = 0 ∧ vFr v = 0 ∧ vBk v = 0 ∧ vPl v = 0 ∧ iFt x = 0 ∧ iEt x = 0
def OnB (B : Nat → BT) (nb : Nat) (T : Int64) (v : MIT) (x : IT) (j : Nat) : Prop := iWt x = 0 ∧ j < nb ∧ iBt x = some j ∧ vOn v = nI j ∧ vCm v ≤ T ∧ vLf v = 0 ∧ vFr v = iFt x ∧ vBk v = iEt x ∧ (iFt x = 0 ∨ iFt x = 1) ∧ (iEt x = 0 ∨ iEt x = 1) ∧ (iFt x = 0 → iEt x = 0) ∧ (vPl v).toInt + (iStart x).toInt = (wayB (B j) T).toInt ∧ 0 ≤ (vPl v).toInt ∧ (vPl v).toInt < (bLen (B j)).toInt ∧ iTurn x = towB (B j) (iStart x + aimF (bLen (B j)) (bSen (B j)) (iLen x) (iFt x) (iEt x))
def Left (nb : Nat) (T : Int64) (v : MIT) (x : IT) : Prop := iBt x = none ∧ iTurn x = 1000000000000 ∧ iWt x = 0 ∧ vCm v ≤ T ∧ vLf v = 1 ∧ ∃ j, j < nb ∧ vOn v = nI j
def ISim (B : Nat → BT) (nb : Nat) (T : Int64) (v : MIT) (x : IT) : Prop := vSz v = iLen x ∧ lenV x ∧ (Wait nb T v x ∨ (∃ j, OnB B nb T v x j ∧ T < iTurn x) ∨ Left nb T v x)
/-- as ISim, but edges of this time are still to be told -/
def Mid (B : Nat → BT) (nb : Nat) (T : Int64) (v : MIT) (x : IT) : Prop := vSz v = iLen x ∧ lenV x ∧ (Wait nb T v x ∨ (∃ j, OnB B nb T v x j ∧ T ≤ iTurn x) ∨ Left nb T v x)
def BAll (B : Nat → BT) (nb : Nat) (T : Int64) (L : LA) (J : JA) : Prop := nb ≤ 12 ∧ ∀ k, k < nb → BRg (B k) T.toInt ∧ BSim L J k (B k) ∧ (∀ q, bOnto (B k) = some q → k < q ∧ q < nb)
def plV (r : Nat → Int64) (now : Int64) (v : MIT) : MIT := (vSz v, vCm v, if thV now v = 0 then vPl v else vPl v + r (vOn v).toNatClampNeg, vOn v, vLf v, vFr v, vBk v)
def goV (L3 : Nat → Int64) (J5 : Nat → Int32) (now : Int64) (v : MIT) : MIT := if thV now v = 0 then v else if vPl v < L3 (vOn v).toNatClampNeg then v else (vSz v, vCm v, vPl v - L3 (vOn v).toNatClampNeg, (if J5 (vOn v).toNatClampNeg = -1 then vOn v else J5 (vOn v).toNatClampNeg), (if J5 (vOn v).toNatClampNeg = -1 then 1 else 0), 0, 0)
theorem sen_int {b : BT} {now : Int} (hb : BRg b now) : (bSen b).toInt = (bLen b).toInt / 2 ∧ 50000 ≤ (bSen b).toInt := by
  have h1 := hb.2.1
  have e := hb.2.2.2.2.2.1
  have : (bSen b).toInt = (bLen b).toInt / 2 := by
    rw [e, lg_ldiv_nonneg (by omega) (by decide)]; rfl
  exact ⟨this, by omega⟩
theorem aim_int {b : BT} {now : Int} (hb : BRg b now) {x : IT} (hx : lenV x) : (aimF (bLen b) (bSen b) (iLen x) (iFt x) (iEt x)).toInt = (if iFt x = 0 then (bSen b).toInt else if iEt x = 0 then (if (bLen b).toInt < (bSen b).toInt + (iLen x).toInt then (bLen b).toInt else (bSen b).toInt + (iLen x).toInt) else (bLen b).toInt) := by
  have h1 := hb.2.1
  have h2 := hb.2.2.1
  have hs := sen_int hb
  obtain ⟨l1, l2⟩ := hx
  have e : (bSen b + iLen x).toInt = (bSen b).toInt + (iLen x).toInt := i64_add (by omega) (by omega)
  unfold aimF
  by_cases c1 : iFt x = 0
  · rw [if_pos c1, if_pos c1]
  · rw [if_neg c1, if_neg c1]
    by_cases c2 : iEt x = 0
    · rw [if_pos c2, if_pos c2]
      by_cases c3 : (bLen b).toInt < (bSen b).toInt + (iLen x).toInt
      · rw [if_pos c3, if_pos (Int64.lt_iff_toInt_lt.mpr (by rw [e]; exact c3))]
      · rw [if_neg c3, if_neg (fun z => c3 (by have := Int64.lt_iff_toInt_lt.mp z; rwa [e] at this)), e]
    · rw [if_neg c2, if_neg c2]
theorem aim_r {b : BT} {now : Int} (hb : BRg b now) {x : IT} (hx : lenV x) : 50000 ≤ (aimF (bLen b) (bSen b) (iLen x) (iFt x) (iEt x)).toInt ∧ (aimF (bLen b) (bSen b) (iLen x) (iFt x) (iEt x)).toInt ≤ (bLen b).toInt := by
  have hs := sen_int hb
  have h1 := hb.2.1
  obtain ⟨l1, l2⟩ := hx
  rw [aim_int hb ⟨l1, l2⟩]
  split
  · omega
  · split
    · split <;> omega
    · omega
/-- an item's turn, and where its front is -/
theorem turn_iff {B : Nat → BT} {nb : Nat} {T : Int64} {v : MIT} {x : IT} {j : Nat} {L : LA} {J : JA} {now : Int} (hb : BRg (B j) now) (hx : lenV x) (h : OnB B nb T v x j) {t : Int64} (h1 : (bTold (B j)).toInt ≤ t.toInt) (h2 : t.toInt ≤ 1000001) (hT : (bTold (B j)).toInt ≤ T.toInt) (hT2 : T.toInt ≤ 1000001) : t < iTurn x ↔ (wayB (B j) t).toInt - (iStart x).toInt < (aimF (bLen (B j)) (bSen (B j)) (iLen x) (iFt x) (iEt x)).toInt := by
  obtain ⟨-, -, -, -, -, -, -, -, -, -, -, h12, h13, h14, h15⟩ := h
  have w := way_int hb hT (by omega)
  have a := aim_r hb hx
  have l2 := hb.2.2.1
  have e : (iStart x + aimF (bLen (B j)) (bSen (B j)) (iLen x) (iFt x) (iEt x)).toInt = (iStart x).toInt + (aimF (bLen (B j)) (bSen (B j)) (iLen x) (iFt x) (iEt x)).toInt := i64_add (by omega) (by omega)
  rw [h15, tow_iff hb h1 (by omega) (by rw [e]; omega) (by rw [e]; omega), Int64.lt_iff_toInt_lt, e]
  omega
