/-! A belt's numbers as whole numbers. -/
theorem i64_add {a b : Int64} (h1 : -9223372036854775808 ≤ a.toInt + b.toInt) (h2 : a.toInt + b.toInt < 9223372036854775808) : (a + b).toInt = a.toInt + b.toInt := by
  rw [Int64.toInt_add, Int.bmod_eq_of_le (by omega) (by omega)]
theorem i64_sub {a b : Int64} (h1 : -9223372036854775808 ≤ a.toInt - b.toInt) (h2 : a.toInt - b.toInt < 9223372036854775808) : (a - b).toInt = a.toInt - b.toInt := by
  rw [Int64.toInt_sub, Int.bmod_eq_of_le (by omega) (by omega)]
theorem i64_mul {a b : Int64} (h1 : -9223372036854775808 ≤ a.toInt * b.toInt) (h2 : a.toInt * b.toInt < 9223372036854775808) : (a * b).toInt = a.toInt * b.toInt := by
  rw [Int64.toInt_mul, Int.bmod_eq_of_le (by omega) (by omega)]
theorem nI_l64 {n : Nat} (h : n < 2 ^ 31) : (nI n).toInt64.toInt = n := by rw [Int32.toInt_toInt64, nI_toInt h]
def gN (run : Int32) (q k : Nat) : Nat := if run = 0 then q - (k + 1) else min 8 (q + k + 1)
theorem gearF_fin : ∀ (q : Fin 9) (k : Fin 8), gearF 0 (nI q) k = nI (q - (k + 1)) ∧ gearF 1 (nI q) k = nI (min 8 (q + k + 1)) := by decide +kernel
theorem gN_le {run : Int32} {q k : Nat} (hq : q ≤ 8) : gN run q k ≤ 8 := by
  unfold gN
  split <;> omega
theorem gearF_N {run : Int32} (hr : run = 0 ∨ run = 1) {q k : Nat} (hq : q ≤ 8) (hk : k < 8) : gearF run (nI q) k = nI (gN run q k) := by
  have := gearF_fin ⟨q, by omega⟩ ⟨k, hk⟩
  rcases hr with rfl | rfl
  · exact this.1
  · exact this.2
def PIb (spd : Int) (run : Int32) (q k : Nat) : Int := spd * (gN run q k : Int) / 8
def FIb (wat spd : Int) (run : Int32) (q : Nat) : Nat → Int
  | 0 => wat
  | k + 1 => FIb wat spd run q k + 20 * PIb spd run q k
theorem PIb_r {spd : Int} {run : Int32} {q k : Nat} (h1 : 1 ≤ spd) (h2 : spd ≤ 5000) (hq : q ≤ 8) : 0 ≤ PIb spd run q k ∧ PIb spd run q k ≤ 5000 := by
  unfold PIb
  have := gN_le (run := run) (k := k) hq
  generalize gN run q k = c at this
  have a1 : 0 ≤ spd * (c : Int) := Int.mul_nonneg (by omega) (by omega)
  have a2 : spd * (c : Int) ≤ spd * 8 := Int.mul_le_mul_of_nonneg_left (by omega) (by omega)
  omega
theorem pace_int {spd : Int64} (h1 : 1 ≤ spd.toInt) (h2 : spd.toInt ≤ 5000) {c : Nat} (hc : c ≤ 8) : (paceF spd (nI c)).toInt = spd.toInt * c / 8 := by
  unfold paceF
  have a1 : 0 ≤ spd.toInt * (c : Int) := Int.mul_nonneg (by omega) (by omega)
  have a2 : spd.toInt * (c : Int) ≤ spd.toInt * 8 := Int.mul_le_mul_of_nonneg_left (by omega) (by omega)
  have e : (spd * (nI c).toInt64).toInt = spd.toInt * c := by
    rw [i64_mul (by rw [nI_l64 (by omega)]; omega) (by rw [nI_l64 (by omega)]; omega), nI_l64 (by omega)]
  rw [lg_ldiv_nonneg (by omega) (by decide), e]
  rfl
theorem wayS_int {wat spd : Int64} {run : Int32} (hr : run = 0 ∨ run = 1) {q : Nat} (hq : q ≤ 8) (h1 : 1 ≤ spd.toInt) (h2 : spd.toInt ≤ 5000) (h3 : 0 ≤ wat.toInt) (h4 : wat.toInt ≤ 10000000000) : ∀ k, k ≤ 8 → (wayS wat spd run (nI q) k).toInt = FIb wat.toInt spd.toInt run q k ∧ 0 ≤ FIb wat.toInt spd.toInt run q k ∧ FIb wat.toInt spd.toInt run q k ≤ wat.toInt + 100000 * k := by
  intro k
  induction k with
  | zero => intro _; exact ⟨rfl, h3, by simp only [FIb]; omega⟩
  | succ k ih =>
    intro hk
    obtain ⟨e, e1, e2⟩ := ih (by omega)
    have hp := PIb_r (run := run) (k := k) h1 h2 hq
    have hpe : (paceF spd (gearF run (nI q) k)).toInt = PIb spd.toInt run q k := by
      rw [gearF_N hr hq (by omega), pace_int h1 h2 (gN_le hq)]; rfl
    have hm : (paceF spd (gearF run (nI q) k) * 20).toInt = PIb spd.toInt run q k * 20 := by
      rw [i64_mul (by rw [hpe, show (20 : Int64).toInt = 20 from rfl]; omega) (by rw [hpe, show (20 : Int64).toInt = 20 from rfl]; omega), hpe]; rfl
    simp only [wayS, FIb]
    refine ⟨?_, by omega, by omega⟩
    rw [i64_add (by rw [e, hm]; omega) (by rw [e, hm]; omega), e, hm]
    omega
theorem stage_int {told t : Int64} (h0 : 0 ≤ told.toInt) (h1 : told.toInt ≤ t.toInt) (h2 : t.toInt ≤ 2000000) : stageF told t = nI (stI (t.toInt - told.toInt)) := by
  have e : ((t - told) / 20).toInt = (t.toInt - told.toInt) / 20 := by
    have := i64_sub (a := t) (b := told) (by omega) (by omega)
    rw [lg_ldiv_nonneg (by omega) (by decide), this]; rfl
  unfold stageF stI
  have c0 : 0 ≤ (t - told) / 20 := Int64.le_iff_toInt_le.mpr (by rw [e]; simp; omega)
  rw [if_pos c0]
  by_cases h8 : (t.toInt - told.toInt) / 20 < 8
  · have c1 : ¬ 8 ≤ (t - told) / 20 := fun q => by have := Int64.le_iff_toInt_le.mp q; rw [e] at this; simp at this; omega
    rw [if_neg c1, if_pos h8]
    apply Int32.toInt_inj.mp
    rw [Int64.toInt_toInt32, e, nI_toInt (by omega), Int.bmod_eq_of_le (by omega) (by omega)]
    omega
  · have c1 : 8 ≤ (t - told) / 20 := Int64.le_iff_toInt_le.mpr (by rw [e]; simp; omega)
    rw [if_pos c1, if_neg h8]
    rfl
/-- a belt's numbers are in range, at a time -/
def BRg (b : BT) (now : Int) : Prop := BOk b ∧ 100000 ≤ (bLen b).toInt ∧ (bLen b).toInt ≤ 100000000 ∧ 1 ≤ (bSpd b).toInt ∧ (bSpd b).toInt ≤ 5000 ∧ bSen b = bLen b / 2 ∧ (bRun b = 0 ∨ bRun b = 1) ∧ (∃ q, q ≤ 8 ∧ bGb b = nI q) ∧ 0 ≤ (bTold b).toInt ∧ (bTold b).toInt ≤ now ∧ now ≤ 1000000 ∧ 0 ≤ (bWat b).toInt ∧ (bWat b).toInt ≤ 5000 * (bTold b).toInt
def Pb (b : BT) : Nat → Int := PIb (bSpd b).toInt (bRun b) (bGb b).toNatClampNeg
def Fb (b : BT) : Nat → Int := FIb (bWat b).toInt (bSpd b).toInt (bRun b) (bGb b).toNatClampNeg
theorem Fb_s (b : BT) : ∀ k, k < 7 → Fb b (k + 1) = Fb b k + 20 * Pb b k := fun _ _ => rfl
section BINT
variable {b : BT} {now : Int} (hb : BRg b now)
theorem Pb_r (hb : BRg b now) (k : Nat) : 0 ≤ Pb b k ∧ Pb b k ≤ 5000 := by
  obtain ⟨-, -, -, h1, h2, -, -, ⟨q, hq, e⟩, -⟩ := hb
  unfold Pb
  rw [e, nI_clamp (by omega)]
  exact PIb_r h1 h2 hq
theorem WI_up (hb : BRg b now) (n : Nat) : WI (Fb b) (Pb b) n ≤ (bWat b).toInt + 5000 * n := by
  induction n with
  | zero =>
    have : WI (Fb b) (Pb b) ((0 : Nat) : Int) = Fb b 0 := by
      have := WI_at (F := Fb b) (P := Pb b) (k := 0) (Fb_s b) (by decide) (r := 0) (by omega) (by omega)
      simpa using this
    rw [this]
    show (bWat b).toInt ≤ _
    omega
  | succ n ih =>
    have h1 := WI_succ (F := Fb b) (P := Pb b) (Fb_s b) (d := (n : Int)) (by omega)
    have h2 := Pb_r hb (stI n)
    rw [show ((n + 1 : Nat) : Int) = (n : Int) + 1 by omega]
    omega
theorem arr_int (hb : BRg b now) {k : Nat} (hk : k < 8) : (bFp b k).toInt = Pb b k ∧ (bFw b k).toInt = Fb b k ∧ 0 ≤ Fb b k ∧ Fb b k ≤ (bWat b).toInt + 800000 ∧ bFg b k = nI (gN (bRun b) (bGb b).toNatClampNeg k) := by
  obtain ⟨ho, -, -, h1, h2, -, hr, ⟨q, hq, e⟩, h3, h4, h5, h6, h7⟩ := hb
  obtain ⟨o1, o2, o3⟩ := ho k hk
  have hc : (bGb b).toNatClampNeg = q := by rw [e, nI_clamp (by omega)]
  obtain ⟨w1, w2, w3⟩ := wayS_int (wat := bWat b) (spd := bSpd b) hr hq h1 h2 h6 (by omega) k (by omega)
  unfold Pb Fb
  rw [hc, o1, o2, o3, e]
  refine ⟨?_, w1, w2, by omega, gearF_N hr hq hk⟩
  rw [gearF_N hr hq hk, pace_int h1 h2 (gN_le hq)]; rfl
theorem way_int (hb : BRg b now) {t : Int64} (h1 : (bTold b).toInt ≤ t.toInt) (h2 : t.toInt ≤ 2000000) : (wayB b t).toInt = WI (Fb b) (Pb b) (t.toInt - (bTold b).toInt) ∧ 0 ≤ (wayB b t).toInt ∧ (wayB b t).toInt ≤ 5000 * t.toInt := by
  have h0 : 0 ≤ (bTold b).toInt := hb.2.2.2.2.2.2.2.2.1
  have hw0 := hb.2.2.2.2.2.2.2.2.2.2.2.1
  have hw1 := hb.2.2.2.2.2.2.2.2.2.2.2.2
  have hd0 : 0 ≤ t.toInt - (bTold b).toInt := by omega
  have up := WI_up hb (t.toInt - (bTold b).toInt).toNat
  rw [show (((t.toInt - (bTold b).toInt).toNat : Nat) : Int) = t.toInt - (bTold b).toInt by omega] at up
  have lo := WI_le (F := Fb b) (P := Pb b) (Fb_s b) (fun k _ => (Pb_r hb k).1) (Int.le_refl 0) hd0
  have e0 : WI (Fb b) (Pb b) 0 = Fb b 0 := by
    have := WI_at (F := Fb b) (P := Pb b) (k := 0) (Fb_s b) (by decide) (r := 0) (by omega) (by omega)
    simpa using this
  rw [e0] at lo
  have lo0 : (0 : Int) ≤ Fb b 0 := hw0
  have key : (wayB b t).toInt = WI (Fb b) (Pb b) (t.toInt - (bTold b).toInt) := by
    unfold wayB wayF
    rw [stage_int h0 h1 h2]
    have hs := stI_lt (t.toInt - (bTold b).toInt)
    rw [nI_clamp (by omega)]
    unfold WI at up lo ⊢
    generalize hk : stI (t.toInt - (bTold b).toInt) = k at hs up lo ⊢
    obtain ⟨a1, a2, a3, a4, -⟩ := arr_int hb hs
    have pr := Pb_r hb k
    have m1 : ((nI k).toInt64 * 20).toInt = 20 * k := by
      rw [i64_mul (by rw [nI_l64 (by omega), show (20 : Int64).toInt = 20 from rfl]; omega) (by rw [nI_l64 (by omega), show (20 : Int64).toInt = 20 from rfl]; omega), nI_l64 (by omega), show (20 : Int64).toInt = 20 from rfl]; omega
    have m2 : (t - bTold b).toInt = t.toInt - (bTold b).toInt := i64_sub (by omega) (by omega)
    have m3 : (t - bTold b - (nI k).toInt64 * 20).toInt = t.toInt - (bTold b).toInt - 20 * k := by
      rw [i64_sub (by rw [m1, m2]; omega) (by rw [m1, m2]; omega), m1, m2]
    have hge : 0 ≤ t.toInt - (bTold b).toInt - 20 * k := by
      have : stI (t.toInt - (bTold b).toInt) = k := hk
      unfold stI at this
      split at this <;> omega
    have p1 : 0 ≤ (t.toInt - (bTold b).toInt - 20 * k) * Pb b k := Int.mul_nonneg hge pr.1
    have p2 : (t.toInt - (bTold b).toInt - 20 * k) * Pb b k ≤ (t.toInt - (bTold b).toInt - 20 * k) * 5000 := Int.mul_le_mul_of_nonneg_left pr.2 hge
    have m4 : ((t - bTold b - (nI k).toInt64 * 20) * bFp b k).toInt = (t.toInt - (bTold b).toInt - 20 * k) * Pb b k := by
      rw [i64_mul (by rw [m3, a1]; omega) (by rw [m3, a1]; omega), m3, a1]
    rw [i64_add (by rw [m4, a2]; omega) (by rw [m4, a2]; omega), m4, a2]
  rw [key]
  exact ⟨rfl, by omega, by omega⟩
theorem stg_int (hb : BRg b now) (w : Int64) : ∀ n k, k + n = 7 → stgF (bFw b) w n k = stF (Fb b) w.toInt n k := by
  intro n
  induction n with
  | zero => intro k _; rfl
  | succ n ih =>
    intro k hk
    simp only [stgF, stF]
    have a := (arr_int hb (k := k + 1) (by omega)).2.1
    by_cases h : Fb b (k + 1) < w.toInt
    · rw [if_pos h, if_pos (Int64.lt_iff_toInt_lt.mpr (by rw [a]; exact h))]
      exact ih (k + 1) (by omega)
    · rw [if_neg h, if_neg (fun q => h (by have := Int64.lt_iff_toInt_lt.mp q; rwa [a] at this))]
/-- a belt has its way so far from a time on -/
theorem tow_iff (hb : BRg b now) {t w : Int64} (h1 : (bTold b).toInt ≤ t.toInt) (h2 : t.toInt ≤ 2000000) (hw1 : -1000000000000 ≤ w.toInt) (hw2 : w.toInt ≤ 1000000000000) : t < towB b w ↔ wayB b t < w := by
  have h0 : 0 ≤ (bTold b).toInt := hb.2.2.2.2.2.2.2.2.1
  have ht := hb.2.2.2.2.2.2.2.2.2.1
  have hnow := hb.2.2.2.2.2.2.2.2.2.2.1
  have hw0 := hb.2.2.2.2.2.2.2.2.2.2.2.1
  have hw3 := hb.2.2.2.2.2.2.2.2.2.2.2.2
  have main := toI_iff (F := Fb b) (P := Pb b) (Fb_s b) (fun k _ => (Pb_r hb k).1) w.toInt (d := t.toInt - (bTold b).toInt) (by omega) (by omega)
  rw [Int64.lt_iff_toInt_lt, Int64.lt_iff_toInt_lt, (way_int hb h1 h2).1, ← main]
  unfold towB towF toI
  rw [stg_int hb w 7 0 rfl]
  have hk := (stF_spec (Fb b) w.toInt 7 0).2.2.2
  generalize stF (Fb b) w.toInt 7 0 = k at hk
  obtain ⟨a1, a2, a3, a4, -⟩ := arr_int hb (k := k) (by omega)
  have pr := Pb_r hb k
  unfold towA toA
  have m1 : ((nI k).toInt64 * 20).toInt = 20 * k := by
    rw [i64_mul (by rw [nI_l64 (by omega), show (20 : Int64).toInt = 20 from rfl]; omega) (by rw [nI_l64 (by omega), show (20 : Int64).toInt = 20 from rfl]; omega), nI_l64 (by omega), show (20 : Int64).toInt = 20 from rfl]; omega
  have m2 : (bTold b + (nI k).toInt64 * 20).toInt = (bTold b).toInt + 20 * k := by
    rw [i64_add (by rw [m1]; omega) (by rw [m1]; omega), m1]
  have m3 : (w - bFw b k).toInt = w.toInt - Fb b k := by
    rw [i64_sub (by rw [a2]; omega) (by rw [a2]; omega), a2]
  by_cases c1 : 0 < w.toInt - Fb b k
  · rw [if_pos c1, if_pos (Int64.lt_iff_toInt_lt.mpr (by rw [m3]; simpa using c1))]
    by_cases c2 : Pb b k ≤ 0
    · rw [if_pos c2, if_pos (Int64.le_iff_toInt_le.mpr (by rw [a1]; simpa using c2))]
      rw [show (1000000000000 : Int64).toInt = 1000000000000 from rfl]
      omega
    · rw [if_neg c2, if_neg (fun q => c2 (by have := Int64.le_iff_toInt_le.mp q; rw [a1] at this; simpa using this))]
      have m4 : (w - bFw b k + bFp b k).toInt = w.toInt - Fb b k + Pb b k := by
        rw [i64_add (by rw [m3, a1]; omega) (by rw [m3, a1]; omega), m3, a1]
      have m5 : (w - bFw b k + bFp b k - 1).toInt = w.toInt - Fb b k + Pb b k - 1 := by
        rw [i64_sub (by rw [m4, show (1 : Int64).toInt = 1 from rfl]; omega) (by rw [m4, show (1 : Int64).toInt = 1 from rfl]; omega), m4]; rfl
      have m6 : ((w - bFw b k + bFp b k - 1) / bFp b k).toInt = (w.toInt - Fb b k + Pb b k - 1) / Pb b k := by
        rw [lg_ldiv_nonneg (by omega) (by omega), m5, a1]
      have d1 : 0 ≤ (w.toInt - Fb b k + Pb b k - 1) / Pb b k := Int.ediv_nonneg (by omega) (by omega)
      have d2 : (w.toInt - Fb b k + Pb b k - 1) / Pb b k ≤ w.toInt - Fb b k + Pb b k - 1 := Int.ediv_le_self _ (by omega)
      rw [i64_add (by rw [m2, m6]; omega) (by rw [m2, m6]; omega), m2, m6]
      omega
  · rw [if_neg c1, if_neg (fun q => c1 (by have := Int64.lt_iff_toInt_lt.mp q; rw [m3] at this; simpa using this)), m2]
    omega
end BINT
