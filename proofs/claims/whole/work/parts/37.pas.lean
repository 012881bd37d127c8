/-! Time passes: the class's turns and the reference's milliseconds. -/
def rnk (x : IT) : Nat := match iBt x with
  | none => 0
  | some j => if iWt x = 0 then 3 * (12 - j) - (if iFt x = 0 then 0 else 1) - (if iEt x = 0 then 0 else 1) else 3 * (12 - j) + 1
def muN (I : Nat → IT) : Nat → Nat
  | 0 => 0
  | k + 1 => muN I k + rnk (I k)
theorem rnk_le (x : IT) : rnk x ≤ 37 := by
  unfold rnk
  split
  · omega
  · split <;> omega
theorem muN_le (I : Nat → IT) (k : Nat) : muN I k ≤ 37 * k := by
  induction k with
  | zero => exact Nat.le_refl _
  | succ k ih => have := rnk_le (I k); simp only [muN]; omega
theorem muN_mono {I I' : Nat → IT} : ∀ k, (∀ i, i < k → rnk (I' i) ≤ rnk (I i)) → muN I' k ≤ muN I k := by
  intro k
  induction k with
  | zero => intro _; exact Nat.le_refl _
  | succ k ih =>
    intro h
    have h1 := ih (fun i hi => h i (by omega))
    have h2 := h k (Nat.lt_succ_self k)
    simp only [muN]
    omega
theorem muN_lt {I I' : Nat → IT} : ∀ k, (∀ i, i < k → rnk (I' i) ≤ rnk (I i)) → (∃ i, i < k ∧ rnk (I' i) < rnk (I i)) → muN I' k < muN I k := by
  intro k
  induction k with
  | zero => intro _ ⟨i, hi, _⟩; exact absurd hi (Nat.not_lt_zero i)
  | succ k ih =>
    intro h ⟨i, hi, hlt⟩
    have h2 := h k (Nat.lt_succ_self k)
    simp only [muN]
    by_cases hik : i = k
    · subst hik
      have h1 := muN_mono i (fun q hq => h q (by omega))
      omega
    · have h1 := ih (fun q hq => h q (by omega)) ⟨i, by omega, hlt⟩
      omega
theorem rnk_aim (B : Nat → BT) (x : IT) : rnk (aimI B x) = rnk x := by
  unfold aimI
  cases h : iBt x with
  | none => simp only
  | some j => simp only; unfold rnk; rw [h]
theorem tellO_other {B : Nat → BT} {I : Nat → IT} {ni : Nat} {t : Int64} {k i : Nat} {e : ET} (h : i ≠ k) : (tellO B I ni t k e).1 i = I i := by
  unfold tellO
  cases iBt (I k) with
  | none => rfl
  | some j => exact va_up_ne _ _ h
theorem tellN_other {B : Nat → BT} {I : Nat → IT} {ni : Nat} {t : Int64} {e : ET} : ∀ k i, k ≤ i → (tellN B ni t I e k).1 i = I i := by
  intro k
  induction k with
  | zero => intro i _; rfl
  | succ k ih =>
    intro i hi
    simp only [tellN]
    split
    · rw [tellO_other (by omega)]; exact ih i (by omega)
    · exact ih i (by omega)
theorem tellN_stable {B : Nat → BT} {I : Nat → IT} {ni : Nat} {t : Int64} {e : ET} {i : Nat} : ∀ k, i < k → (tellN B ni t I e k).1 i = (tellN B ni t I e (i + 1)).1 i := by
  intro k
  induction k with
  | zero => intro h; exact absurd h (Nat.not_lt_zero i)
  | succ k ih =>
    intro h
    by_cases hik : i = k
    · subst hik; rfl
    · have e1 : (tellN B ni t I e (k + 1)).1 i = (tellN B ni t I e k).1 i := by
        simp only [tellN]
        split
        · exact tellO_other hik
        · rfl
      rw [e1]; exact ih (by omega)
theorem tellN_id {B : Nat → BT} {I : Nat → IT} {ni : Nat} {t : Int64} {e : ET} (h : ∀ i, i < ni → ¬ iTurn (I i) = t) : ∀ k, k ≤ ni → tellN B ni t I e k = (I, e) := by
  intro k
  induction k with
  | zero => intro _; rfl
  | succ k ih =>
    intro hk
    simp only [tellN]
    rw [ih (by omega), if_neg (h k (by omega))]
theorem moveN_id {B : Nat → BT} {I : Nat → IT} {ni : Nat} {t : Int64} (h : ∀ i, i < ni → ¬ iTurn (I i) = t) : moveN B t I ni = I := by
  funext i
  rw [moveN_at]
  split
  · next hi => rw [if_neg (h i hi)]
  · rfl
/-- an edge is told when it is an item's turn -/
theorem tell_m {B : Nat → BT} {nb : Nat} {T : Int64} {v : MIT} {x : IT} {j : Nat} {now : Int} (hb : BRg (B j) now) (hj12 : j < 12) (hT : (bTold (B j)).toInt ≤ T.toInt) (hT2 : T.toInt ≤ 1000000) (hx : lenV x) (ho : OnB B nb T v x j) {I : Nat → IT} {ni i : Nat} {e : ET} (hI : I i = x) : rnk (tel2 B x T i j (tel1 B I ni T i j e)).1 ≤ rnk x ∧ (iTurn x = T → rnk (tel2 B x T i j (tel1 B I ni T i j e)).1 < rnk x) := by
  have ho' := ho
  obtain ⟨o1, hj, o3, o4, o5, o6, o7, o8, o9, o10, o11, o12, o13, o14, o15⟩ := ho
  have hpl := on_place hb hT hT2 ho'
  have hs := sen_int hb
  have hl1 := hb.2.1
  have hl2 := hb.2.2.1
  have epast : (wayB (B j) T - iStart x - bSen (B j)).toInt = (vPl v).toInt - (bSen (B j)).toInt := by
    rw [i64_sub (by rw [hpl.2]; omega) (by rw [hpl.2]; omega), hpl.2]
  have hti := turn_iff (L := fun _ _ => 0) (J := fun _ _ => 0) hb hx ho' (t := T) hT (by omega) hT (by omega)
  rw [aim_int hb hx] at hti
  have hpp : (wayB (B j) T).toInt - (iStart x).toInt = (vPl v).toInt := by omega
  rw [hpp] at hti
  have hnt : iTurn x = T → ¬ T < iTurn x := fun q h => by rw [q] at h; exact Int64.lt_irrefl h
  have m0 : rnk x = 3 * (12 - j) - (if iFt x = 0 then 0 else 1) - (if iEt x = 0 then 0 else 1) := by unfold rnk; rw [o3]; simp only; rw [if_pos o1]
  have mf : rnk (frI x) = 3 * (12 - j) - 1 - (if iEt x = 0 then 0 else 1) := by
    unfold rnk
    rw [show iBt (frI x) = some j from o3]
    simp only
    rw [if_pos (show iWt (frI x) = 0 from o1), if_neg (show ¬ iFt (frI x) = 0 by show ¬ (1 : Int32) = 0; decide)]
    rfl
  have men : ∀ y : IT, iBt y = some j → iWt y = 0 → ¬ iFt y = 0 → rnk (enI y) = 3 * (12 - j) - 1 - 1 := by
    intro y h1 h2 h3
    unfold rnk
    rw [show iBt (enI y) = some j from h1]
    simp only
    rw [if_pos (show iWt (enI y) = 0 from h2), if_neg (show ¬ iFt (enI y) = 0 from h3), if_neg (show ¬ iEt (enI y) = 0 by show ¬ (1 : Int32) = 0; decide)]
  unfold tel1
  rw [hI]
  by_cases d1 : iFt x = 0
  · have et0 := o11 d1
    rw [if_pos d1]
    by_cases d2 : wayB (B j) T - iStart x - bSen (B j) < 0
    · rw [if_pos d2]
      unfold tel2
      rw [if_pos (show iFt x = 0 from d1)]
      refine ⟨Nat.le_refl _, fun q => ?_⟩
      exfalso
      refine hnt q (hti.mpr ?_)
      rw [if_pos d1]
      have := Int64.lt_iff_toInt_lt.mp d2
      rw [epast, show (0 : Int64).toInt = 0 from rfl] at this
      omega
    · rw [if_neg d2]
      have hm : rnk x = 3 * (12 - j) := by rw [m0, if_pos d1, if_pos et0]; omega
      unfold tel2
      simp only
      rw [if_neg (show ¬ iFt (frI x) = 0 by show ¬ (1 : Int32) = 0; decide), if_pos (show iEt (frI x) = 0 from et0)]
      split
      · simp only
        rw [mf, if_pos et0, hm]; omega
      · simp only
        rw [men (frI x) o3 o1 (by show ¬ (1 : Int32) = 0; decide), hm]; omega
  · rw [if_neg d1]
    unfold tel2
    rw [if_neg (show ¬ iFt x = 0 from d1)]
    by_cases d2 : iEt x = 0
    · rw [if_pos (show iEt x = 0 from d2)]
      have hm : rnk x = 3 * (12 - j) - 1 := by rw [m0, if_neg d1, if_pos d2]; omega
      by_cases d3 : wayB (B j) T - iStart x - bSen (B j) < iLen x
      · rw [if_pos d3]
        refine ⟨Nat.le_refl _, fun q => ?_⟩
        exfalso
        refine hnt q (hti.mpr ?_)
        rw [if_neg d1, if_pos d2]
        have := Int64.lt_iff_toInt_lt.mp d3
        rw [epast] at this
        split <;> omega
      · rw [if_neg d3]
        simp only
        rw [men x o3 o1 d1, hm]; omega
    · rw [if_neg (show ¬ iEt x = 0 from d2)]
      refine ⟨Nat.le_refl _, fun q => ?_⟩
      exfalso
      refine hnt q (hti.mpr ?_)
      rw [if_neg d1, if_neg d2]
      exact o14
/-- a move lowers an item's number of turns, or leaves it as it is for an edge -/
theorem move_m {B : Nat → BT} {nb : Nat} {T : Int64} {L : LA} {J : JA} (hB : BAll B nb T L J) {v : MIT} {x : IT} (h : ISim B nb T v x) (t : Int64) : moveI B x t = x ∨ rnk (moveI B x t) < rnk x := by
  have hn := hB.1
  obtain ⟨-, -, h⟩ := h
  rcases h with hw | ⟨j, ho, -⟩ | hl
  · obtain ⟨w1, ⟨j, hj, hbt, -⟩, -⟩ := hw
    right
    unfold moveI
    rw [hbt]
    simp only
    rw [if_neg (by rw [w1]; decide)]
    unfold rnk comeI
    rw [hbt]
    simp only
    rw [if_pos trivial, if_pos trivial, if_neg (by rw [w1]; decide)]
    omega
  · obtain ⟨o1, hj, o3, -, -, -, -, -, o9, o10, o11, -⟩ := ho
    have m0 : 3 * (12 - j) - 2 ≤ rnk x := by
      unfold rnk; rw [o3]; simp only; rw [if_pos o1]
      split <;> split <;> omega
    unfold moveI
    rw [o3]
    simp only
    rw [if_pos o1]
    split
    · right
      cases hq : bOnto (B j) with
      | none =>
        simp only
        show (0 : Nat) < rnk x
        omega
      | some k =>
        obtain ⟨hjk, hk⟩ := (hB.2 j hj).2.2 k hq
        simp only
        have : rnk (comeI B x k t (wayB (B j) t - iStart x - bLen (B j))) = 3 * (12 - k) := by
          unfold rnk comeI
          simp only
          rw [if_pos trivial, if_pos trivial]; omega
        rw [this]; omega
    · left; rfl
  · left
    unfold moveI
    rw [hl.1]
noncomputable def clN (B : Nat → BT) (ni : Nat) : Nat → Int64 → (Nat → IT) → ET → (Nat → IT) × ET
  | 0, _, I, e => (I, e)
  | f + 1, T, I, e => clN B ni f (T + 1) (tellN B ni (T + 1) (moveN B (T + 1) I ni) e ni).1 (tellN B ni (T + 1) (moveN B (T + 1) I ni) e ni).2
theorem nextN_le (I : Nat → IT) : ∀ k i, i < k → nextN I k ≤ iTurn (I i) := by
  intro k
  induction k with
  | zero => intro i h; exact absurd h (Nat.not_lt_zero i)
  | succ k ih =>
    intro i hi
    simp only [nextN]
    by_cases h : nextN I k ≤ iTurn (I k)
    · rw [if_pos h]
      by_cases hik : i = k
      · subst hik; exact h
      · exact ih i (by omega)
    · rw [if_neg h]
      by_cases hik : i = k
      · subst hik; exact Int64.le_refl _
      · exact Int64.le_trans (Int64.le_of_lt (Int64.not_le.mp h)) (ih i (by omega))
theorem nextN_in (I : Nat → IT) : ∀ k, nextN I k = 1000000000000 ∨ ∃ i, i < k ∧ nextN I k = iTurn (I i) := by
  intro k
  induction k with
  | zero => exact Or.inl rfl
  | succ k ih =>
    simp only [nextN]
    by_cases h : nextN I k ≤ iTurn (I k)
    · rw [if_pos h]
      rcases ih with h' | ⟨i, hi, h'⟩
      · exact Or.inl h'
      · exact Or.inr ⟨i, by omega, h'⟩
    · rw [if_neg h]
      exact Or.inr ⟨k, Nat.lt_succ_self k, rfl⟩
theorem turn_gt {B : Nat → BT} {nb ni : Nat} {T : Int64} {s : MS} {I : Nat → IT} (h : ASim B nb ni T s I) (hT : T.toInt ≤ 1000000) {i : Nat} (hi : i < ni) : T < iTurn (I i) := by
  obtain ⟨-, -, h⟩ := h i hi
  rcases h with hw | ⟨j, -, ht⟩ | hl
  · exact hw.2.2.2.1
  · exact ht
  · rw [hl.2.1, Int64.lt_iff_toInt_lt, show (1000000000000 : Int64).toInt = 1000000000000 from rfl]; omega
theorem cs_mu {B : Nat → BT} {nb ni : Nat} {T : Int64} {s : MS} {I : Nat → IT} {e : ET} (hB : BAll B nb T s.1 s.2.1) (hT0 : 0 ≤ T.toInt) (hT : T.toInt < 1000000) (hni : ni ≤ 60) (hall : ASim B nb ni T s I) (hex : ∃ i, i < ni ∧ iTurn (I i) = T + 1) : muN (tellN B ni (T + 1) (moveN B (T + 1) I ni) e ni).1 ni < muN I ni := by
  have hn := hB.1
  have et := t_succ hT0 hT
  have key : ∀ i, i < ni → rnk ((tellN B ni (T + 1) (moveN B (T + 1) I ni) e ni).1 i) ≤ rnk (I i) ∧ (iTurn (I i) = T + 1 → rnk ((tellN B ni (T + 1) (moveN B (T + 1) I ni) e ni).1 i) < rnk (I i)) := by
    intro i hi
    rw [tellN_stable ni hi]
    have hmid := mid_of hB hT0 hT (hall i hi) (r := fun k => rateMF s.1 s.2.1 k T) (fun k _ => rfl)
    have hmv : moveN B (T + 1) I ni i = if iTurn (I i) = T + 1 then moveI B (I i) (T + 1) else I i := by rw [moveN_at, if_pos hi]
    have hx1 : (tellN B ni (T + 1) (moveN B (T + 1) I ni) e i).1 i = moveN B (T + 1) I ni i := tellN_other i i (Nat.le_refl _)
    have e1 : (tellN B ni (T + 1) (moveN B (T + 1) I ni) e (i + 1)).1 i = (if iTurn (moveN B (T + 1) I ni i) = T + 1 then (tellO B (tellN B ni (T + 1) (moveN B (T + 1) I ni) e i).1 ni (T + 1) i (tellN B ni (T + 1) (moveN B (T + 1) I ni) e i).2).1 i else moveN B (T + 1) I ni i) := by
      simp only [tellN]
      rw [hx1]
      split
      · rfl
      · exact hx1
    rw [e1]
    rw [← hmv] at hmid
    generalize hx' : moveN B (T + 1) I ni i = x' at hmv hmid hx1
    -- the telling
    have tl : rnk (if iTurn x' = T + 1 then (tellO B (tellN B ni (T + 1) (moveN B (T + 1) I ni) e i).1 ni (T + 1) i (tellN B ni (T + 1) (moveN B (T + 1) I ni) e i).2).1 i else x') ≤ rnk x' ∧ (iTurn x' = T + 1 → (∃ j, iBt x' = some j) → rnk (if iTurn x' = T + 1 then (tellO B (tellN B ni (T + 1) (moveN B (T + 1) I ni) e i).1 ni (T + 1) i (tellN B ni (T + 1) (moveN B (T + 1) I ni) e i).2).1 i else x') < rnk x') := by
      by_cases hc : iTurn x' = T + 1
      · rw [if_pos hc]
        obtain ⟨-, hln, hm⟩ := hmid
        rcases hm with hw | ⟨j, ho, -⟩ | hl
        · exfalso
          have := hw.2.2.2.1
          rw [hc] at this
          exact Int64.lt_irrefl this
        · have hj := ho.2.1
          obtain ⟨hbr, -, -⟩ := hB.2 j hj
          have := tell_m (hbr.mono (now' := (T + 1).toInt) (by omega) (by omega)) (by omega) (by have := hbr.2.2.2.2.2.2.2.2.2.1; omega) (by omega) hln ho (I := (tellN B ni (T + 1) (moveN B (T + 1) I ni) e i).1) (ni := ni) (i := i) (e := (tellN B ni (T + 1) (moveN B (T + 1) I ni) e i).2) hx1
          have eo : (tellO B (tellN B ni (T + 1) (moveN B (T + 1) I ni) e i).1 ni (T + 1) i (tellN B ni (T + 1) (moveN B (T + 1) I ni) e i).2).1 i = aimI B (tel2 B x' (T + 1) i j (tel1 B (tellN B ni (T + 1) (moveN B (T + 1) I ni) e i).1 ni (T + 1) i j (tellN B ni (T + 1) (moveN B (T + 1) I ni) e i).2)).1 := by
            unfold tellO
            rw [hx1, ho.2.2.1]
            simp only
            rw [va_up_self]
            unfold tellF
            rw [hx1]
          rw [eo, rnk_aim]
          exact ⟨this.1, fun _ _ => this.2 hc⟩
        · have eo : (tellO B (tellN B ni (T + 1) (moveN B (T + 1) I ni) e i).1 ni (T + 1) i (tellN B ni (T + 1) (moveN B (T + 1) I ni) e i).2).1 i = x' := by
            unfold tellO
            rw [hx1, hl.1]
            exact hx1
          rw [eo]
          exact ⟨Nat.le_refl _, fun _ ⟨j, hj⟩ => by rw [hl.1] at hj; cases hj⟩
      · rw [if_neg hc]
        exact ⟨Nat.le_refl _, fun q => absurd q hc⟩
    by_cases hc : iTurn (I i) = T + 1
    · rw [if_pos hc] at hmv
      rcases move_m hB (hall i hi) (T + 1) with h | h
      · rw [h] at hmv
        have hne : ∃ j, iBt (I i) = some j := by
          obtain ⟨-, -, hm⟩ := hall i hi
          rcases hm with hw | ⟨j, ho, -⟩ | hl
          · obtain ⟨-, ⟨j, -, hb, -⟩, -⟩ := hw; exact ⟨j, hb⟩
          · exact ⟨j, ho.2.2.1⟩
          · exfalso
            have := congrArg Int64.toInt (hl.2.1.symm.trans hc)
            rw [show (1000000000000 : Int64).toInt = 1000000000000 from rfl, et] at this
            omega
        have h2 := tl.2 (by rw [hmv]; exact hc) (by rw [hmv]; exact hne)
        rw [hmv] at h2 ⊢
        exact ⟨Nat.le_of_lt h2, fun _ => h2⟩
      · rw [← hmv] at h
        exact ⟨by omega, fun _ => by omega⟩
    · rw [if_neg hc] at hmv
      have h2 := tl.1
      rw [hmv] at h2 ⊢
      exact ⟨h2, fun q => absurd q hc⟩
  obtain ⟨i, hi, hti⟩ := hex
  exact muN_lt ni (fun q hq => (key q hq).1) ⟨i, hi, (key i hi).2 hti⟩
theorem msN_sim {B : Nat → BT} {nb ni : Nat} (hni : ni ≤ 60) {t : Int64} (ht : t.toInt ≤ 1000000) : ∀ (f : Nat) (T : Int64) (s : MS) (I : Nat → IT) (e : ET), 0 ≤ T.toInt → T.toInt + f = t.toInt → BAll B nb T s.1 s.2.1 → ASim B nb ni T s I → ESim e s →
    ASim B nb ni t (msN nb ni f T s) (clN B ni f T I e).1 ∧ ESim (clN B ni f T I e).2 (msN nb ni f T s) ∧ MsK ni s (msN nb ni f T s) ∧ BAll B nb t (msN nb ni f T s).1 (msN nb ni f T s).2.1 ∧ (msN nb ni f T s).2.2 ≤ s.2.2 + 120 * f := by
  intro f
  induction f with
  | zero =>
    intro T s I e h0 hT hB hA hE
    have : T = t := Int64.toInt_inj.mp (by omega)
    subst this
    exact ⟨hA, hE, ⟨fun _ _ _ _ => rfl, fun _ _ _ _ _ _ _ _ => rfl, fun _ _ => rfl⟩, hB, Nat.le_refl _⟩
  | succ f ih =>
    intro T s I e h0 hT hB hA hE
    have et := t_succ h0 (show T.toInt < 1000000 by omega)
    obtain ⟨a1, a2, a3, a4⟩ := ms_sim hB h0 (by omega) hni hA hE
    obtain ⟨b1, b2, b3, b4, b5⟩ := ih (T + 1) (ms1 nb ni T s) _ _ (by omega) (by omega) a4 a1 a2
    have hn := ms1_n nb ni T s
    refine ⟨b1, b2, ⟨fun m h1 h2 h3 => (b3.1 m h1 h2 h3).trans (a3.1 m h1 h2 h3), fun m h1 h2 h3 h4 h5 h6 h7 => (b3.2.1 m h1 h2 h3 h4 h5 h6 h7).trans (a3.2.1 m h1 h2 h3 h4 h5 h6 h7), fun i hi => (b3.2.2 i hi).trans (a3.2.2 i hi)⟩, b4, ?_⟩
    show (msN nb ni f (T + 1) (ms1 nb ni T s)).2.2 ≤ _
    omega
theorem pas_cl {B : Nat → BT} {nb ni : Nat} (hni : ni ≤ 60) {t : Int64} (ht : t.toInt ≤ 1000000) : ∀ (f : Nat) (u : Nat) (T : Int64) (s : MS) (I : Nat → IT) (e : ET), 0 ≤ T.toInt → T.toInt + f = t.toInt → BAll B nb T s.1 s.2.1 → ASim B nb ni T s I → ESim e s → muN I ni ≤ u → pasN B ni t u I e = clN B ni f T I e := by
  intro f
  induction f with
  | zero =>
    intro u T s I e h0 hT hB hA hE hu
    have : T = t := Int64.toInt_inj.mp (by omega)
    subst this
    have hnx : ¬ nextN I ni ≤ T := by
      intro q
      rcases nextN_in I ni with h | ⟨i, hi, h⟩
      · rw [h, Int64.le_iff_toInt_le, show (1000000000000 : Int64).toInt = 1000000000000 from rfl] at q; omega
      · rw [h] at q
        have := turn_gt hA ht hi
        exact Int64.lt_irrefl (Int64.lt_of_lt_of_le this q)
    cases u with
    | zero => rfl
    | succ u => simp only [pasN, clN]; rw [if_neg hnx]
  | succ f ih =>
    intro u T s I e h0 hT hB hA hE hu
    have et := t_succ h0 (show T.toInt < 1000000 by omega)
    obtain ⟨a1, a2, a3, a4⟩ := ms_sim hB h0 (by omega) hni hA hE
    by_cases hex : ∃ i, i < ni ∧ iTurn (I i) = T + 1
    · have hmu := cs_mu (e := e) hB h0 (by omega) hni hA hex
      obtain ⟨i, hi, hti⟩ := hex
      have hnx : nextN I ni = T + 1 := by
        have h1 := nextN_le I ni i hi
        rw [hti] at h1
        rcases nextN_in I ni with h | ⟨i', hi', h⟩
        · rw [h, Int64.le_iff_toInt_le, show (1000000000000 : Int64).toInt = 1000000000000 from rfl] at h1; omega
        · have h2 := Int64.lt_iff_toInt_lt.mp (turn_gt hA (by omega) hi')
          rw [← h] at h2
          have h3 := Int64.le_iff_toInt_le.mp h1
          exact Int64.toInt_inj.mp (by omega)
      cases u with
      | zero => omega
      | succ u =>
        simp only [pasN, clN]
        rw [if_pos (by rw [hnx, Int64.le_iff_toInt_le]; omega), hnx]
        exact ih u (T + 1) (ms1 nb ni T s) _ _ (by omega) (by omega) a4 a1 a2 (by omega)
    · have hno : ∀ i, i < ni → ¬ iTurn (I i) = T + 1 := fun i hi q => hex ⟨i, hi, q⟩
      rw [moveN_id hno, tellN_id hno ni (Nat.le_refl _)] at a1 a2
      have h2 := ih u (T + 1) (ms1 nb ni T s) I e (by omega) (by omega) a4 a1 a2 hu
      rw [h2]
      simp only [clN]
      rw [moveN_id hno, tellN_id hno ni (Nat.le_refl _)]
/-- time passes alike -/
theorem pas_sim {B : Nat → BT} {nb ni : Nat} (hni : ni ≤ 60) {t T : Int64} (h0 : 0 ≤ T.toInt) (hTt : T ≤ t) (ht : t.toInt ≤ 1000000) {s : MS} {I : Nat → IT} {e : ET} (hB : BAll B nb T s.1 s.2.1) (hA : ASim B nb ni T s I) (hE : ESim e s) :
    ASim B nb ni t (msN nb ni (t.toInt - T.toInt).toNat T s) (pasN B ni t 100000 I e).1 ∧ ESim (pasN B ni t 100000 I e).2 (msN nb ni (t.toInt - T.toInt).toNat T s) ∧ MsK ni s (msN nb ni (t.toInt - T.toInt).toNat T s) ∧ BAll B nb t (msN nb ni (t.toInt - T.toInt).toNat T s).1 (msN nb ni (t.toInt - T.toInt).toNat T s).2.1 ∧ (msN nb ni (t.toInt - T.toInt).toNat T s).2.2 ≤ s.2.2 + 120 * (t.toInt - T.toInt).toNat := by
  have hle := Int64.le_iff_toInt_le.mp hTt
  have hmu := muN_le I ni
  rw [pas_cl hni ht (t.toInt - T.toInt).toNat 100000 T s I e h0 (by omega) hB hA hE (by omega)]
  exact msN_sim hni ht _ T s I e h0 (by omega) hB hA hE
