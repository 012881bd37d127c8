/-! A millisecond: the whole state. -/
theorem moveN_at (B : Nat → BT) (t : Int64) (I : Nat → IT) : ∀ k i, moveN B t I k i = if i < k then (if iTurn (I i) = t then moveI B (I i) t else I i) else I i := by
  intro k
  induction k with
  | zero => intro i; rw [if_neg (Nat.not_lt_zero i)]; rfl
  | succ k ih =>
    intro i
    have hk : moveN B t I k k = I k := by rw [ih, if_neg (Nat.lt_irrefl k)]
    simp only [moveN]
    rw [hk]
    by_cases hi : i = k
    · subst hi
      rw [if_pos (Nat.lt_succ_self i)]
      by_cases h : iTurn (I i) = t
      · rw [if_pos h, if_pos h, va_up_self]
      · rw [if_neg h, if_neg h, hk]
    · have e : (if iTurn (I k) = t then va_up (moveN B t I k) k (moveI B (I k) t) else moveN B t I k) i = moveN B t I k i := by
        by_cases h : iTurn (I k) = t
        · rw [if_pos h, va_up_ne _ _ hi]
        · rw [if_neg h]
      rw [e, ih]
      by_cases h : i < k
      · rw [if_pos h, if_pos (show i < k + 1 by omega)]
      · rw [if_neg h, if_neg (show ¬ i < k + 1 by omega)]
theorem rtL_k (L : LA) (J : JA) (now : Int64) : ∀ b m, m ≠ 10 → rtL L J now b m = L m := by
  intro b
  induction b with
  | zero => intro m _; rfl
  | succ b ih =>
    intro m hm
    simp only [rtL]
    rw [va_up_ne _ _ hm, ih m hm]
theorem rateMF_congr {L L' : LA} {J : JA} (h4 : L' 4 = L 4) (h6 : L' 6 = L 6) (k : Nat) (t : Int64) : rateMF L' J k t = rateMF L J k t := by
  unfold rateMF gearMF gearQ
  rw [h4, h6]
theorem rtL_10 (L : LA) (J : JA) (now : Int64) : ∀ b k, k < b → rtL L J now b 10 k = rateMF L J k now := by
  intro b
  induction b with
  | zero => intro k h; exact absurd h (Nat.not_lt_zero k)
  | succ b ih =>
    intro k hk
    simp only [rtL]
    rw [va_up_self]
    by_cases h : k = b
    · subst h
      rw [pk_uLs]
      exact rateMF_congr (rtL_k L J now k 4 (by decide)) (rtL_k L J now k 6 (by decide)) k now
    · rw [pk_uLn h]
      exact ih k (by omega)
theorem plL_k (now : Int64) (L : LA) (J : JA) : ∀ k m, m ≠ 15 → plL now L J k m = L m := by
  intro k
  induction k with
  | zero => intro m _; rfl
  | succ k ih =>
    intro m hm
    simp only [plL]
    rw [va_up_ne _ _ hm, ih m hm]
theorem pl_at (now : Int64) (L : LA) (J : JA) : ∀ k i, vM (plL now L J k) J i = if 1 ≤ i ∧ i ≤ k then plV (L 10) now (vM L J i) else vM L J i := by
  intro k
  induction k with
  | zero => intro i; rw [if_neg (by omega)]; rfl
  | succ k ih =>
    intro i
    have e12 := plL_k now L J k 12 (by decide)
    have e13 := plL_k now L J k 13 (by decide)
    have e10 := plL_k now L J k 10 (by decide)
    by_cases hi : i = k + 1
    · subst hi
      rw [if_pos ⟨by omega, Nat.le_refl _⟩]
      have ek : vM (plL now L J k) J (k + 1) = vM L J (k + 1) := by rw [ih, if_neg (by omega)]
      have e15 : plL now L J k 15 (k + 1) = L 15 (k + 1) := congrArg vPl ek
      show (plL now L J k 12 (k + 1), plL now L J k 13 (k + 1), vp_updL (plL now L J k 15) (k + 1) (if thereF now (plL now L J k) J (k + 1) = 0 then plL now L J k 15 (k + 1) else plL now L J k 15 (k + 1) + plL now L J k 10 (oN J (k + 1))) (k + 1), J 14 (k + 1), J 16 (k + 1), J 17 (k + 1), J 18 (k + 1)) = _
      rw [pk_uLs, thV_eq, ek, e15, e10, e12, e13]
      rfl
    · have e : vM (plL now L J (k + 1)) J i = vM (plL now L J k) J i := by
        show (plL now L J k 12 i, plL now L J k 13 i, vp_updL (plL now L J k 15) (k + 1) _ i, J 14 i, J 16 i, J 17 i, J 18 i) = _
        rw [pk_uLn hi]
        rfl
      rw [e, ih]
      by_cases h : 1 ≤ i ∧ i ≤ k
      · rw [if_pos h, if_pos ⟨h.1, by omega⟩]
      · rw [if_neg h, if_neg (by omega)]
theorem go1_k (now : Int64) (L : LA) (J : JA) (i : Nat) : (∀ m, m ≠ 15 → (go1 now L J i).1 m = L m) ∧ (∀ m, m ≠ 14 → m ≠ 16 → m ≠ 17 → m ≠ 18 → (go1 now L J i).2 m = J m) := by
  unfold go1
  split
  · exact ⟨fun _ _ => rfl, fun _ _ _ _ _ => rfl⟩
  · split
    · exact ⟨fun _ _ => rfl, fun _ _ _ _ _ => rfl⟩
    · refine ⟨fun m h => va_up_ne _ _ h, fun m h1 h2 h3 h4 => ?_⟩
      show goJ J i m = J m
      unfold goJ
      rw [va_up_ne _ _ h4, va_up_ne _ _ h3, va_up_ne _ _ h1, va_up_ne _ _ h2]
theorem go1_at (now : Int64) (L : LA) (J : JA) (i i' : Nat) : vM (go1 now L J i).1 (go1 now L J i).2 i' = if i' = i then goV (L 3) (J 5) now (vM L J i) else vM L J i' := by
  unfold go1
  rw [thV_eq]
  by_cases h1 : thV now (vM L J i) = 0
  · rw [if_pos h1]
    by_cases hi : i' = i
    · subst hi
      rw [if_pos rfl]; unfold goV; rw [if_pos h1]
    · rw [if_neg hi]
  · rw [if_neg h1]
    by_cases h2 : L 15 i < L 3 (oN J i)
    · rw [if_pos h2]
      by_cases hi : i' = i
      · subst hi
        rw [if_pos rfl]; unfold goV; rw [if_neg h1, if_pos (show vPl (vM L J i') < L 3 (vOn (vM L J i')).toNatClampNeg from h2)]
      · rw [if_neg hi]
    · rw [if_neg h2]
      show (L 12 i', L 13 i', vp_updL (L 15) i (L 15 i - L 3 (oN J i)) i', upd (J 14) i (if J 5 (oN J i) = -1 then J 14 i else J 5 (oN J i)) i', upd (J 16) i (if J 5 (oN J i) = -1 then 1 else 0) i', upd (J 17) i 0 i', upd (J 18) i 0 i') = _
      by_cases hi : i' = i
      · subst hi
        rw [pk_uLs, pk_us, pk_us, pk_us, pk_us, if_pos rfl]
        unfold goV
        rw [if_neg h1, if_neg (show ¬ vPl (vM L J i') < L 3 (vOn (vM L J i')).toNatClampNeg from h2)]
        rfl
      · rw [pk_uLn hi, pk_un hi, pk_un hi, pk_un hi, pk_un hi, if_neg hi]
        rfl
theorem goN_k (now : Int64) (L : LA) (J : JA) : ∀ k, (∀ m, m ≠ 15 → (goN now L J k).1 m = L m) ∧ (∀ m, m ≠ 14 → m ≠ 16 → m ≠ 17 → m ≠ 18 → (goN now L J k).2 m = J m) := by
  intro k
  induction k with
  | zero => exact ⟨fun _ _ => rfl, fun _ _ _ _ _ => rfl⟩
  | succ k ih =>
    have h := go1_k now (goN now L J k).1 (goN now L J k).2 (k + 1)
    exact ⟨fun m h1 => (h.1 m h1).trans (ih.1 m h1), fun m h1 h2 h3 h4 => (h.2 m h1 h2 h3 h4).trans (ih.2 m h1 h2 h3 h4)⟩
theorem go_at (now : Int64) (L : LA) (J : JA) : ∀ k i, vM (goN now L J k).1 (goN now L J k).2 i = if 1 ≤ i ∧ i ≤ k then goV (L 3) (J 5) now (vM L J i) else vM L J i := by
  intro k
  induction k with
  | zero => intro i; rw [if_neg (by omega)]; rfl
  | succ k ih =>
    intro i
    show vM (go1 now (goN now L J k).1 (goN now L J k).2 (k + 1)).1 (go1 now (goN now L J k).1 (goN now L J k).2 (k + 1)).2 i = _
    rw [go1_at]
    by_cases hi : i = k + 1
    · subst hi
      rw [if_pos rfl, if_pos ⟨by omega, Nat.le_refl _⟩, ih, if_neg (by omega), (goN_k now L J k).1 3 (by decide), (goN_k now L J k).2 5 (by decide) (by decide) (by decide) (by decide)]
    · rw [if_neg hi, ih]
      by_cases h : 1 ≤ i ∧ i ≤ k
      · rw [if_pos h, if_pos ⟨h.1, by omega⟩]
      · rw [if_neg h, if_neg (by omega)]
theorem BAll.congr {B : Nat → BT} {nb : Nat} {T T' : Int64} {L L' : LA} {J J' : JA} (h : BAll B nb T L J) (hT : T.toInt ≤ T'.toInt) (hT2 : T'.toInt ≤ 1000000) (e3 : L' 3 = L 3) (e4 : L' 4 = L 4) (e6 : L' 6 = L 6) (e5 : J' 5 = J 5) (e7 : J' 7 = J 7) (e8 : J' 8 = J 8) (e9 : J' 9 = J 9) : BAll B nb T' L' J' := by
  refine ⟨h.1, fun k hk => ?_⟩
  obtain ⟨h1, h2, h3⟩ := h.2 k hk
  refine ⟨h1.mono hT hT2, ?_, h3⟩
  unfold BSim at h2 ⊢
  rw [e3, e4, e6, e5, e7, e8, e9]
  exact h2
def ASim (B : Nat → BT) (nb ni : Nat) (T : Int64) (s : MS) (I : Nat → IT) : Prop := ∀ i, i < ni → ISim B nb T (vM s.1 s.2.1 (i + 1)) (I i)
theorem look_all {B : Nat → BT} {nb ni : Nat} {T : Int64} {s : MS} {I : Nat → IT} {e : ET} (hB : BAll B nb T s.1 s.2.1) (hT2 : T.toInt ≤ 1000000) (hni : ni ≤ 60) (hall : ∀ i, i < ni → Mid B nb T (vM s.1 s.2.1 (i + 1)) (I i)) (hES : ESim e s) : ∀ k, k ≤ ni →
    (∀ i, i < k → ISim B nb T (vM (lkN T ni s k).1 (lkN T ni s k).2.1 (i + 1)) ((tellN B ni T I e k).1 i)) ∧ (∀ i, k ≤ i → vM (lkN T ni s k).1 (lkN T ni s k).2.1 (i + 1) = vM s.1 s.2.1 (i + 1) ∧ (tellN B ni T I e k).1 i = I i) ∧ ESim (tellN B ni T I e k).2 (lkN T ni s k) ∧ Keep s (lkN T ni s k) := by
  intro k
  induction k with
  | zero => intro _; exact ⟨fun i h => absurd h (Nat.not_lt_zero i), fun i _ => ⟨rfl, rfl⟩, hES, Keep.refl' s⟩
  | succ k ih =>
    intro hk
    obtain ⟨i1, i2, i3, i4⟩ := ih (by omega)
    have hB' : BAll B nb T (lkN T ni s k).1 (lkN T ni s k).2.1 := hB.congr (Int.le_refl _) hT2 (i4.1 3 (by decide)) (i4.1 4 (by decide)) (i4.1 6 (by decide)) (i4.2 5 (by decide) (by decide) (by decide) (by decide) (by decide)) (i4.2 7 (by decide) (by decide) (by decide) (by decide) (by decide)) (i4.2 8 (by decide) (by decide) (by decide) (by decide) (by decide)) (i4.2 9 (by decide) (by decide) (by decide) (by decide) (by decide))
    have hall' : ∀ i, i < ni → Mid B nb T (vM (lkN T ni s k).1 (lkN T ni s k).2.1 (i + 1)) ((tellN B ni T I e k).1 i) := by
      intro i hi
      by_cases h : i < k
      · exact (i1 i h).mid
      · obtain ⟨a, b⟩ := i2 i (by omega)
        rw [a, b]; exact hall i hi
    obtain ⟨j1, j2, j3, j4, j5⟩ := look_item hB' hT2 hni hall' i3 (k := k) (by omega)
    have et : tellN B ni T I e (k + 1) = (if iTurn ((tellN B ni T I e k).1 k) = T then tellO B (tellN B ni T I e k).1 ni T k (tellN B ni T I e k).2 else ((tellN B ni T I e k).1, (tellN B ni T I e k).2)) := rfl
    have el : lkN T ni s (k + 1) = lk1 T ni (k + 1) (lkN T ni s k) := rfl
    rw [et, el]
    refine ⟨fun i hi => ?_, fun i hi => ?_, j4, i4.trans j5⟩
    · by_cases h : i = k
      · subst h; exact j1
      · rw [j2 i h, j3 (i + 1) (by omega)]
        exact i1 i (by omega)
    · obtain ⟨a, b⟩ := i2 i (by omega)
      exact ⟨(j3 (i + 1) (by omega)).trans a, (j2 i (by omega)).trans b⟩
/-- what a millisecond leaves of the reference's arrays -/
def MsK (ni : Nat) (s s' : MS) : Prop := (∀ m, m ≠ 10 → m ≠ 15 → m ≠ 21 → s'.1 m = s.1 m) ∧ (∀ m, m ≠ 14 → m ≠ 16 → m ≠ 17 → m ≠ 18 → m ≠ 22 → m ≠ 23 → m ≠ 24 → s'.2.1 m = s.2.1 m) ∧ ∀ i, ni < i → vM s'.1 s'.2.1 i = vM s.1 s.2.1 i
theorem ms_sim {B : Nat → BT} {nb ni : Nat} {T : Int64} {s : MS} {I : Nat → IT} {e : ET} (hB : BAll B nb T s.1 s.2.1) (hT0 : 0 ≤ T.toInt) (hT : T.toInt < 1000000) (hni : ni ≤ 60) (hall : ASim B nb ni T s I) (hES : ESim e s) :
    ASim B nb ni (T + 1) (ms1 nb ni T s) (tellN B ni (T + 1) (moveN B (T + 1) I ni) e ni).1 ∧ ESim (tellN B ni (T + 1) (moveN B (T + 1) I ni) e ni).2 (ms1 nb ni T s) ∧ MsK ni s (ms1 nb ni T s) ∧ BAll B nb (T + 1) (ms1 nb ni T s).1 (ms1 nb ni T s).2.1 := by
  have et := t_succ hT0 hT
  obtain ⟨L, J, ed⟩ := s
  simp only at hB hES
  -- the reference's arrays before its look
  obtain ⟨L1, hL1⟩ : ∃ L1, L1 = rtL L J T nb := ⟨_, rfl⟩
  obtain ⟨L2, hL2⟩ : ∃ L2, L2 = plL T L1 J ni := ⟨_, rfl⟩
  obtain ⟨q, hq⟩ : ∃ q, q = goN (T + 1) L2 J ni := ⟨_, rfl⟩
  have em : ms1 nb ni T (L, J, ed) = lkN (T + 1) ni (q.1, q.2, ed) ni := by unfold ms1; rw [hq, hL2, hL1]
  have l1 : ∀ m, m ≠ 10 → L1 m = L m := fun m h => by rw [hL1]; exact rtL_k L J T nb m h
  have l2 : ∀ m, m ≠ 10 → m ≠ 15 → L2 m = L m := fun m h h' => by rw [hL2, plL_k T L1 J ni m h']; exact l1 m h
  have gk := goN_k (T + 1) L2 J ni
  rw [← hq] at gk
  have q1 : ∀ m, m ≠ 10 → m ≠ 15 → q.1 m = L m := fun m h h' => (gk.1 m h').trans (l2 m h h')
  have v1 : ∀ i, vM L1 J i = vM L J i := fun i => by unfold vM; rw [l1 12 (by decide), l1 13 (by decide), l1 15 (by decide)]
  have hall' : ∀ i, i < ni → Mid B nb (T + 1) (vM q.1 q.2 (i + 1)) (moveN B (T + 1) I ni i) := by
    intro i hi
    rw [moveN_at, if_pos hi, hq, go_at, if_pos ⟨by omega, by omega⟩, l2 3 (by decide) (by decide), hL2, pl_at, if_pos ⟨by omega, by omega⟩, v1]
    exact mid_of hB hT0 hT (hall i hi) (fun k hk => by rw [hL1]; exact rtL_10 L J T nb k hk)
  have hB' : BAll B nb (T + 1) q.1 q.2 := hB.congr (by omega) (by omega) (q1 3 (by decide) (by decide)) (q1 4 (by decide) (by decide)) (q1 6 (by decide) (by decide)) (gk.2 5 (by decide) (by decide) (by decide) (by decide)) (gk.2 7 (by decide) (by decide) (by decide) (by decide)) (gk.2 8 (by decide) (by decide) (by decide) (by decide)) (gk.2 9 (by decide) (by decide) (by decide) (by decide))
  have hES' : ESim e (q.1, q.2, ed) := by
    unfold ESim at hES ⊢
    simp only at hES ⊢
    rw [q1 21 (by decide) (by decide), gk.2 22 (by decide) (by decide) (by decide) (by decide), gk.2 23 (by decide) (by decide) (by decide) (by decide), gk.2 24 (by decide) (by decide) (by decide) (by decide)]
    exact hES
  obtain ⟨a1, a2, a3, a4⟩ := look_all (s := (q.1, q.2, ed)) hB' (by omega) hni hall' hES' ni (Nat.le_refl _)
  rw [em]
  refine ⟨a1, a3, ⟨fun m h1 h2 h3 => (a4.1 m h3).trans (q1 m h1 h2), fun m h1 h2 h3 h4 h5 h6 h7 => (a4.2 m h3 h4 h5 h6 h7).trans (gk.2 m h1 h2 h3 h4), fun i hi => ?_⟩, ?_⟩
  · obtain ⟨i', rfl⟩ : ∃ i', i = i' + 1 := ⟨i - 1, by omega⟩
    rw [(a2 i' (by omega)).1]
    show vM q.1 q.2 (i' + 1) = vM L J (i' + 1)
    rw [hq, go_at, if_neg (by omega), hL2, pl_at, if_neg (by omega), v1]
  · exact hB'.congr (Int.le_refl _) (by omega) (a4.1 3 (by decide)) (a4.1 4 (by decide)) (a4.1 6 (by decide)) (a4.2 5 (by decide) (by decide) (by decide) (by decide) (by decide)) (a4.2 7 (by decide) (by decide) (by decide) (by decide) (by decide)) (a4.2 8 (by decide) (by decide) (by decide) (by decide) (by decide)) (a4.2 9 (by decide) (by decide) (by decide) (by decide) (by decide))
