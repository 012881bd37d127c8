/-! A belt's way, over the whole numbers: F k the way at the beginning of stage k, P k its pace, d the time since the telling. -/
def stI (d : Int) : Nat := if d / 20 < 8 then (d / 20).toNat else 7
def WI (F P : Nat → Int) (d : Int) : Int := F (stI d) + (d - 20 * stI d) * P (stI d)
def stF (F : Nat → Int) (w : Int) : Nat → Nat → Nat
  | 0, k => k
  | n + 1, k => if F (k + 1) < w then stF F w n (k + 1) else k
def toA (F P : Nat → Int) (w : Int) (k : Nat) : Int := if 0 < w - F k then (if P k ≤ 0 then 1000000000000 else 20 * k + (w - F k + P k - 1) / P k) else 20 * k
def toI (F P : Nat → Int) (w : Int) : Int := toA F P w (stF F w 7 0)
theorem stI_lt (d : Int) : stI d < 8 := by
  unfold stI
  split <;> omega
theorem stI_eq {d : Int} {k : Nat} (hk : k < 7) (h1 : 20 * (k : Int) ≤ d) (h2 : d < 20 * (k : Int) + 20) : stI d = k := by
  unfold stI
  rw [if_pos (by omega)]
  omega
theorem stI_7 {d : Int} (h : 140 ≤ d) : stI d = 7 := by
  unfold stI
  split <;> omega
section WAY
variable {F P : Nat → Int} (hF : ∀ k, k < 7 → F (k + 1) = F k + 20 * P k) (hP : ∀ k, k < 8 → 0 ≤ P k)
theorem WI_at {k : Nat} (hF : ∀ k, k < 7 → F (k + 1) = F k + 20 * P k) (hk : k < 7) {r : Int} (h0 : 0 ≤ r) (h1 : r ≤ 20) : WI F P (20 * k + r) = F k + r * P k := by
  by_cases hr : r = 20
  · subst hr
    by_cases h6 : k = 6
    · subst h6
      have e : stI (20 * ((6 : Nat) : Int) + 20) = 7 := stI_7 (by decide)
      unfold WI
      rw [e]
      have := hF 6 (by decide)
      simp at this ⊢
      omega
    · have e : stI (20 * (k : Int) + 20) = k + 1 := stI_eq (k := k + 1) (by omega) (by omega) (by omega)
      unfold WI
      rw [e, hF k hk]
      have : (20 * (k : Int) + 20 - 20 * ((k + 1 : Nat) : Int)) = 0 := by omega
      rw [this]
      omega
  · have e : stI (20 * (k : Int) + r) = k := stI_eq hk (by omega) (by omega)
    unfold WI
    rw [e]
    congr 2
    omega
theorem WI_at7 {r : Int} (h0 : 0 ≤ r) : WI F P (140 + r) = F 7 + r * P 7 := by
  have e : stI (140 + r) = 7 := stI_7 (by omega)
  unfold WI
  rw [e]
  congr 2
  omega
theorem WI_succ (hF : ∀ k, k < 7 → F (k + 1) = F k + 20 * P k) {d : Int} (hd : 0 ≤ d) : WI F P (d + 1) = WI F P d + P (stI d) := by
  by_cases h7 : 140 ≤ d
  · obtain ⟨r, rfl⟩ : ∃ r, d = 140 + r := ⟨d - 140, by omega⟩
    rw [show 140 + r + 1 = 140 + (r + 1) by omega, WI_at7 (by omega), WI_at7 (by omega), stI_7 h7, Int.add_mul]
    omega
  · obtain ⟨k, hk⟩ : ∃ k : Nat, (k : Int) = d / 20 := ⟨(d / 20).toNat, by omega⟩
    obtain ⟨r, hr⟩ : ∃ r, r = d - 20 * k := ⟨_, rfl⟩
    have hd2 : d = 20 * k + r := by omega
    rw [hd2, show 20 * (k : Int) + r + 1 = 20 * k + (r + 1) by omega, WI_at hF (by omega) (by omega) (by omega), WI_at hF (by omega) (by omega) (by omega), stI_eq (k := k) (by omega) (by omega) (by omega), Int.add_mul]
    omega
theorem WI_mono (hF : ∀ k, k < 7 → F (k + 1) = F k + 20 * P k) (hP : ∀ k, k < 8 → 0 ≤ P k) {d : Int} (hd : 0 ≤ d) (n : Nat) : WI F P d ≤ WI F P (d + n) := by
  induction n with
  | zero => simp
  | succ n ih =>
    have := WI_succ (F := F) (P := P) hF (d := d + n) (by omega)
    have hp := hP (stI (d + n)) (stI_lt _)
    rw [show d + ((n + 1 : Nat) : Int) = d + n + 1 by omega]
    omega
theorem WI_le (hF : ∀ k, k < 7 → F (k + 1) = F k + 20 * P k) (hP : ∀ k, k < 8 → 0 ≤ P k) {d e : Int} (hd : 0 ≤ d) (h : d ≤ e) : WI F P d ≤ WI F P e := by
  have := WI_mono (F := F) (P := P) hF hP hd (e - d).toNat
  rwa [show d + ((e - d).toNat : Int) = e by omega] at this
theorem stF_spec (F : Nat → Int) (w : Int) : ∀ n k, (∀ j, k ≤ j → j < stF F w n k → F (j + 1) < w) ∧ (stF F w n k = k + n ∨ ¬ F (stF F w n k + 1) < w) ∧ k ≤ stF F w n k ∧ stF F w n k ≤ k + n := by
  intro n
  induction n with
  | zero => intro k; exact ⟨fun j h1 h2 => absurd h2 (by simp only [stF]; omega), Or.inl rfl, Nat.le_refl _, Nat.le_refl _⟩
  | succ n ih =>
    intro k
    simp only [stF]
    split
    · next h =>
      obtain ⟨a, b, c, d⟩ := ih (k + 1)
      refine ⟨fun j h1 h2 => ?_, b.imp (fun q => by omega) id, by omega, by omega⟩
      by_cases hj : j = k
      · subst hj; exact h
      · exact a j (by omega) h2
    · next h => exact ⟨fun j h1 h2 => absurd h2 (by omega), Or.inr h, Nat.le_refl _, by omega⟩
/-- the first time at which the way is so far -/
theorem toI_iff (hF : ∀ k, k < 7 → F (k + 1) = F k + 20 * P k) (hP : ∀ k, k < 8 → 0 ≤ P k) (w : Int) {d : Int} (hd : 0 ≤ d) (hN : d < 1000000000000) : d < toI F P w ↔ WI F P d < w := by
  obtain ⟨s1, s2, -, s4⟩ := stF_spec F w 7 0
  unfold toI
  generalize stF F w 7 0 = k at s1 s2 s4 ⊢
  have hk8 : k < 8 := by omega
  have atk : WI F P (20 * (k : Int)) = F k := by
    by_cases h7 : k = 7
    · subst h7
      have := WI_at7 (F := F) (P := P) (r := 0) (by omega)
      simpa using this
    · have := WI_at (F := F) (P := P) (k := k) hF (by omega) (r := 0) (by omega) (by omega)
      simpa using this
  unfold toA
  by_cases h1 : 0 < w - F k
  · rw [if_pos h1]
    by_cases h2 : P k ≤ 0
    · rw [if_pos h2]
      have hp0 : P k = 0 := by have := hP k hk8; omega
      have h7 : k = 7 := by
        rcases s2 with h | h
        · omega
        · rcases Nat.lt_or_ge k 7 with h7 | h7
          · rw [hF k h7, hp0] at h; omega
          · omega
      subst h7
      refine ⟨fun _ => ?_, fun _ => hN⟩
      by_cases h140 : d ≤ 140
      · have := WI_le (F := F) (P := P) hF hP hd h140
        have e : WI F P 140 = F 7 := atk
        omega
      · have := WI_at7 (F := F) (P := P) (r := d - 140) (by omega)
        rw [show 140 + (d - 140) = d by omega, hp0] at this
        omega
    · rw [if_neg h2]
      have hp : 0 < P k := by omega
      obtain ⟨q, hq⟩ : ∃ q, q = (w - F k + P k - 1) / P k := ⟨_, rfl⟩
      have c1 : q * P k ≤ w - F k + P k - 1 := by rw [hq]; exact Int.ediv_mul_le _ (by omega)
      have c2 : w - F k + P k - 1 < (q + 1) * P k := by rw [hq]; exact Int.lt_ediv_add_one_mul_self _ hp
      rw [Int.add_mul] at c2
      have q1 : 1 ≤ q := by
        rcases Int.lt_or_le 0 q with h | h
        · omega
        · have := Int.mul_nonpos_of_nonpos_of_nonneg h (Int.le_of_lt hp)
          omega
      rw [← hq]
      have hqa : WI F P (20 * (k : Int) + q) = F k + q * P k ∧ WI F P (20 * (k : Int) + (q - 1)) = F k + (q - 1) * P k := by
        by_cases h7 : k = 7
        · subst h7
          exact ⟨WI_at7 (by omega), WI_at7 (by omega)⟩
        · have hk7 : k < 7 := by omega
          have hw : w ≤ F k + 20 * P k := by
            rcases s2 with h | h
            · omega
            · rw [hF k hk7] at h; omega
          have q20 : q ≤ 20 := by
            rcases Int.lt_or_le 20 q with h | h
            · have := Int.mul_le_mul_of_nonneg_right (show 21 ≤ q by omega) (Int.le_of_lt hp)
              omega
            · exact h
          exact ⟨WI_at hF hk7 (by omega) q20, WI_at hF hk7 (by omega) (by omega)⟩
      obtain ⟨e1, e2⟩ := hqa
      rw [Int.sub_mul] at e2
      constructor
      · intro hlt
        have := WI_le (F := F) (P := P) hF hP hd (show d ≤ 20 * (k : Int) + (q - 1) by omega)
        omega
      · intro hlt
        rcases Int.lt_or_le d (20 * (k : Int) + q) with h | h
        · exact h
        · have := WI_le (F := F) (P := P) hF hP (show 0 ≤ 20 * (k : Int) + q by omega) h
          omega
  · rw [if_neg h1]
    have hk0 : k = 0 := by
      rcases Nat.eq_zero_or_pos k with h | h
      · exact h
      · have := s1 (k - 1) (by omega) (by omega)
        rw [show k - 1 + 1 = k by omega] at this
        omega
    subst hk0
    have := WI_le (F := F) (P := P) hF hP (Int.le_refl 0) hd
    have e : WI F P 0 = F 0 := atk
    constructor
    · intro h; omega
    · intro h; omega
end WAY
