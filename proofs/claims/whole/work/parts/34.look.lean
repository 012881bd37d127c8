/-! Edges: the class's telling and the reference's look agree. -/
def ESim (e : ET) (s : MS) : Prop := e.1 = s.2.2 ∧ ∀ q, q < 400 → q < e.1 → e.2 (q * 4) = (s.1 21 q).toInt32 ∧ e.2 (q * 4 + 1) = s.2.1 22 q ∧ e.2 (q * 4 + 2) = s.2.1 23 q ∧ e.2 (q * 4 + 3) = s.2.1 24 q
theorem ESim.add {e : ET} {s : MS} (h : ESim e s) {t : Int64} {b kd : Int32} {i : Nat} (hb : s.2.1 14 i = b) {J' : JA} (h22 : J' 22 = tlJ s.2.1 s.2.2 i kd 22) (h23 : J' 23 = tlJ s.2.1 s.2.2 i kd 23) (h24 : J' 24 = tlJ s.2.1 s.2.2 i kd 24) : ESim (addE e t b (nI i) kd) (tlL s.1 s.2.2 t, J', s.2.2 + 1) := by
  obtain ⟨h1, h2⟩ := h
  refine ⟨by show e.1 + 1 = s.2.2 + 1; rw [h1], fun q hq hlt => ?_⟩
  have hlt' : q < e.1 + 1 := hlt
  show (addE e t b (nI i) kd).2 (q * 4) = (tlL s.1 s.2.2 t 21 q).toInt32 ∧ (addE e t b (nI i) kd).2 (q * 4 + 1) = J' 22 q ∧ (addE e t b (nI i) kd).2 (q * 4 + 2) = J' 23 q ∧ (addE e t b (nI i) kd).2 (q * 4 + 3) = J' 24 q
  rw [h22, h23, h24]
  unfold addE tlL tlJ
  rw [h1] at hlt' h2 ⊢
  by_cases h400 : 400 ≤ s.2.2
  · simp only [if_pos h400]
    exact h2 q hq (by omega)
  · simp only [if_neg h400]
    show rowF e.2 s.2.2 t.toInt32 b (nI i) kd (q * 4) = (vp_updL (s.1 21) s.2.2 t q).toInt32 ∧ rowF e.2 s.2.2 t.toInt32 b (nI i) kd (q * 4 + 1) = upd (s.2.1 22) s.2.2 (s.2.1 14 i) q ∧ rowF e.2 s.2.2 t.toInt32 b (nI i) kd (q * 4 + 2) = upd (s.2.1 23) s.2.2 (nI i) q ∧ rowF e.2 s.2.2 t.toInt32 b (nI i) kd (q * 4 + 3) = upd (s.2.1 24) s.2.2 kd q
    unfold rowF
    by_cases hqe : q = s.2.2
    · subst hqe
      rw [pk_uLs, pk_us, pk_us, pk_us, pk_un (by omega), pk_un (by omega), pk_un (by omega), pk_us, pk_un (by omega), pk_un (by omega), pk_us, pk_un (by omega), pk_us, pk_us, hb]
      exact ⟨rfl, rfl, rfl, rfl⟩
    · rw [pk_uLn hqe, pk_un hqe, pk_un hqe, pk_un hqe, pk_un (by omega), pk_un (by omega), pk_un (by omega), pk_un (by omega), pk_un (by omega), pk_un (by omega), pk_un (by omega), pk_un (by omega), pk_un (by omega), pk_un (by omega), pk_un (by omega), pk_un (by omega), pk_un (by omega), pk_un (by omega), pk_un (by omega), pk_un (by omega)]
      exact h2 q hq (by omega)
theorem ISim.mid {B : Nat → BT} {nb : Nat} {T : Int64} {v : MIT} {x : IT} (h : ISim B nb T v x) : Mid B nb T v x :=
  ⟨h.1, h.2.1, h.2.2.imp id (fun q => q.imp (fun ⟨j, a, b⟩ => ⟨j, a, Int64.le_of_lt b⟩) id)⟩
section LOOK
variable {B : Nat → BT} {nb ni : Nat} {T : Int64} {s : MS} {I : Nat → IT}
theorem on_there {v : MIT} {x : IT} {j : Nat} (h : OnB B nb T v x j) : ¬ thV T v = 0 := by
  unfold thV
  rw [if_pos h.2.2.2.2.2.1, if_neg (Int64.not_lt.mpr h.2.2.2.2.1)]; decide
theorem on_place {v : MIT} {x : IT} {j : Nat} {now : Int} (hb : BRg (B j) now) (hT : (bTold (B j)).toInt ≤ T.toInt) (hT2 : T.toInt ≤ 1000000) (h : OnB B nb T v x j) : wayB (B j) T - iStart x = vPl v ∧ (wayB (B j) T - iStart x).toInt = (vPl v).toInt := by
  obtain ⟨-, -, -, -, -, -, -, -, -, -, -, h12, h13, h14, -⟩ := h
  have w := way_int hb hT (by omega)
  have hl := hb.2.2.1
  have e : (wayB (B j) T - iStart x).toInt = (wayB (B j) T).toInt - (iStart x).toInt := i64_sub (by omega) (by omega)
  have e2 : (wayB (B j) T - iStart x).toInt = (vPl v).toInt := by rw [e]; omega
  exact ⟨Int64.toInt_inj.mp e2, e2⟩
theorem sh_iff (hB : BAll B nb T s.1 s.2.1) (hT2 : T.toInt ≤ 1000000) (hni : ni ≤ 60) (hall : ∀ i, i < ni → Mid B nb T (vM s.1 s.2.1 (i + 1)) (I i)) {i j : Nat} (hi : i < ni) (ho : OnB B nb T (vM s.1 s.2.1 (i + 1)) (I i) j) {k : Nat} (hk : k < ni) : shK I i (wayB (B j) T) k ↔ mK T s.1 s.2.1 (i + 1) (k + 1) := by
  have hn := hB.1
  obtain ⟨hbr, hbs, -⟩ := hB.2 j ho.2.1
  have htold := hbr.2.2.2.2.2.2.2.2.2.1
  have pi := on_place hbr htold hT2 ho
  have hl := hbr.2.2.1
  have ne : (k ≠ i) ↔ (nI (k + 1) ≠ nI (i + 1)) := by
    rw [ne_eq, ne_eq, nI_eq (by omega) (by omega)]
    omega
  obtain ⟨hsz, ⟨l1, l2⟩, hm⟩ := hall k hk
  unfold shK mK
  rw [thV_eq, ← ne]
  rcases hm with hw | ⟨j', ho', -⟩ | hl'
  · constructor
    · intro h
      rw [hw.1] at h
      exact absurd h.2.2.1 (by decide)
    · intro h
      refine absurd ?_ h.2.1
      unfold thV
      rw [if_pos hw.2.2.2.2.2.1, if_pos (by rw [hw.2.2.1]; exact hw.2.2.2.1)]
  · by_cases hj : j' = j
    · subst hj
      have pk := on_place hbr htold hT2 ho'
      have e1 : iBt (I k) = iBt (I i) := ho'.2.2.1.trans ho.2.2.1.symm
      have e2 : s.2.1 14 (k + 1) = s.2.1 14 (i + 1) := ho'.2.2.2.1.trans ho.2.2.2.1.symm
      have e3 : s.1 12 (k + 1) = iLen (I k) := hsz
      rw [pi.1, pk.1, show vPl (vM s.1 s.2.1 (i + 1)) = s.1 15 (i + 1) from rfl, show vPl (vM s.1 s.2.1 (k + 1)) = s.1 15 (k + 1) from rfl, e3]
      have b1 : 0 ≤ (s.1 15 (i + 1)).toInt := ho.2.2.2.2.2.2.2.2.2.2.2.2.1
      have b2 : (s.1 15 (i + 1)).toInt < (bLen (B j')).toInt := ho.2.2.2.2.2.2.2.2.2.2.2.2.2.1
      have b3 : 0 ≤ (s.1 15 (k + 1)).toInt := ho'.2.2.2.2.2.2.2.2.2.2.2.2.1
      have b4 : (s.1 15 (k + 1)).toInt < (bLen (B j')).toInt := ho'.2.2.2.2.2.2.2.2.2.2.2.2.2.1
      have c1 : (s.1 15 (k + 1) - iLen (I k)).toInt = (s.1 15 (k + 1)).toInt - (iLen (I k)).toInt := i64_sub (by omega) (by omega)
      have c2 : (s.1 15 (k + 1) - iLen (I k) - s.1 15 (i + 1)).toInt = (s.1 15 (k + 1)).toInt - (iLen (I k)).toInt - (s.1 15 (i + 1)).toInt := by rw [i64_sub (by rw [c1]; omega) (by rw [c1]; omega), c1]
      have c3 : (s.1 15 (i + 1) + 50000).toInt = (s.1 15 (i + 1)).toInt + 50000 := by
        rw [i64_add (by rw [show (50000 : Int64).toInt = 50000 from rfl]; omega) (by rw [show (50000 : Int64).toInt = 50000 from rfl]; omega)]; rfl
      have near : s.1 15 (k + 1) - iLen (I k) - s.1 15 (i + 1) < 50000 ↔ s.1 15 (k + 1) - iLen (I k) < s.1 15 (i + 1) + 50000 := by
        rw [Int64.lt_iff_toInt_lt, Int64.lt_iff_toInt_lt, c1, c2, c3, show (50000 : Int64).toInt = 50000 from rfl]
        omega
      rw [near]
      exact ⟨fun h => ⟨h.1, on_there ho', e2, h.2.2.2⟩, fun h => ⟨h.1, e1, ho'.1, h.2.2.2⟩⟩
    · constructor
      · intro h
        have := h.2.1
        rw [ho'.2.2.1, ho.2.2.1] at this
        exact absurd (Option.some.inj this) hj
      · intro h
        have e : s.2.1 14 (k + 1) = s.2.1 14 (i + 1) := h.2.2.1
        rw [show s.2.1 14 (k + 1) = nI j' from ho'.2.2.2.1, show s.2.1 14 (i + 1) = nI j from ho.2.2.2.1, nI_eq (by have := ho'.2.1; omega) (by have := ho.2.1; omega)] at e
        exact absurd e hj
  · constructor
    · intro h
      have := h.2.1
      rw [hl'.1, ho.2.2.1] at this
      cases this
    · intro h
      refine absurd ?_ h.2.1
      unfold thV
      rw [if_neg (by rw [hl'.2.2.2.2.1]; decide)]
theorem sh_eq (hB : BAll B nb T s.1 s.2.1) (hT2 : T.toInt ≤ 1000000) (hni : ni ≤ 60) (hall : ∀ i, i < ni → Mid B nb T (vM s.1 s.2.1 (i + 1)) (I i)) {i j : Nat} (hi : i < ni) (ho : OnB B nb T (vM s.1 s.2.1 (i + 1)) (I i) j) : shF I ni i (wayB (B j) T) = shMU T s.1 s.2.1 (i + 1) (ni + 1) := by
  unfold shMU
  by_cases h : ∃ k, k < ni ∧ shK I i (wayB (B j) T) k
  · rw [shF_1 h, if_pos]
    obtain ⟨k, hk, hs⟩ := h
    exact ⟨k + 1, by omega, by omega, (sh_iff hB hT2 hni hall hi ho hk).mp hs⟩
  · rw [shF_0 h, if_neg]
    intro ⟨q, q1, q2, q3⟩
    obtain ⟨k, rfl⟩ : ∃ k, q = k + 1 := ⟨q - 1, by omega⟩
    exact h ⟨k, by omega, (sh_iff hB hT2 hni hall hi ho (by omega)).mpr q3⟩
end LOOK
