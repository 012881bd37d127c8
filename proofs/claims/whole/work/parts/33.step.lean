/-! One item over one millisecond: the moves. -/
theorem BRg.mono {b : BT} {now now' : Int} (h : BRg b now) (h1 : now ≤ now') (h2 : now' ≤ 1000000) : BRg b now' := by
  obtain ⟨a1, a2, a3, a4, a5, a6, a7, a8, a9, a10, a11, a12, a13⟩ := h
  exact ⟨a1, a2, a3, a4, a5, a6, a7, a8, a9, by omega, h2, a12, a13⟩
theorem t_succ {T : Int64} (h0 : 0 ≤ T.toInt) (h : T.toInt < 1000000) : (T + 1).toInt = T.toInt + 1 := by
  rw [i64_add (by rw [show (1 : Int64).toInt = 1 from rfl]; omega) (by rw [show (1 : Int64).toInt = 1 from rfl]; omega)]; rfl
theorem come_on {B : Nat → BT} {nb k : Nat} {T : Int64} {now : Int} (hb : BRg (B k) now) (hk : k < nb) (hT : (bTold (B k)).toInt ≤ T.toInt) (hT2 : T.toInt ≤ 1000000) {x : IT} (hx : lenV x) {pl : Int64} (p0 : 0 ≤ pl.toInt) (p1 : pl.toInt < 50000) {v : MIT} (e1 : vOn v = nI k) (e2 : vCm v ≤ T) (e3 : vLf v = 0) (e4 : vFr v = 0) (e5 : vBk v = 0) (e6 : vPl v = pl) : OnB B nb T v (comeI B x k T pl) k ∧ T < iTurn (comeI B x k T pl) := by
  have w := way_int hb hT (by omega)
  have hs := sen_int hb
  have hl := hb.2.1
  have hl2 := hb.2.2.1
  have e : (wayB (B k) T - pl).toInt = (wayB (B k) T).toInt - pl.toInt := i64_sub (by omega) (by omega)
  have e' : (wayB (B k) T - pl + bSen (B k)).toInt = (wayB (B k) T).toInt - pl.toInt + (bSen (B k)).toInt := by
    rw [i64_add (by rw [e]; omega) (by rw [e]; omega), e]
  refine ⟨⟨rfl, hk, rfl, e1, e2, e3, e4, e5, Or.inl rfl, Or.inl rfl, fun _ => rfl, ?_, ?_, ?_, rfl⟩, ?_⟩
  · show (vPl v).toInt + (wayB (B k) T - pl).toInt = _
    rw [e6, e]; omega
  · rw [e6]; exact p0
  · rw [e6]; omega
  · show T < towB (B k) (wayB (B k) T - pl + bSen (B k))
    rw [tow_iff hb hT (by omega) (by rw [e']; omega) (by rw [e']; omega), Int64.lt_iff_toInt_lt, e']
    omega
theorem ontoV_some {b : BT} {q : Nat} (h : bOnto b = some q) : ontoV b = nI q := by unfold ontoV; rw [h]
theorem ontoV_none {b : BT} (h : bOnto b = none) : ontoV b = -1 := by unfold ontoV; rw [h]
theorem nI_ne_m1 {q : Nat} (h : q < 2 ^ 31) : ¬ nI q = -1 := fun e => by
  have := nI_toInt h
  rw [e] at this
  have h2 : (-1 : Int32).toInt = -1 := by decide
  omega
theorem mid_of {B : Nat → BT} {nb : Nat} {T : Int64} {L : LA} {J : JA} (hB : BAll B nb T L J) (hT0 : 0 ≤ T.toInt) (hT : T.toInt < 1000000) {v : MIT} {x : IT} (h : ISim B nb T v x) {r : Nat → Int64} (hr : ∀ k, k < nb → r k = rateMF L J k T) : Mid B nb (T + 1) (goV (L 3) (J 5) (T + 1) (plV r T v)) (if iTurn x = T + 1 then moveI B x (T + 1) else x) := by
  have hn := hB.1
  have et := t_succ hT0 hT
  obtain ⟨hsz, hln, h⟩ := h
  rcases h with hw | ⟨j, ho, htn⟩ | hl
  · -- waiting
    obtain ⟨w1, ⟨j, hj, hbt, hon⟩, w3, w4, w5, w6, w7, w8, w9, w10, w11⟩ := hw
    have hth : thV T v = 0 := by unfold thV; rw [if_pos w6, if_pos (by rw [w3]; exact w4)]
    have hpl : plV r T v = v := by unfold plV; rw [if_pos hth]
    rw [hpl]
    obtain ⟨hbr, hbs, -⟩ := hB.2 j hj
    have w4' := Int64.lt_iff_toInt_lt.mp w4
    by_cases hc : iTurn x = T + 1
    · rw [if_pos hc]
      have hm : moveI B x (T + 1) = comeI B x j (T + 1) 0 := by
        unfold moveI
        rw [hbt]
        simp only
        rw [if_neg (by rw [w1]; decide)]
      rw [hm]
      have hcl : (vOn v).toNatClampNeg = j := by rw [hon, nI_clamp (by omega)]
      have hgo : goV (L 3) (J 5) (T + 1) v = v := by
        unfold goV
        by_cases h1 : thV (T + 1) v = 0
        · rw [if_pos h1]
        · rw [if_neg h1, if_pos]
          rw [hcl, hbs.1, w9, Int64.lt_iff_toInt_lt]
          have := hbr.2.1
          simp
          omega
      rw [hgo]
      have hc2 := come_on (x := x) (pl := 0) (hbr.mono (now' := (T + 1).toInt) (by omega) (by omega)) hj (by have := hbr.2.2.2.2.2.2.2.2.2.1; omega) (T := T + 1) (by omega) hln (by decide) (by decide) hon (by rw [w3, hc]; exact Int64.le_refl _) w6 w7 w8 w9
      exact ⟨hsz, hln, Or.inr (Or.inl ⟨j, hc2.1, Int64.le_of_lt hc2.2⟩)⟩
    · rw [if_neg hc]
      have hlt : T + 1 < iTurn x := by
        rw [Int64.lt_iff_toInt_lt]
        have : (iTurn x).toInt ≠ (T + 1).toInt := fun q => hc (Int64.toInt_inj.mp q)
        omega
      have hgo : goV (L 3) (J 5) (T + 1) v = v := by
        unfold goV
        rw [if_pos]
        unfold thV
        rw [if_pos w6, if_pos (by rw [w3]; exact hlt)]
      rw [hgo]
      exact ⟨hsz, hln, Or.inl ⟨w1, ⟨j, hj, hbt, hon⟩, w3, hlt, w5, w6, w7, w8, w9, w10, w11⟩⟩
  · -- on a belt
    have ho' := ho
    obtain ⟨o1, hj, o3, o4, o5, o6, o7, o8, o9, o10, o11, o12, o13, o14, o15⟩ := ho
    obtain ⟨hbr, hbs, hon⟩ := hB.2 j hj
    have hcl : (vOn v).toNatClampNeg = j := by rw [o4, nI_clamp (by omega)]
    have hth : ¬ thV T v = 0 := by unfold thV; rw [if_pos o6, if_neg (Int64.not_lt.mpr o5)]; decide
    have htold := hbr.2.2.2.2.2.2.2.2.2.1
    have hms := way_ms hbr hbs (t := T) htold (by omega)
    have hwT := way_int hbr (t := T) htold (by omega)
    have hwT1 := way_int hbr (t := T + 1) (by omega) (by omega)
    have hle := hbr.2.2.1
    have hle0 := hbr.2.1
    have hpl : plV r T v = (vSz v, vCm v, vPl v + rateMF L J j T, vOn v, vLf v, vFr v, vBk v) := by
      unfold plV
      rw [if_neg hth, hcl, hr j hj]
    have ep : (vPl v + rateMF L J j T).toInt = (vPl v).toInt + (rateMF L J j T).toInt := i64_add (by omega) (by omega)
    have hcm1 : vCm v ≤ T + 1 := by
      rw [Int64.le_iff_toInt_le]
      have := Int64.le_iff_toInt_le.mp o5
      omega
    have hth1 : ∀ p : Int64, ¬ thV (T + 1) (vSz v, vCm v, p, vOn v, vLf v, vFr v, vBk v) = 0 := by
      intro p
      show ¬ (if vLf v = 0 then (if T + 1 < vCm v then 0 else 1) else 0 : Int32) = 0
      rw [if_pos o6, if_neg (Int64.not_lt.mpr hcm1)]; decide
    have hbr1 : BRg (B j) (T + 1).toInt := hbr.mono (by omega) (by omega)
    have eo : (wayB (B j) (T + 1) - iStart x - bLen (B j)).toInt = (vPl v).toInt + (rateMF L J j T).toInt - (bLen (B j)).toInt := by
      have e1 : (wayB (B j) (T + 1) - iStart x).toInt = (wayB (B j) (T + 1)).toInt - (iStart x).toInt := i64_sub (by omega) (by omega)
      rw [i64_sub (by rw [e1]; omega) (by rw [e1]; omega), e1]
      omega
    rw [hpl]
    by_cases hcr : (vPl v).toInt + (rateMF L J j T).toInt < (bLen (B j)).toInt
    · -- stays
      have hgo : goV (L 3) (J 5) (T + 1) (vSz v, vCm v, vPl v + rateMF L J j T, vOn v, vLf v, vFr v, vBk v) = (vSz v, vCm v, vPl v + rateMF L J j T, vOn v, vLf v, vFr v, vBk v) := by
        unfold goV
        rw [if_neg (hth1 _), if_pos]
        show vPl v + rateMF L J j T < L 3 (vOn v).toNatClampNeg
        rw [hcl, hbs.1, Int64.lt_iff_toInt_lt, ep]
        exact hcr
      rw [hgo]
      have hmv : (if iTurn x = T + 1 then moveI B x (T + 1) else x) = x := by
        by_cases hc : iTurn x = T + 1
        · rw [if_pos hc]
          unfold moveI
          rw [o3]
          simp only
          rw [if_pos o1, if_neg]
          rw [Int64.le_iff_toInt_le, eo]
          simp
          omega
        · rw [if_neg hc]
      rw [hmv]
      refine ⟨hsz, hln, Or.inr (Or.inl ⟨j, ⟨o1, hj, o3, o4, hcm1, o6, o7, o8, o9, o10, o11, ?_, ?_, ?_, o15⟩, ?_⟩)⟩
      · show (vPl v + rateMF L J j T).toInt + _ = _
        rw [ep]; omega
      · show 0 ≤ (vPl v + rateMF L J j T).toInt
        rw [ep]; omega
      · show (vPl v + rateMF L J j T).toInt < _
        rw [ep]; omega
      · have := Int64.lt_iff_toInt_lt.mp htn
        rw [Int64.le_iff_toInt_le]; omega
    · -- crosses
      have har := aim_r hbr hln
      have hti := turn_iff (L := L) (J := J) hbr hln ho' (t := T + 1) (by omega) (by omega) htold (by omega)
      have hc : iTurn x = T + 1 := by
        have h1 : ¬ T + 1 < iTurn x := fun q => by
          have := hti.mp q
          omega
        have h2 := Int64.lt_iff_toInt_lt.mp htn
        have h3 : ¬ (T + 1).toInt < (iTurn x).toInt := fun q => h1 (Int64.lt_iff_toInt_lt.mpr q)
        exact Int64.toInt_inj.mp (by omega)
      rw [if_pos hc]
      have hnl : ¬ vPl v + rateMF L J j T < L 3 j := fun q => hcr (by
        have := Int64.lt_iff_toInt_lt.mp q
        rw [hbs.1, ep] at this
        exact this)
      have eov : (vPl v + rateMF L J j T - L 3 j) = wayB (B j) (T + 1) - iStart x - bLen (B j) := by
        apply Int64.toInt_inj.mp
        rw [eo, i64_sub (by rw [ep, hbs.1]; omega) (by rw [ep, hbs.1]; omega), ep, hbs.1]
      have hgo : goV (L 3) (J 5) (T + 1) (vSz v, vCm v, vPl v + rateMF L J j T, vOn v, vLf v, vFr v, vBk v) = (vSz v, vCm v, vPl v + rateMF L J j T - L 3 j, (if ontoV (B j) = -1 then vOn v else ontoV (B j)), (if ontoV (B j) = -1 then 1 else 0), 0, 0) := by
        unfold goV
        rw [if_neg (hth1 _)]
        show (if vPl v + rateMF L J j T < L 3 (vOn v).toNatClampNeg then _ else _) = _
        rw [hcl, if_neg hnl, hbs.2.2.2.2.2.1]
      rw [hgo]
      have hge : 0 ≤ wayB (B j) (T + 1) - iStart x - bLen (B j) := by
        rw [Int64.le_iff_toInt_le, eo]; simp; omega
      cases hq : bOnto (B j) with
      | none =>
        have hm : moveI B x (T + 1) = (iLen x, none, iWt x, 1000000000000, iStart x, iFt x, iEt x) := by
          unfold moveI
          rw [o3]
          simp only
          rw [if_pos o1, if_pos hge, hq]
        rw [hm, ontoV_none hq, if_pos rfl, if_pos rfl]
        exact ⟨hsz, hln, Or.inr (Or.inr ⟨rfl, rfl, o1, hcm1, rfl, j, hj, o4⟩)⟩
      | some k =>
        obtain ⟨hjk, hk⟩ := hon k hq
        have hm : moveI B x (T + 1) = comeI B x k (T + 1) (wayB (B j) (T + 1) - iStart x - bLen (B j)) := by
          unfold moveI
          rw [o3]
          simp only
          rw [if_pos o1, if_pos hge, hq]
        rw [hm, ontoV_some hq, if_neg (nI_ne_m1 (by omega)), if_neg (nI_ne_m1 (by omega))]
        obtain ⟨hbk, -, -⟩ := hB.2 k hk
        have hc2 := come_on (x := x) (v := (vSz v, vCm v, vPl v + rateMF L J j T - L 3 j, nI k, 0, 0, 0)) (pl := wayB (B j) (T + 1) - iStart x - bLen (B j)) (hbk.mono (now' := (T + 1).toInt) (by omega) (by omega)) hk (by have := hbk.2.2.2.2.2.2.2.2.2.1; omega) (T := T + 1) (by omega) hln (by rw [eo]; omega) (by rw [eo]; omega) rfl hcm1 rfl rfl rfl eov
        exact ⟨hsz, hln, Or.inr (Or.inl ⟨k, hc2.1, Int64.le_of_lt hc2.2⟩)⟩
  · -- left
    obtain ⟨l1, l2, l3, l4, l5, l6⟩ := hl
    have hth : ∀ t, thV t v = 0 := fun t => by unfold thV; rw [if_neg (by rw [l5]; decide)]
    have hpl : plV r T v = v := by unfold plV; rw [if_pos (hth T)]
    have hgo : goV (L 3) (J 5) (T + 1) v = v := by unfold goV; rw [if_pos (hth _)]
    have hmv : (if iTurn x = T + 1 then moveI B x (T + 1) else x) = x := by
      rw [if_neg]
      intro q
      have := congrArg Int64.toInt q
      rw [l2, et, show (1000000000000 : Int64).toInt = 1000000000000 from rfl] at this
      omega
    rw [hpl, hgo, hmv]
    refine ⟨hsz, hln, Or.inr (Or.inr ⟨l1, l2, l3, ?_, l5, l6⟩)⟩
    have := Int64.le_iff_toInt_le.mp l4
    rw [Int64.le_iff_toInt_le]; omega
