/-! One item's edges at one time. -/
section ITEMLOOK
variable {B : Nat → BT} {nb ni : Nat} {T : Int64} {s : MS} {I : Nat → IT} {e : ET}
/-- what stays of the reference's arrays when an edge is told -/
def Keep (s s' : MS) : Prop := (∀ m, m ≠ 21 → s'.1 m = s.1 m) ∧ ∀ m, m ≠ 17 → m ≠ 18 → m ≠ 22 → m ≠ 23 → m ≠ 24 → s'.2.1 m = s.2.1 m
theorem Keep.refl' (s : MS) : Keep s s := ⟨fun _ _ => rfl, fun _ _ _ _ _ _ => rfl⟩
theorem Keep.trans {a b c : MS} (h1 : Keep a b) (h2 : Keep b c) : Keep a c := ⟨fun m h => (h2.1 m h).trans (h1.1 m h), fun m a1 a2 a3 a4 a5 => (h2.2 m a1 a2 a3 a4 a5).trans (h1.2 m a1 a2 a3 a4 a5)⟩
theorem keep_told {i : Nat} {kd : Int32} {m0 : Nat} (hm : m0 = 17 ∨ m0 = 18) {f : Nat → Int32} : Keep s (tlL s.1 s.2.2 T, va_up (tlJ s.2.1 s.2.2 i kd) m0 f, s.2.2 + 1) := by
  refine ⟨fun m h => tlL_k m h, fun m a1 a2 a3 a4 a5 => ?_⟩
  show va_up (tlJ s.2.1 s.2.2 i kd) m0 f m = _
  rw [va_up_ne _ _ (by rcases hm with rfl | rfl <;> assumption), tlJ_k m a3 a4 a5]
theorem view_17 {i : Nat} {kd : Int32} (i' : Nat) : vM (tlL s.1 s.2.2 T) (va_up (tlJ s.2.1 s.2.2 i kd) 17 (upd (s.2.1 17) i 1)) i' = (s.1 12 i', s.1 13 i', s.1 15 i', s.2.1 14 i', s.2.1 16 i', upd (s.2.1 17) i 1 i', s.2.1 18 i') := by
  show (tlL s.1 s.2.2 T 12 i', tlL s.1 s.2.2 T 13 i', tlL s.1 s.2.2 T 15 i', tlJ s.2.1 s.2.2 i kd 14 i', tlJ s.2.1 s.2.2 i kd 16 i', upd (s.2.1 17) i 1 i', tlJ s.2.1 s.2.2 i kd 18 i') = _
  rw [tlL_k 12, tlL_k 13, tlL_k 15, tlJ_k 14, tlJ_k 16, tlJ_k 18]
theorem view_18 {i : Nat} {kd : Int32} (i' : Nat) : vM (tlL s.1 s.2.2 T) (va_up (tlJ s.2.1 s.2.2 i kd) 18 (upd (s.2.1 18) i 1)) i' = (s.1 12 i', s.1 13 i', s.1 15 i', s.2.1 14 i', s.2.1 16 i', s.2.1 17 i', upd (s.2.1 18) i 1 i') := by
  show (tlL s.1 s.2.2 T 12 i', tlL s.1 s.2.2 T 13 i', tlL s.1 s.2.2 T 15 i', tlJ s.2.1 s.2.2 i kd 14 i', tlJ s.2.1 s.2.2 i kd 16 i', tlJ s.2.1 s.2.2 i kd 17 i', upd (s.2.1 18) i 1 i') = _
  rw [tlL_k 12, tlL_k 13, tlL_k 15, tlJ_k 14, tlJ_k 16, tlJ_k 17]
theorem on_aim {v v' : MIT} {x x' : IT} {j : Nat} {now : Int} (hb : BRg (B j) now) (hT : (bTold (B j)).toInt ≤ T.toInt) (hT2 : T.toInt ≤ 1000000) (hx : lenV x) (ho : OnB B nb T v x j) (e1 : iLen x' = iLen x) (e2 : iBt x' = some j) (e3 : iWt x' = 0) (e4 : iStart x' = iStart x) (f1 : iFt x' = 0 ∨ iFt x' = 1) (f2 : iEt x' = 0 ∨ iEt x' = 1) (f3 : iFt x' = 0 → iEt x' = 0) (ev : v' = (vSz v, vCm v, vPl v, vOn v, vLf v, iFt x', iEt x')) (hlt : (vPl v).toInt < (aimF (bLen (B j)) (bSen (B j)) (iLen x) (iFt x') (iEt x')).toInt) : OnB B nb T v' (aimI B x') j ∧ T < iTurn (aimI B x') := by
  have ea : aimI B x' = (iLen x', some j, iWt x', towB (B j) (iStart x' + aimF (bLen (B j)) (bSen (B j)) (iLen x') (iFt x') (iEt x')), iStart x', iFt x', iEt x') := by
    unfold aimI; rw [e2]
  rw [ea, ev]
  have hon : OnB B nb T (vSz v, vCm v, vPl v, vOn v, vLf v, iFt x', iEt x') (iLen x', some j, iWt x', towB (B j) (iStart x' + aimF (bLen (B j)) (bSen (B j)) (iLen x') (iFt x') (iEt x')), iStart x', iFt x', iEt x') j := by
    obtain ⟨o1, hj, o3, o4, o5, o6, o7, o8, o9, o10, o11, o12, o13, o14, o15⟩ := ho
    refine ⟨e3, hj, rfl, o4, o5, o6, rfl, rfl, f1, f2, f3, ?_, o13, o14, rfl⟩
    show (vPl v).toInt + (iStart x').toInt = _
    rw [e4]; exact o12
  refine ⟨hon, ?_⟩
  have := turn_iff (L := fun _ _ => 0) (J := fun _ _ => 0) hb (show lenV _ from by unfold lenV; exact (show 1 ≤ (iLen x').toInt ∧ (iLen x').toInt ≤ 100000 by rw [e1]; exact hx)) hon (t := T) hT (by omega) hT (by omega)
  rw [this]
  show (wayB (B j) T).toInt - (iStart x').toInt < (aimF (bLen (B j)) (bSen (B j)) (iLen x') (iFt x') (iEt x')).toInt
  rw [e1, e4]
  have := ho.2.2.2.2.2.2.2.2.2.2.2.1
  omega
theorem look_item (hB : BAll B nb T s.1 s.2.1) (hT2 : T.toInt ≤ 1000000) (hni : ni ≤ 60) (hall : ∀ i, i < ni → Mid B nb T (vM s.1 s.2.1 (i + 1)) (I i)) (hES : ESim e s) {k : Nat} (hk : k < ni) :
    ISim B nb T (vM (lk1 T ni (k + 1) s).1 (lk1 T ni (k + 1) s).2.1 (k + 1)) ((if iTurn (I k) = T then tellO B I ni T k e else (I, e)).1 k) ∧
    (∀ i, i ≠ k → (if iTurn (I k) = T then tellO B I ni T k e else (I, e)).1 i = I i) ∧
    (∀ i, i ≠ k + 1 → vM (lk1 T ni (k + 1) s).1 (lk1 T ni (k + 1) s).2.1 i = vM s.1 s.2.1 i) ∧
    ESim (if iTurn (I k) = T then tellO B I ni T k e else (I, e)).2 (lk1 T ni (k + 1) s) ∧ Keep s (lk1 T ni (k + 1) s) := by
  have hn := hB.1
  obtain ⟨hsz, hln, hm⟩ := hall k hk
  have skip : ∀ (h0 : lk1 T ni (k + 1) s = s) (h1 : ¬ iTurn (I k) = T) (h2 : ISim B nb T (vM s.1 s.2.1 (k + 1)) (I k)), _ := fun h0 h1 h2 => (by rw [h0, if_neg h1]; exact ⟨h2, fun _ _ => rfl, fun _ _ => rfl, hES, Keep.refl' s⟩ : ISim B nb T (vM (lk1 T ni (k + 1) s).1 (lk1 T ni (k + 1) s).2.1 (k + 1)) ((if iTurn (I k) = T then tellO B I ni T k e else (I, e)).1 k) ∧
    (∀ i, i ≠ k → (if iTurn (I k) = T then tellO B I ni T k e else (I, e)).1 i = I i) ∧
    (∀ i, i ≠ k + 1 → vM (lk1 T ni (k + 1) s).1 (lk1 T ni (k + 1) s).2.1 i = vM s.1 s.2.1 i) ∧
    ESim (if iTurn (I k) = T then tellO B I ni T k e else (I, e)).2 (lk1 T ni (k + 1) s) ∧ Keep s (lk1 T ni (k + 1) s))
  rcases hm with hw | ⟨j, ho, htn⟩ | hl
  · refine skip ?_ ?_ ⟨hsz, hln, Or.inl hw⟩
    · unfold lk1
      rw [if_pos]
      rw [thV_eq]
      unfold thV
      rw [if_pos hw.2.2.2.2.2.1, if_pos (by rw [hw.2.2.1]; exact hw.2.2.2.1)]
    · intro q
      have := hw.2.2.2.1
      rw [q] at this
      exact Int64.lt_irrefl this
  · have ho' := ho
    obtain ⟨o1, hj, o3, o4, o5, o6, o7, o8, o9, o10, o11, o12, o13, o14, o15⟩ := ho
    obtain ⟨hbr, hbs, hon⟩ := hB.2 j hj
    have htold := hbr.2.2.2.2.2.2.2.2.2.1
    have hoN : oN s.2.1 (k + 1) = j := by unfold oN; rw [show s.2.1 14 (k + 1) = nI j from o4]; exact nI_clamp (by omega)
    have hth : ¬ thereF T s.1 s.2.1 (k + 1) = 0 := on_there ho'
    have hsen : s.1 3 j / 2 = bSen (B j) := by rw [hbs.1]; exact hbr.2.2.2.2.2.1.symm
    have hpl := on_place hbr htold hT2 ho'
    have hs := sen_int hbr
    have hl1 := hbr.2.1
    have hl2 := hbr.2.2.1
    have hx1 := hln.1
    have hx2 := hln.2
    have lk : lk1 T ni (k + 1) s = lkB T (bSen (B j)) (k + 1) (lkA T ni (k + 1) s) := by
      unfold lk1; rw [if_neg hth, hoN, hsen]
    have epast : (wayB (B j) T - iStart (I k) - bSen (B j)).toInt = (s.1 15 (k + 1)).toInt - (bSen (B j)).toInt := by
      have hp0 : 0 ≤ (s.1 15 (k + 1)).toInt := o13
      have hp1 : (s.1 15 (k + 1)).toInt < (bLen (B j)).toInt := o14
      have hq : (wayB (B j) T - iStart (I k)).toInt = (s.1 15 (k + 1)).toInt := hpl.2
      rw [i64_sub (by rw [hq]; omega) (by rw [hq]; omega), hq]
    have hp0 : 0 ≤ (s.1 15 (k + 1)).toInt := o13
    have hp1 : (s.1 15 (k + 1)).toInt < (bLen (B j)).toInt := o14
    have esz : s.1 12 (k + 1) = iLen (I k) := hsz
    have ed : (s.1 15 (k + 1) - s.1 12 (k + 1)).toInt = (s.1 15 (k + 1)).toInt - (iLen (I k)).toInt := by
      rw [i64_sub (by rw [esz]; omega) (by rw [esz]; omega), esz]
    have c1 : wayB (B j) T - iStart (I k) - bSen (B j) < 0 ↔ s.1 15 (k + 1) < bSen (B j) := by
      rw [Int64.lt_iff_toInt_lt, Int64.lt_iff_toInt_lt, epast, show (0 : Int64).toInt = 0 from rfl]; omega
    have c2 : wayB (B j) T - iStart (I k) - bSen (B j) < iLen (I k) ↔ s.1 15 (k + 1) - s.1 12 (k + 1) < bSen (B j) := by
      rw [Int64.lt_iff_toInt_lt, Int64.lt_iff_toInt_lt, epast, ed]; omega
    have hfr : s.2.1 17 (k + 1) = iFt (I k) := o7
    have hbk : s.2.1 18 (k + 1) = iEt (I k) := o8
    by_cases htt : iTurn (I k) = T
    · -- its turn
      have hto : tellO B I ni T k e = (va_up I k (tellF B I ni T k j e).1, (tellF B I ni T k j e).2) := by unfold tellO; rw [o3]
      rw [if_pos htt, hto, lk]
      -- the front
      obtain ⟨hA1, hA2, hA3, hA4, hA5, hA6⟩ : ((tel1 B I ni T k j e).1 = I k ∨ (tel1 B I ni T k j e).1 = frI (I k)) ∧ vM (lkA T ni (k + 1) s).1 (lkA T ni (k + 1) s).2.1 (k + 1) = (s.1 12 (k + 1), s.1 13 (k + 1), s.1 15 (k + 1), s.2.1 14 (k + 1), s.2.1 16 (k + 1), iFt (tel1 B I ni T k j e).1, iEt (I k)) ∧ (∀ i, i ≠ k + 1 → vM (lkA T ni (k + 1) s).1 (lkA T ni (k + 1) s).2.1 i = vM s.1 s.2.1 i) ∧ ESim (tel1 B I ni T k j e).2 (lkA T ni (k + 1) s) ∧ Keep s (lkA T ni (k + 1) s) ∧ (iFt (tel1 B I ni T k j e).1 = 0 → s.1 15 (k + 1) < bSen (B j)) := by
        unfold lkA tel1
        rw [hfr, hoN, hsen]
        by_cases d1 : iFt (I k) = 0
        · rw [if_pos d1, if_pos d1]
          by_cases d2 : s.1 15 (k + 1) < bSen (B j)
          · rw [if_pos d2, if_pos (c1.mpr d2)]
            exact ⟨Or.inl rfl, by unfold vM; rw [hfr, hbk], fun _ _ => rfl, hES, Keep.refl' s, fun _ => d2⟩
          · rw [if_neg d2, if_neg (fun q => d2 (c1.mp q)), sh_eq hB hT2 hni hall hk ho']
            refine ⟨Or.inr rfl, ?_, fun i hi => ?_, hES.add o4 rfl rfl rfl, keep_told (Or.inl rfl), fun q => absurd q (by show ¬ (1 : Int32) = 0; decide)⟩
            · rw [view_17, pk_us, hbk]; rfl
            · rw [view_17, pk_un hi]; rfl
        · rw [if_neg d1, if_neg d1]
          exact ⟨Or.inl rfl, by unfold vM; rw [hfr, hbk], fun _ _ => rfl, hES, Keep.refl' s, fun q => absurd q d1⟩
      generalize hp1e : tel1 B I ni T k j e = p1 at hA1 hA2 hA4 hA6
      generalize hs2e : lkA T ni (k + 1) s = s2 at hA2 hA3 hA4 hA5
      have g1 : iLen p1.1 = iLen (I k) ∧ iBt p1.1 = some j ∧ iWt p1.1 = 0 ∧ iStart p1.1 = iStart (I k) ∧ (iFt p1.1 = 0 ∨ iFt p1.1 = 1) ∧ iEt p1.1 = iEt (I k) ∧ (iFt p1.1 = 0 → iEt p1.1 = 0) := by
        rcases hA1 with h | h
        · rw [h]; exact ⟨rfl, o3, o1, rfl, o9, rfl, o11⟩
        · rw [h]; exact ⟨rfl, o3, o1, rfl, Or.inr rfl, rfl, fun q => absurd q (by show ¬ (1 : Int32) = 0; decide)⟩
      obtain ⟨g1, g2, g3, g4, g5, g6, g7⟩ := g1
      have a15 : s2.1 15 (k + 1) = s.1 15 (k + 1) := congrArg vPl hA2
      have a12 : s2.1 12 (k + 1) = s.1 12 (k + 1) := congrArg vSz hA2
      have a17 : s2.2.1 17 (k + 1) = iFt p1.1 := congrArg vFr hA2
      have a18 : s2.2.1 18 (k + 1) = iEt (I k) := congrArg vBk hA2
      have a14 : s2.2.1 14 (k + 1) = nI j := (congrArg vOn hA2).trans o4
      -- the end
      obtain ⟨hE1, hE2, hE3, hE4, hE5, hE6⟩ : ((tel2 B (I k) T k j p1).1 = p1.1 ∨ ((tel2 B (I k) T k j p1).1 = enI p1.1 ∧ ¬ iFt p1.1 = 0)) ∧ vM (lkB T (bSen (B j)) (k + 1) s2).1 (lkB T (bSen (B j)) (k + 1) s2).2.1 (k + 1) = (s.1 12 (k + 1), s.1 13 (k + 1), s.1 15 (k + 1), s.2.1 14 (k + 1), s.2.1 16 (k + 1), iFt p1.1, iEt (tel2 B (I k) T k j p1).1) ∧ (∀ i, i ≠ k + 1 → vM (lkB T (bSen (B j)) (k + 1) s2).1 (lkB T (bSen (B j)) (k + 1) s2).2.1 i = vM s2.1 s2.2.1 i) ∧ ESim (tel2 B (I k) T k j p1).2 (lkB T (bSen (B j)) (k + 1) s2) ∧ Keep s2 (lkB T (bSen (B j)) (k + 1) s2) ∧ (¬ iFt p1.1 = 0 → iEt (tel2 B (I k) T k j p1).1 = 0 → s.1 15 (k + 1) - s.1 12 (k + 1) < bSen (B j)) := by
        unfold lkB tel2
        rw [a17, a18, a15, a12, g6]
        by_cases d1 : iFt p1.1 = 0
        · rw [if_pos d1, if_pos d1]
          exact ⟨Or.inl rfl, by rw [hA2, g6], fun _ _ => rfl, hA4, Keep.refl' s2, fun q => absurd d1 q⟩
        · rw [if_neg d1, if_neg d1]
          by_cases d2 : iEt (I k) = 0
          · rw [if_pos d2, if_pos d2]
            by_cases d3 : s.1 15 (k + 1) - s.1 12 (k + 1) < bSen (B j)
            · rw [if_pos d3, if_pos (c2.mpr d3)]
              exact ⟨Or.inl rfl, by rw [hA2, g6], fun _ _ => rfl, hA4, Keep.refl' s2, fun _ _ => d3⟩
            · rw [if_neg d3, if_neg (fun q => d3 (c2.mp q))]
              refine ⟨Or.inr ⟨rfl, d1⟩, ?_, fun i hi => ?_, hA4.add a14 rfl rfl rfl, keep_told (Or.inr rfl), fun _ q => absurd q (by show ¬ (1 : Int32) = 0; decide)⟩
              · rw [view_18, pk_us]
                have b13 : s2.1 13 (k + 1) = s.1 13 (k + 1) := congrArg vCm hA2
                have b14 : s2.2.1 14 (k + 1) = s.2.1 14 (k + 1) := congrArg vOn hA2
                have b16 : s2.2.1 16 (k + 1) = s.2.1 16 (k + 1) := congrArg vLf hA2
                rw [a12, b13, a15, b14, b16, a17]; rfl
              · rw [view_18, pk_un hi]; rfl
          · rw [if_neg d2, if_neg d2]
            exact ⟨Or.inl rfl, by rw [hA2, g6], fun _ _ => rfl, hA4, Keep.refl' s2, fun _ q => absurd (g6.symm.trans q) d2⟩
      have hT1 : (tellF B I ni T k j e) = (aimI B (tel2 B (I k) T k j p1).1, (tel2 B (I k) T k j p1).2) := by unfold tellF; rw [hp1e]
      rw [hT1]
      generalize tel2 B (I k) T k j p1 = p2 at hE1 hE2 hE4 hE6
      have k1 : iLen p2.1 = iLen (I k) ∧ iBt p2.1 = some j ∧ iWt p2.1 = 0 ∧ iStart p2.1 = iStart (I k) ∧ iFt p2.1 = iFt p1.1 ∧ (iEt p2.1 = 0 ∨ iEt p2.1 = 1) ∧ (iFt p2.1 = 0 → iEt p2.1 = 0) := by
        rcases hE1 with h | ⟨h, h'⟩
        · rw [h]; exact ⟨g1, g2, g3, g4, rfl, by rw [g6]; exact o10, g7⟩
        · rw [h]; exact ⟨g1, g2, g3, g4, rfl, Or.inr rfl, fun q => absurd q h'⟩
      obtain ⟨k1, k2, k3, k4, k5, k6, k7⟩ := k1
      have hv : vM (lkB T (bSen (B j)) (k + 1) s2).1 (lkB T (bSen (B j)) (k + 1) s2).2.1 (k + 1) = (vSz (vM s.1 s.2.1 (k + 1)), vCm (vM s.1 s.2.1 (k + 1)), vPl (vM s.1 s.2.1 (k + 1)), vOn (vM s.1 s.2.1 (k + 1)), vLf (vM s.1 s.2.1 (k + 1)), iFt p2.1, iEt p2.1) := by rw [hE2, k5]; rfl
      have hlt : (vPl (vM s.1 s.2.1 (k + 1))).toInt < (aimF (bLen (B j)) (bSen (B j)) (iLen (I k)) (iFt p2.1) (iEt p2.1)).toInt := by
        have := aim_int hbr (x := (iLen (I k), some j, 0, 0, 0, iFt p2.1, iEt p2.1)) hln
        have this2 : (aimF (bLen (B j)) (bSen (B j)) (iLen (I k)) (iFt p2.1) (iEt p2.1)).toInt = (if iFt p2.1 = 0 then (bSen (B j)).toInt else if iEt p2.1 = 0 then (if (bLen (B j)).toInt < (bSen (B j)).toInt + (iLen (I k)).toInt then (bLen (B j)).toInt else (bSen (B j)).toInt + (iLen (I k)).toInt) else (bLen (B j)).toInt) := this
        rw [this2, k5]
        show (s.1 15 (k + 1)).toInt < _
        by_cases d1 : iFt p1.1 = 0
        · rw [if_pos d1]
          exact Int64.lt_iff_toInt_lt.mp (hA6 d1)
        · rw [if_neg d1]
          by_cases d2 : iEt p2.1 = 0
          · rw [if_pos d2]
            have := Int64.lt_iff_toInt_lt.mp (hE6 d1 d2)
            rw [ed] at this
            split <;> omega
          · rw [if_neg d2]; exact hp1
      have fin := on_aim (v' := vM (lkB T (bSen (B j)) (k + 1) s2).1 (lkB T (bSen (B j)) (k + 1) s2).2.1 (k + 1)) (x' := p2.1) hbr htold hT2 hln ho' k1 k2 k3 k4 (by rw [k5]; exact g5) k6 k7 hv hlt
      have ea : iLen (aimI B p2.1) = iLen (I k) := by unfold aimI; rw [k2]; exact k1
      refine ⟨?_, fun i hi => va_up_ne _ _ hi, fun i hi => (hE3 i hi).trans (hA3 i hi), hE4, hA5.trans hE5⟩
      show ISim B nb T _ (va_up I k (aimI B p2.1) k)
      rw [va_up_self]
      refine ⟨?_, ?_, Or.inr (Or.inl ⟨j, fin.1, fin.2⟩)⟩
      · rw [hv, ea]; exact hsz
      · unfold lenV; rw [ea]; exact hln
    · -- not its turn
      have hlt : T < iTurn (I k) := by
        rw [Int64.lt_iff_toInt_lt]
        have h1 := Int64.le_iff_toInt_le.mp htn
        have h2 : (iTurn (I k)).toInt ≠ T.toInt := fun q => htt (Int64.toInt_inj.mp q)
        omega
      have hai := (turn_iff (L := fun _ _ => 0) (J := fun _ _ => 0) hbr hln ho' (t := T) htold (by omega) htold (by omega)).mp hlt
      rw [aim_int hbr hln] at hai
      have hpp : (wayB (B j) T).toInt - (iStart (I k)).toInt = (s.1 15 (k + 1)).toInt := by
        have : (s.1 15 (k + 1)).toInt + (iStart (I k)).toInt = (wayB (B j) T).toInt := o12
        omega
      rw [hpp] at hai
      have hA : lkA T ni (k + 1) s = s := by
        unfold lkA
        rw [hfr, hoN, hsen]
        by_cases d1 : iFt (I k) = 0
        · rw [if_pos d1, if_pos]
          rw [if_pos d1] at hai
          exact Int64.lt_iff_toInt_lt.mpr hai
        · rw [if_neg d1]
      refine skip ?_ htt ⟨hsz, hln, Or.inr (Or.inl ⟨j, ho', hlt⟩)⟩
      rw [lk, hA]
      unfold lkB
      rw [hfr, hbk]
      by_cases d1 : iFt (I k) = 0
      · rw [if_pos d1]
      · rw [if_neg d1]
        rw [if_neg d1] at hai
        by_cases d2 : iEt (I k) = 0
        · rw [if_pos d2, if_pos]
          rw [if_pos d2] at hai
          rw [Int64.lt_iff_toInt_lt, ed]
          split at hai <;> omega
        · rw [if_neg d2]
  · refine skip ?_ ?_ ⟨hsz, hln, Or.inr (Or.inr hl)⟩
    · unfold lk1
      rw [if_pos]
      rw [thV_eq]
      unfold thV
      rw [if_neg (by rw [hl.2.2.2.2.1]; decide)]
    · intro q
      have := congrArg Int64.toInt (hl.2.1.symm.trans q)
      rw [show (1000000000000 : Int64).toInt = 1000000000000 from rfl] at this
      omega
end ITEMLOOK
