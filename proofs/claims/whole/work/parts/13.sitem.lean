theorem CtI.mono {l : Launch} {D : va_G} {cl : List vw_C} {tys : List (ClassId × FieldType)} {y : MethodName} {b : ByteArray} {nM : Nat} {ret : Option FieldType} {rm : Room} {av : List Value} {g : Nat → Option va_E} {post post' : Int32 → (Nat → Option va_E) → Prop} (hM : CtI l D cl tys y b nM ret rm av g post) (h : ∀ r g', post r g' → post' r g') : CtI l D cl tys y b nM ret rm av g post' := by
  intro sz p e ha hc hk s m args below hf happ hP hK
  obtain ⟨n, o, h1, h2, h3, ⟨⟨r, u, e1, e2, e3⟩, hF⟩, hL⟩ := hM sz p e ha hc hk s m args below hf happ hP hK
  exact ⟨n, o, h1, h2, h3, ⟨⟨r, u, e1, h r u e2, e3⟩, hF⟩, hL⟩
theorem CtL.mono {l : Launch} {D : va_G} {cl : List vw_C} {tys : List (ClassId × FieldType)} {y : MethodName} {b : ByteArray} {nM : Nat} {ret : Option FieldType} {rm : Room} {av : List Value} {g : Nat → Option va_E} {post post' : Int64 → (Nat → Option va_E) → Prop} (hM : CtL l D cl tys y b nM ret rm av g post) (h : ∀ r g', post r g' → post' r g') : CtL l D cl tys y b nM ret rm av g post' := by
  intro sz p e ha hc hk s m args below hf happ hP hK
  obtain ⟨n, o, h1, h2, h3, ⟨⟨r, u, e1, e2, e3⟩, hF⟩, hL⟩ := hM sz p e ha hc hk s m args below hf happ hP hK
  exact ⟨n, o, h1, h2, h3, ⟨⟨r, u, e1, h r u e2, e3⟩, hF⟩, hL⟩
theorem CtV.mono {l : Launch} {D : va_G} {cl : List vw_C} {tys : List (ClassId × FieldType)} {y : MethodName} {b : ByteArray} {nM : Nat} {ret : Option FieldType} {rm : Room} {av : List Value} {g : Nat → Option va_E} {post post' : (Nat → Option va_E) → Prop} (hM : CtV l D cl tys y b nM ret rm av g post) (h : ∀ g', post g' → post' g') : CtV l D cl tys y b nM ret rm av g post' := by
  intro sz p e ha hc hk s m args below hf happ hP hK
  obtain ⟨n, o, h1, h2, h3, ⟨⟨u, e1, e2, e3⟩, hF⟩, hL⟩ := hM sz p e ha hc hk s m args below hf happ hP hK
  exact ⟨n, o, h1, h2, h3, ⟨⟨u, e1, h u e2, e3⟩, hF⟩, hL⟩
theorem CtR.mono {l : Launch} {D : va_G} {cl : List vw_C} {tys : List (ClassId × FieldType)} {y : MethodName} {b : ByteArray} {nM : Nat} {ret : Option FieldType} {rm : Room} {av : List Value} {g : Nat → Option va_E} {post post' : Option Nat → (Nat → Option va_E) → Prop} (hM : CtR l D cl tys y b nM ret rm av g post) (h : ∀ r g', post r g' → post' r g') : CtR l D cl tys y b nM ret rm av g post' := by
  intro sz p e ha hc hk s m args below hf happ hP hK
  obtain ⟨n, o, h1, h2, h3, ⟨⟨r, u, e1, e2, e3⟩, hF⟩, hL⟩ := hM sz p e ha hc hk s m args below hf happ hP hK
  exact ⟨n, o, h1, h2, h3, ⟨⟨r, u, e1, h r u e2, e3⟩, hF⟩, hL⟩
section SITEM
variable {l : Launch} {D : va_G} {dA : Nat → ClassId} {ad : Nat → Nat} {g : Nat → Option va_E} {nb ni : Nat} {now : Int64} {B : Nat → BT} {I : Nat → IT} {n : Nat} {tk : Int32} {fr : Nat → Int32}
theorem iC_s {i j : Nat} {x : IT} (hb : iBt x = some j) : iCell ad i x = itemE (nI (i + 1)) (iLen x) (some (bA ad j)) (iWt x) (iTurn x) (iStart x) (iFt x) (iEt x) := by
  show itemE _ _ ((iBt x).map (bA ad)) _ _ _ _ _ = _
  rw [hb]
  rfl
theorem iC_n {i : Nat} {x : IT} (hb : iBt x = none) : iCell ad i x = itemE (nI (i + 1)) (iLen x) none (iWt x) (iTurn x) (iStart x) (iFt x) (iEt x) := by
  show itemE _ _ ((iBt x).map (bA ad)) _ _ _ _ _ = _
  rw [hb]
  rfl
theorem bC_s {i j : Nat} {b : BT} (hb : bOnto b = some j) : bCell ad i b = beltE (nI i) (bLen b) (bSpd b) (bSen b) (some (bA ad j)) (bRun b) (bTel b) (bTold b) (bGb b) (bWat b) (bG ad i) (bP ad i) (bW ad i) := by
  show beltE _ _ _ _ ((bOnto b).map (bA ad)) _ _ _ _ _ _ _ _ = _
  rw [hb]
  rfl
theorem bC_n {i : Nat} {b : BT} (hb : bOnto b = none) : bCell ad i b = beltE (nI i) (bLen b) (bSpd b) (bSen b) none (bRun b) (bTel b) (bTold b) (bGb b) (bWat b) (bG ad i) (bP ad i) (bW ad i) := by
  show beltE _ _ _ _ ((bOnto b).map (bA ad)) _ _ _ _ _ _ _ _ = _
  rw [hb]
  rfl
theorem SRep.iS (h : SRep dA ad g nb ni now B I n tk fr) {i j : Nat} (hi : i < ni) (hb : iBt (I i) = some j) : g (iA ad i) = some (itemE (nI (i + 1)) (iLen (I i)) (some (bA ad j)) (iWt (I i)) (iTurn (I i)) (iStart (I i)) (iFt (I i)) (iEt (I i))) := by rw [h.i hi, iC_s hb]
theorem SRep.iN (h : SRep dA ad g nb ni now B I n tk fr) {i : Nat} (hi : i < ni) (hb : iBt (I i) = none) : g (iA ad i) = some (itemE (nI (i + 1)) (iLen (I i)) none (iWt (I i)) (iTurn (I i)) (iStart (I i)) (iFt (I i)) (iEt (I i))) := by rw [h.i hi, iC_n hb]
theorem SRep.bS (h : SRep dA ad g nb ni now B I n tk fr) {i j : Nat} (hi : i < nb) (hb : bOnto (B i) = some j) : g (bA ad i) = some (beltE (nI i) (bLen (B i)) (bSpd (B i)) (bSen (B i)) (some (bA ad j)) (bRun (B i)) (bTel (B i)) (bTold (B i)) (bGb (B i)) (bWat (B i)) (bG ad i) (bP ad i) (bW ad i)) := by rw [h.b hi, bC_s hb]
theorem SRep.bN (h : SRep dA ad g nb ni now B I n tk fr) {i : Nat} (hi : i < nb) (hb : bOnto (B i) = none) : g (bA ad i) = some (beltE (nI i) (bLen (B i)) (bSpd (B i)) (bSen (B i)) none (bRun (B i)) (bTel (B i)) (bTold (B i)) (bGb (B i)) (bWat (B i)) (bG ad i) (bP ad i) (bW ad i)) := by rw [h.b hi, bC_n hb]
/-- Item.moveOver on the state -/
theorem s_moveOver (h : SRep dA ad g nb ni now B I n tk fr) {i : Nat} (hi : i < ni) (t : Int64) : CtV l D classes (tyL dA) y_I_moveOver b_I_moveOver 5 none rm_I_moveOver [.ref (iA ad i), .long t] g (fun g' => g' = va_up g (iA ad i) (some (iCell ad i (moveI B (I i) t)))) := by
  cases hb : iBt (I i) with
  | none =>
    refine (c_I_moveOver_n (h.iN hi hb) t).mono (fun g' e => ?_)
    rw [← e, show moveI B (I i) t = I i by unfold moveI; rw [hb]]
    exact (va_up_id (h.i hi)).symm
  | some j =>
    have hj := h.bt hi hb
    cases ho : bOnto (B j) with
    | none =>
      refine (c_I_moveOver_o (h.iS hi hb) (h.bN hj ho) (h.bp hj) (h.bw hj) t).mono (fun g' e => ?_)
      rw [e]
      congr 2
      unfold moveI
      rw [hb]
      simp only [ho, wayB]
      by_cases h1 : iWt (I i) = 0
      · rw [if_pos h1, if_pos h1]
        by_cases h2 : 0 ≤ wayF (bTold (B j)) (bFp (B j)) (bFw (B j)) t - iStart (I i) - bLen (B j)
        · rw [if_pos h2, if_pos h2]; rfl
        · rw [if_neg h2, if_neg h2, iC_s hb]
      · rw [if_neg h1, if_neg h1]; rfl
    | some k =>
      have hk := h.onto hj ho
      refine (c_I_moveOver_s (h.iS hi hb) (h.bS hj ho) (h.bp hj) (h.bw hj) (h.b hk) (h.bp hk) (h.bw hk) t).mono (fun g' e => ?_)
      rw [e]
      congr 2
      unfold moveI
      rw [hb]
      simp only [ho, wayB]
      by_cases h1 : iWt (I i) = 0
      · rw [if_pos h1, if_pos h1]
        by_cases h2 : 0 ≤ wayF (bTold (B j)) (bFp (B j)) (bFw (B j)) t - iStart (I i) - bLen (B j)
        · rw [if_pos h2, if_pos h2]; rfl
        · rw [if_neg h2, if_neg h2, iC_s hb]
      · rw [if_neg h1, if_neg h1]; rfl
/-- Item.aim on the state -/
theorem s_aim (h : SRep dA ad g nb ni now B I n tk fr) {i : Nat} (hi : i < ni) : CtV l D classes (tyL dA) y_I_aim b_I_aim 3 none rm_I_aim [.ref (iA ad i)] g (fun g' => g' = va_up g (iA ad i) (some (iCell ad i (aimI B (I i))))) := by
  cases hb : iBt (I i) with
  | none =>
    refine (c_I_aim_n (h.iN hi hb)).mono (fun g' e => ?_)
    rw [← e, show aimI B (I i) = I i by unfold aimI; rw [hb]]
    exact (va_up_id (h.i hi)).symm
  | some j =>
    have hj := h.bt hi hb
    refine (c_I_aim (h.iS hi hb) (h.b hj) (h.bp hj) (h.bw hj)).mono (fun g' e => ?_)
    rw [e]
    congr 2
    unfold aimI
    rw [hb]
    rfl
/-- Item.comeOnto on the state -/
theorem s_comeOnto (h : SRep dA ad g nb ni now B I n tk fr) {i j : Nat} (hi : i < ni) (hj : j < nb) (t pl : Int64) : CtV l D classes (tyL dA) y_I_comeOnto b_I_comeOnto 6 none rm_I_comeOnto [.ref (iA ad i), .ref (bA ad j), .long t, .long pl] g (fun g' => g' = va_up g (iA ad i) (some (iCell ad i (comeI B (I i) j t pl)))) := by
  refine (c_I_comeOnto (h.i hi) (h.b hj) (h.bp hj) (h.bw hj) t pl).mono (fun g' e => ?_)
  rw [e]
  rfl
/-- Item.isOn, isOnABelt, placeAt on the state -/
theorem bA_inj (h : SRep dA ad g nb ni now B I n tk fr) {j k : Nat} (hj : j < nb) (hk : k < nb) (e : bA ad j = bA ad k) : j = k := by
  have := h.1 _ _ (okB (k := 0) hj (by omega)) (okB (k := 0) hk (by omega)) e
  omega
theorem bt_eq (h : SRep dA ad g nb ni now B I n tk fr) {i j : Nat} (hi : i < ni) (hj : j < nb) : ((iBt (I i)).map (bA ad) = some (bA ad j)) ↔ iBt (I i) = some j := by
  cases hb : iBt (I i) with
  | none => simp
  | some k =>
    constructor
    · intro q
      have q2 : bA ad k = bA ad j := Option.some.inj q
      rw [bA_inj h (h.bt hi hb) hj q2]
    · intro q
      rw [Option.some.inj q]
      rfl
def isOnF (I : Nat → IT) (i j : Nat) : Int32 := if iBt (I i) = some j then (if iWt (I i) = 0 then 1 else 0) else 0
theorem s_isOn (h : SRep dA ad g nb ni now B I n tk fr) {i j : Nat} (hi : i < ni) (hj : j < nb) : CtI l D classes (tyL dA) y_I_isOn b_I_isOn 2 (some .boolean) rm_I_isOn [.ref (iA ad i), .ref (bA ad j)] g (fun r g' => g = g' ∧ r = isOnF I i j) := by
  refine (c_I_isOn (h.i hi) (bA ad j)).mono (fun r g' e => ⟨e.1, ?_⟩)
  rw [e.2]
  unfold isOnF
  by_cases hb : iBt (I i) = some j
  · rw [if_pos hb, if_pos ((bt_eq h hi hj).mpr hb)]
  · rw [if_neg hb, if_neg (fun q => hb ((bt_eq h hi hj).mp q))]
def onF (x : IT) : Int32 := match iBt x with
  | none => 0
  | some _ => if iWt x = 0 then 1 else 0
theorem s_isOnABelt (h : SRep dA ad g nb ni now B I n tk fr) {i : Nat} (hi : i < ni) : CtI l D classes (tyL dA) y_I_isOnABelt b_I_isOnABelt 1 (some .boolean) rm_I_isOnABelt [.ref (iA ad i)] g (fun r g' => g = g' ∧ r = onF (I i)) := by
  cases hb : iBt (I i) with
  | none =>
    refine (c_I_isOnABelt_n (h.iN hi hb)).mono (fun r g' e => ⟨e.1, ?_⟩)
    rw [e.2]; unfold onF; rw [hb]
  | some j =>
    refine (c_I_isOnABelt_s (h.iS hi hb)).mono (fun r g' e => ⟨e.1, ?_⟩)
    rw [e.2]; unfold onF; rw [hb]
theorem s_placeAt (h : SRep dA ad g nb ni now B I n tk fr) {i j : Nat} (hi : i < ni) (hb : iBt (I i) = some j) (t : Int64) : CtL l D classes (tyL dA) y_I_placeAt b_I_placeAt 3 (some .long) rm_I_placeAt [.ref (iA ad i), .long t] g (fun r g' => g = g' ∧ r = wayB (B j) t - iStart (I i)) :=
  c_I_placeAt (h.iS hi hb) (h.b (h.bt hi hb)) (h.bp (h.bt hi hb)) (h.bw (h.bt hi hb)) t
theorem s_wayAt (h : SRep dA ad g nb ni now B I n tk fr) {j : Nat} (hj : j < nb) (t : Int64) : CtL l D classes (tyL dA) y_B_wayAt b_B_wayAt 4 (some .long) rm_B_wayAt [.ref (bA ad j), .long t] g (fun r g' => g = g' ∧ r = wayB (B j) t) := c_B_wayAt (h.b hj) (h.bp hj) (h.bw hj) t
theorem s_timeOfWay (h : SRep dA ad g nb ni now B I n tk fr) {j : Nat} (hj : j < nb) (w : Int64) : CtL l D classes (tyL dA) y_B_timeOfWay b_B_timeOfWay 10 (some .long) rm_B_timeOfWay [.ref (bA ad j), .long w] g (fun r g' => g = g' ∧ r = towB (B j) w) := c_B_timeOfWay (h.b hj) (h.bp hj) (h.bw hj) w
theorem s_gearAt (h : SRep dA ad g nb ni now B I n tk fr) {j : Nat} (hj : j < nb) (t : Int64) : CtI l D classes (tyL dA) y_B_gearAt b_B_gearAt 3 (some .int) rm_B_gearAt [.ref (bA ad j), .long t] g (fun r g' => g = g' ∧ r = bFg (B j) (stageF (bTold (B j)) t).toNatClampNeg) := c_B_gearAt (h.b hj) (h.bg hj) t
/-- EdgeList on the state -/
theorem s_add (h : SRep dA ad g nb ni now B I n tk fr) (hn : n < 2 ^ 31) (t : Int64) (b i k : Int32) : CtV l D classes (tyL dA) y_E_add b_E_add 7 none rm_E_add [.ref (ad 3), .long t, .int b, .int i, .int k] g (fun g' => SRep dA ad g' nb ni now B I (addE (n, fr) t b i k).1 tk (addE (n, fr) t b i k).2 ∧ SFr ad nb ni g g') := by
  refine (c_E_add h.es h.rs hn t b i k).mono (fun g' e => ?_)
  rw [e]
  refine ⟨h.setE, ?_⟩
  exact (SFr.up (ok0 (by omega))).trans (SFr.up (ok0 (by omega)))
end SITEM
