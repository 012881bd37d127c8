/-! BeltSteps: stop, belt, feed, the constructor. -/
section S5
variable {dA : Nat → ClassId} {ad : Nat → Nat} {g : Nat → Option va_E} {nb ni : Nat} {now : Int64} {B : Nat → BT} {I : Nat → IT} {n : Nat} {tk : Int32} {fr : Nat → Int32}
theorem told_rep (h : SRep dA ad g nb ni now B I n tk fr) {k : Nat} (hk : k < nb) {on : Int32} {t : Int64} {g' : Nat → Option va_E} (hT : ∃ g1 : Nat → Option va_E, g1 = va_up g (bA ad k) (some (beltE (nI k) (bLen (B k)) (bSpd (B k)) (bSen (B k)) ((bOnto (B k)).map (bA ad)) on (bTel (B k) + 1) t (if t ≤ bTold (B k) then bGb (B k) else bFg (B k) (stageF (bTold (B k)) (t - 1)).toNatClampNeg) (wayF (bTold (B k)) (bFp (B k)) (bFw (B k)) t) (bG ad k) (bP ad k) (bW ad k))) ∧ Laid dA (bG ad k) (bP ad k) (bW ad k) (bSpd (B k)) on (if t ≤ bTold (B k) then bGb (B k) else bFg (B k) (stageF (bTold (B k)) (t - 1)).toNatClampNeg) (wayF (bTold (B k)) (bFp (B k)) (bFw (B k)) t) 8 g1 g') : ∃ b', IsTold (B k) b' on t ∧ SRep dA ad g' nb ni now (va_up B k b') I n tk fr ∧ SFr ad nb ni g g' := by
  obtain ⟨g1, e1, fg, fp, fw, l1, l2, l3, hI, hO⟩ := hT
  have hb := h.nb12
  have na : bA ad k ≠ bG ad k := h.ne (Or.inr (Or.inl (by omega))) (Or.inr (Or.inl (by omega))) (by omega)
  have np : bA ad k ≠ bP ad k := h.ne (Or.inr (Or.inl (by omega))) (Or.inr (Or.inl (by omega))) (by omega)
  have nw : bA ad k ≠ bW ad k := h.ne (Or.inr (Or.inl (by omega))) (Or.inr (Or.inl (by omega))) (by omega)
  refine ⟨(bLen (B k), bSpd (B k), bSen (B k), bOnto (B k), on, bTel (B k) + 1, t, gbT (B k) t, wayB (B k) t, fg, fp, fw), ⟨hI, rfl, rfl, rfl, rfl, rfl, rfl, rfl, rfl, rfl⟩, ?_, ?_⟩
  · refine h.setB hk (fun j hj => h.onto hk hj) ?_ l1 l2 l3 (fun q n0 n1 n2 n3 => ?_)
    · rw [hO _ na np nw, e1, va_up_self]; rfl
    · rw [hO q n1 n2 n3, e1, va_up_ne _ _ n0]
  · intro a e ha hg
    rw [hO a (ha _ (Or.inr (Or.inl (by omega)))) (ha _ (Or.inr (Or.inl (by omega)))) (ha _ (Or.inr (Or.inl (by omega)))), e1, va_up_ne _ _ (ha _ (Or.inr (Or.inl (by omega))))]
    exact hg
/-- what is new of a bigger state's own cells was free before -/
def SNew (ad ad' : Nat → Nat) (nb ni nb' ni' : Nat) (g : Nat → Option va_E) : Prop := ad' 0 = ad 0 ∧ ∀ r, okR nb' ni' r → (okR nb ni r ∧ ad' r = ad r) ∨ g (ad' r) = none
def adB (ad : Nat → Nat) (nb q ag ap aw : Nat) : Nat → Nat := fun r => if r = 5 + 4 * nb then q else if r = 6 + 4 * nb then ag else if r = 7 + 4 * nb then ap else if r = 8 + 4 * nb then aw else ad r
theorem adB_old {ad : Nat → Nat} {nb q ag ap aw r : Nat} (h : r < 5 + 4 * nb ∨ 9 + 4 * nb ≤ r) : adB ad nb q ag ap aw r = ad r := by
  unfold adB
  rw [if_neg (by omega), if_neg (by omega), if_neg (by omega), if_neg (by omega)]
theorem newBelt_rep (h : SRep dA ad g nb ni now B I n tk fr) (hnb : nb < 12) {q ag ap aw : Nat} (f0 : g q = none) (f1 : g ag = none) (f2 : g ap = none) (f3 : g aw = none) (d1 : q ≠ ag) (d2 : q ≠ ap) (d3 : q ≠ aw) (d4 : ag ≠ ap) (d5 : ag ≠ aw) (d6 : ap ≠ aw) {b : BT} (hon : bOnto b = none) {g' : Nat → Option va_E}
    (c0 : g' q = some (beltE (nI nb) (bLen b) (bSpd b) (bSen b) none (bRun b) (bTel b) (bTold b) (bGb b) (bWat b) ag ap aw)) (c1 : g' ag = some (intE dA 8 (bFg b))) (c2 : g' ap = some (lonE dA 8 (bFp b))) (c3 : g' aw = some (lonE dA 8 (bFw b))) (c4 : g' (ad 0) = some (sCell ad (nb + 1) ni now)) (c5 : g' (ad 1) = some (refE dA 3 12 (va_up (bTab ad nb) nb (some q)))) (ho : ∀ z, z ≠ q → z ≠ ag → z ≠ ap → z ≠ aw → z ≠ ad 0 → z ≠ ad 1 → g' z = g z) :
    SRep dA (adB ad nb q ag ap aw) g' (nb + 1) ni now (va_up B nb b) I n tk fr ∧ SNew ad (adB ad nb q ag ap aw) nb ni (nb + 1) ni g ∧ SFr ad nb ni g g' := by
  have e0 : adB ad nb q ag ap aw (5 + 4 * nb) = q := by unfold adB; rw [if_pos rfl]
  have e1 : adB ad nb q ag ap aw (6 + 4 * nb) = ag := by unfold adB; rw [if_neg (by omega), if_pos rfl]
  have e2 : adB ad nb q ag ap aw (7 + 4 * nb) = ap := by unfold adB; rw [if_neg (by omega), if_neg (by omega), if_pos rfl]
  have e3 : adB ad nb q ag ap aw (8 + 4 * nb) = aw := by unfold adB; rw [if_neg (by omega), if_neg (by omega), if_neg (by omega), if_pos rfl]
  have old : ∀ r, okR nb ni r → adB ad nb q ag ap aw r = ad r := fun r hr => adB_old (by rcases hr with h | h | h <;> omega)
  have own : ∀ r, okR nb ni r → ∃ e, g (ad r) = some e := by
    intro r hr
    rcases hr with h1 | h1 | h1
    · have : r = 0 ∨ r = 1 ∨ r = 2 ∨ r = 3 ∨ r = 4 := by omega
      rcases this with rfl | rfl | rfl | rfl | rfl
      · exact ⟨_, h.this⟩
      · exact ⟨_, h.bs⟩
      · exact ⟨_, h.is⟩
      · exact ⟨_, h.es⟩
      · exact ⟨_, h.rs⟩
    · obtain ⟨i, hi⟩ : ∃ i, i = (r - 5) / 4 := ⟨_, rfl⟩
      have hin : i < nb := by omega
      have : r = 5 + 4 * i ∨ r = 6 + 4 * i ∨ r = 7 + 4 * i ∨ r = 8 + 4 * i := by omega
      rcases this with rfl | rfl | rfl | rfl
      · exact ⟨_, h.b hin⟩
      · exact ⟨_, h.bg hin⟩
      · exact ⟨_, h.bp hin⟩
      · exact ⟨_, h.bw hin⟩
    · obtain ⟨i, rfl⟩ : ∃ i, r = 60 + i := ⟨r - 60, by omega⟩
      exact ⟨_, h.i (by omega)⟩
  have nq : ∀ r, okR nb ni r → ad r ≠ q := fun r hr => by obtain ⟨e, he⟩ := own r hr; exact ne_fresh he f0
  have ng : ∀ r, okR nb ni r → ad r ≠ ag := fun r hr => by obtain ⟨e, he⟩ := own r hr; exact ne_fresh he f1
  have np : ∀ r, okR nb ni r → ad r ≠ ap := fun r hr => by obtain ⟨e, he⟩ := own r hr; exact ne_fresh he f2
  have nw : ∀ r, okR nb ni r → ad r ≠ aw := fun r hr => by obtain ⟨e, he⟩ := own r hr; exact ne_fresh he f3
  have split : ∀ r, okR (nb + 1) ni r → okR nb ni r ∨ r = 5 + 4 * nb ∨ r = 6 + 4 * nb ∨ r = 7 + 4 * nb ∨ r = 8 + 4 * nb := by
    intro r hr
    rcases hr with h1 | h1 | h1
    · exact Or.inl (Or.inl h1)
    · by_cases h2 : r < 5 + 4 * nb
      · exact Or.inl (Or.inr (Or.inl ⟨h1.1, h2⟩))
      · exact Or.inr (by omega)
    · exact Or.inl (Or.inr (Or.inr h1))
  have keep : ∀ r, okR nb ni r → r ≠ 0 → r ≠ 1 → g' (ad r) = g (ad r) := fun r hr n0 n1 => ho _ (nq r hr) (ng r hr) (np r hr) (nw r hr) (h.ne hr (ok0 (by omega)) n0) (h.ne hr (ok0 (by omega)) n1)
  refine ⟨⟨?_, ?_, ?_, ?_, ?_, ?_, ?_, ?_, by omega, h.ni60, ?_, ?_⟩, ?_, ?_⟩
  · intro r r' hr hr' e
    rcases split r hr with h1 | rfl | rfl | rfl | rfl <;> rcases split r' hr' with h2 | rfl | rfl | rfl | rfl <;>
      (try rw [old r h1] at e) <;> (try rw [old r' h2] at e) <;> (try simp only [e0, e1, e2, e3] at e) <;> first
      | rfl
      | exact h.1 r r' h1 h2 e
      | exact absurd e (nq _ h1) | exact absurd e (ng _ h1) | exact absurd e (np _ h1) | exact absurd e (nw _ h1)
      | exact absurd e.symm (nq _ h2) | exact absurd e.symm (ng _ h2) | exact absurd e.symm (np _ h2) | exact absurd e.symm (nw _ h2)
      | exact absurd e d1 | exact absurd e d2 | exact absurd e d3 | exact absurd e d4 | exact absurd e d5 | exact absurd e d6
      | exact absurd e.symm d1 | exact absurd e.symm d2 | exact absurd e.symm d3 | exact absurd e.symm d4 | exact absurd e.symm d5 | exact absurd e.symm d6
  · rw [old 0 (ok0 (by omega)), c4]
    show some (sCell ad (nb + 1) ni now) = some (.inr (3, [.ref (adB ad nb q ag ap aw 1), _, .ref (adB ad nb q ag ap aw 2), _, .ref (adB ad nb q ag ap aw 3), _]))
    rw [old 1 (ok0 (by omega)), old 2 (ok0 (by omega)), old 3 (ok0 (by omega))]
  · rw [old 1 (ok0 (by omega)), c5]
    congr 7
    funext i
    unfold bTab
    by_cases hi : i = nb
    · subst hi
      rw [va_up_self, if_pos (by omega)]
      show some q = some (adB ad i q ag ap aw (5 + 4 * i))
      rw [e0]
    · rw [va_up_ne _ _ hi]
      by_cases h2 : i < nb
      · rw [if_pos h2, if_pos (by omega)]
        show some (ad (5 + 4 * i)) = some (adB ad nb q ag ap aw (5 + 4 * i))
        rw [adB_old (Or.inl (by omega))]
      · rw [if_neg h2, if_neg (by omega)]
  · rw [old 2 (ok0 (by omega)), keep 2 (ok0 (by omega)) (by omega) (by omega), h.is]
    refine congrArg (fun f => some (refE dA 4 60 f)) (funext fun i => ?_)
    unfold iTab
    by_cases h2 : i < ni
    · rw [if_pos h2, if_pos h2]
      show some (ad (60 + i)) = some (adB ad nb q ag ap aw (60 + i))
      rw [adB_old (Or.inr (by omega))]
    · rw [if_neg h2, if_neg h2]
  · rw [old 3 (ok0 (by omega)), keep 3 (ok0 (by omega)) (by omega) (by omega), h.es, old 4 (ok0 (by omega))]
  · rw [old 4 (ok0 (by omega)), keep 4 (ok0 (by omega)) (by omega) (by omega), h.rs]
  · intro i hi
    by_cases hin : i = nb
    · subst hin
      rw [va_up_self]
      show g' (adB ad i q ag ap aw (5 + 4 * i)) = some (beltE _ _ _ _ ((bOnto b).map _) _ _ _ _ _ (adB ad i q ag ap aw (6 + 4 * i)) (adB ad i q ag ap aw (7 + 4 * i)) (adB ad i q ag ap aw (8 + 4 * i))) ∧ g' (adB ad i q ag ap aw (6 + 4 * i)) = _ ∧ g' (adB ad i q ag ap aw (7 + 4 * i)) = _ ∧ g' (adB ad i q ag ap aw (8 + 4 * i)) = _
      rw [e0, e1, e2, e3, hon]
      exact ⟨c0, c1, c2, c3⟩
    · have h2 : i < nb := by omega
      rw [va_up_ne _ _ hin]
      show g' (adB ad nb q ag ap aw (5 + 4 * i)) = some (beltE _ _ _ _ ((bOnto (B i)).map _) _ _ _ _ _ (adB ad nb q ag ap aw (6 + 4 * i)) (adB ad nb q ag ap aw (7 + 4 * i)) (adB ad nb q ag ap aw (8 + 4 * i))) ∧ g' (adB ad nb q ag ap aw (6 + 4 * i)) = _ ∧ g' (adB ad nb q ag ap aw (7 + 4 * i)) = _ ∧ g' (adB ad nb q ag ap aw (8 + 4 * i)) = _
      rw [adB_old (r := 5 + 4 * i) (Or.inl (by omega)), adB_old (r := 6 + 4 * i) (Or.inl (by omega)), adB_old (r := 7 + 4 * i) (Or.inl (by omega)), adB_old (r := 8 + 4 * i) (Or.inl (by omega)), keep _ (Or.inr (Or.inl (by omega))) (by omega) (by omega), keep _ (Or.inr (Or.inl (by omega))) (by omega) (by omega), keep _ (Or.inr (Or.inl (by omega))) (by omega) (by omega), keep _ (Or.inr (Or.inl (by omega))) (by omega) (by omega)]
      have hm : (bOnto (B i)).map (bA (adB ad nb q ag ap aw)) = (bOnto (B i)).map (bA ad) := by
        cases ho2 : bOnto (B i) with
        | none => rfl
        | some j =>
          have := h.onto h2 ho2
          show some (adB ad nb q ag ap aw (5 + 4 * j)) = some (ad (5 + 4 * j))
          rw [adB_old (Or.inl (by omega))]
      rw [hm]
      exact ⟨h.b h2, h.bg h2, h.bp h2, h.bw h2⟩
  · intro i hi
    show g' (adB ad nb q ag ap aw (60 + i)) = some (itemE _ _ ((iBt (I i)).map _) _ _ _ _ _)
    rw [adB_old (Or.inr (by omega)), keep _ (okI hi) (by omega) (by omega), h.i hi]
    have hm : (iBt (I i)).map (bA (adB ad nb q ag ap aw)) = (iBt (I i)).map (bA ad) := by
      cases ho2 : iBt (I i) with
      | none => rfl
      | some j =>
        have := h.bt hi ho2
        show some (adB ad nb q ag ap aw (5 + 4 * j)) = some (ad (5 + 4 * j))
        rw [adB_old (Or.inl (by omega))]
    rw [hm]
  · intro i hi j hj
    by_cases hin : i = nb
    · subst hin
      rw [va_up_self, hon] at hj
      cases hj
    · rw [va_up_ne _ _ hin] at hj
      have := h.onto (by omega) hj
      omega
  · intro i hi j hj
    have := h.bt hi hj
    omega
  · refine ⟨old 0 (ok0 (by omega)), fun r hr => ?_⟩
    rcases split r hr with h1 | rfl | rfl | rfl | rfl
    · exact Or.inl ⟨h1, old r h1⟩
    · rw [e0]; exact Or.inr f0
    · rw [e1]; exact Or.inr f1
    · rw [e2]; exact Or.inr f2
    · rw [e3]; exact Or.inr f3
  · intro a e ha hg
    rw [ho a (ne_fresh hg f0) (ne_fresh hg f1) (ne_fresh hg f2) (ne_fresh hg f3) (ha 0 (ok0 (by omega))) (ha 1 (ok0 (by omega)))]
    exact hg
theorem newItem_rep (h : SRep dA ad g nb ni now B I n tk fr) (hni : ni < 60) {q : Nat} (f0 : g q = none) {x : IT} (hx : ∀ j, iBt x = some j → j < nb) {g' : Nat → Option va_E}
    (c0 : g' q = some (iCell ad ni x)) (c4 : g' (ad 0) = some (sCell ad nb (ni + 1) now)) (c5 : g' (ad 2) = some (refE dA 4 60 (va_up (iTab ad ni) ni (some q)))) (ho : ∀ z, z ≠ q → z ≠ ad 0 → z ≠ ad 2 → g' z = g z) :
    SRep dA (va_up ad (60 + ni) q) g' nb (ni + 1) now B (va_up I ni x) n tk fr ∧ SNew ad (va_up ad (60 + ni) q) nb ni nb (ni + 1) g ∧ SFr ad nb ni g g' := by
  have hb := h.nb12
  have old : ∀ r, r ≠ 60 + ni → va_up ad (60 + ni) q r = ad r := fun r hr => va_up_ne _ _ hr
  have oldR : ∀ r, okR nb ni r → va_up ad (60 + ni) q r = ad r := fun r hr => old r (by rcases hr with h | h | h <;> omega)
  have own : ∀ r, okR nb ni r → ∃ e, g (ad r) = some e := by
    intro r hr
    rcases hr with h1 | h1 | h1
    · have : r = 0 ∨ r = 1 ∨ r = 2 ∨ r = 3 ∨ r = 4 := by omega
      rcases this with rfl | rfl | rfl | rfl | rfl
      · exact ⟨_, h.this⟩
      · exact ⟨_, h.bs⟩
      · exact ⟨_, h.is⟩
      · exact ⟨_, h.es⟩
      · exact ⟨_, h.rs⟩
    · obtain ⟨i, hi⟩ : ∃ i, i = (r - 5) / 4 := ⟨_, rfl⟩
      have hin : i < nb := by omega
      have : r = 5 + 4 * i ∨ r = 6 + 4 * i ∨ r = 7 + 4 * i ∨ r = 8 + 4 * i := by omega
      rcases this with rfl | rfl | rfl | rfl
      · exact ⟨_, h.b hin⟩
      · exact ⟨_, h.bg hin⟩
      · exact ⟨_, h.bp hin⟩
      · exact ⟨_, h.bw hin⟩
    · obtain ⟨i, rfl⟩ : ∃ i, r = 60 + i := ⟨r - 60, by omega⟩
      exact ⟨_, h.i (by omega)⟩
  have nq : ∀ r, okR nb ni r → ad r ≠ q := fun r hr => by obtain ⟨e, he⟩ := own r hr; exact ne_fresh he f0
  have split : ∀ r, okR nb (ni + 1) r → okR nb ni r ∨ r = 60 + ni := by
    intro r hr
    rcases hr with h1 | h1 | h1
    · exact Or.inl (Or.inl h1)
    · exact Or.inl (Or.inr (Or.inl h1))
    · by_cases h2 : r < 60 + ni
      · exact Or.inl (Or.inr (Or.inr ⟨h1.1, h2⟩))
      · exact Or.inr (by omega)
  have keep : ∀ r, okR nb ni r → r ≠ 0 → r ≠ 2 → g' (ad r) = g (ad r) := fun r hr n0 n1 => ho _ (nq r hr) (h.ne hr (ok0 (by omega)) n0) (h.ne hr (ok0 (by omega)) n1)
  have mp : ∀ y : IT, (∀ j, iBt y = some j → j < nb) → (iBt y).map (bA (va_up ad (60 + ni) q)) = (iBt y).map (bA ad) := by
    intro y hy
    cases ho2 : iBt y with
    | none => rfl
    | some j =>
      have := hy j ho2
      show some (va_up ad (60 + ni) q (5 + 4 * j)) = some (ad (5 + 4 * j))
      rw [old _ (by omega)]
  refine ⟨⟨?_, ?_, ?_, ?_, ?_, ?_, ?_, ?_, hb, by omega, fun i hi j => h.onto hi, ?_⟩, ?_, ?_⟩
  · intro r r' hr hr' e
    rcases split r hr with h1 | rfl <;> rcases split r' hr' with h2 | rfl
    · rw [oldR r h1, oldR r' h2] at e; exact h.1 r r' h1 h2 e
    · rw [oldR r h1, va_up_self] at e; exact absurd e (nq r h1)
    · rw [oldR r' h2, va_up_self] at e; exact absurd e.symm (nq r' h2)
    · rfl
  · rw [old 0 (by omega), c4]
    show some (sCell ad nb (ni + 1) now) = some (.inr (3, [.ref (va_up ad (60 + ni) q 1), _, .ref (va_up ad (60 + ni) q 2), _, .ref (va_up ad (60 + ni) q 3), _]))
    rw [old 1 (by omega), old 2 (by omega), old 3 (by omega)]
  · rw [old 1 (by omega), keep 1 (ok0 (by omega)) (by omega) (by omega), h.bs]
    refine congrArg (fun f => some (refE dA 3 12 f)) (funext fun i => ?_)
    unfold bTab
    by_cases h2 : i < nb
    · rw [if_pos h2, if_pos h2]
      show some (ad (5 + 4 * i)) = some (va_up ad (60 + ni) q (5 + 4 * i))
      rw [old _ (by omega)]
    · rw [if_neg h2, if_neg h2]
  · rw [old 2 (by omega), c5]
    congr 7
    funext i
    unfold iTab
    by_cases hi : i = ni
    · subst hi
      rw [va_up_self, if_pos (by omega)]
      show some q = some (va_up ad (60 + i) q (60 + i))
      rw [va_up_self]
    · rw [va_up_ne _ _ hi]
      by_cases h2 : i < ni
      · rw [if_pos h2, if_pos (by omega)]
        show some (ad (60 + i)) = some (va_up ad (60 + ni) q (60 + i))
        rw [old _ (by omega)]
      · rw [if_neg h2, if_neg (by omega)]
  · rw [old 3 (by omega), keep 3 (ok0 (by omega)) (by omega) (by omega), h.es, old 4 (by omega)]
  · rw [old 4 (by omega), keep 4 (ok0 (by omega)) (by omega) (by omega), h.rs]
  · intro i hi
    show g' (va_up ad (60 + ni) q (5 + 4 * i)) = some (beltE _ _ _ _ ((bOnto (B i)).map _) _ _ _ _ _ (va_up ad (60 + ni) q (6 + 4 * i)) (va_up ad (60 + ni) q (7 + 4 * i)) (va_up ad (60 + ni) q (8 + 4 * i))) ∧ g' (va_up ad (60 + ni) q (6 + 4 * i)) = _ ∧ g' (va_up ad (60 + ni) q (7 + 4 * i)) = _ ∧ g' (va_up ad (60 + ni) q (8 + 4 * i)) = _
    have hm : (bOnto (B i)).map (bA (va_up ad (60 + ni) q)) = (bOnto (B i)).map (bA ad) := by
      cases ho2 : bOnto (B i) with
      | none => rfl
      | some j =>
        have := h.onto hi ho2
        show some (va_up ad (60 + ni) q (5 + 4 * j)) = some (ad (5 + 4 * j))
        rw [old _ (by omega)]
    rw [old (5 + 4 * i) (by omega), old (6 + 4 * i) (by omega), old (7 + 4 * i) (by omega), old (8 + 4 * i) (by omega), keep _ (Or.inr (Or.inl (by omega))) (by omega) (by omega), keep _ (Or.inr (Or.inl (by omega))) (by omega) (by omega), keep _ (Or.inr (Or.inl (by omega))) (by omega) (by omega), keep _ (Or.inr (Or.inl (by omega))) (by omega) (by omega), hm]
    exact ⟨h.b hi, h.bg hi, h.bp hi, h.bw hi⟩
  · intro i hi
    by_cases hin : i = ni
    · subst hin
      rw [va_up_self]
      show g' (va_up ad (60 + i) q (60 + i)) = some (itemE _ _ ((iBt x).map _) _ _ _ _ _)
      rw [va_up_self, mp x hx]
      exact c0
    · have h2 : i < ni := by omega
      rw [va_up_ne _ _ hin]
      show g' (va_up ad (60 + ni) q (60 + i)) = some (itemE _ _ ((iBt (I i)).map _) _ _ _ _ _)
      rw [old _ (by omega), keep _ (okI h2) (by omega) (by omega), mp (I i) (fun j hj => h.bt h2 hj)]
      exact h.i h2
  · intro i hi j hj
    by_cases hin : i = ni
    · subst hin
      rw [va_up_self] at hj
      exact hx j hj
    · rw [va_up_ne _ _ hin] at hj
      exact h.bt (by omega) hj
  · refine ⟨old 0 (by omega), fun r hr => ?_⟩
    rcases split r hr with h1 | rfl
    · exact Or.inl ⟨h1, oldR r h1⟩
    · rw [va_up_self]; exact Or.inr f0
  · intro a e ha hg
    rw [ho a (ne_fresh hg f0) (ha 0 (ok0 (by omega))) (ha 2 (ok0 (by omega)))]
    exact hg
end S5
