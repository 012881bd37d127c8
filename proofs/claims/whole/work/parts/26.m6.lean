/-! The reference's constructor. -/
def CInv (g0 : Nat → Option va_E) (a : Nat) (g : Nat → Option va_E) (C : List (Nat × (ClassId × vp_A))) : Prop :=
  (∀ p ∈ C, g p.1 = some (.inl p.2)) ∧ (C.map Prod.fst).Nodup ∧ (∀ p ∈ C, g0 p.1 = none) ∧ (∀ z e, z ≠ a → g0 z = some e → g z = some e) ∧ (∃ o, g a = some (.inr o)) ∧ (∃ e, g0 a = some e)
theorem CInv.new {g0 g g' : Nat → Option va_E} {a q : Nat} {C : List (Nat × (ClassId × vp_A))} {c : ClassId × vp_A} (h : CInv g0 a g C) (hq : g q = none) (e : g' = va_up g q (some (.inl c))) : CInv g0 a g' ((q, c) :: C) := by
  obtain ⟨h1, h2, h3, h4, ⟨o, h5⟩, ⟨e0, h6⟩⟩ := h
  have hqa : a ≠ q := ne_fresh h5 hq
  refine ⟨fun p hp => ?_, ?_, fun p hp => ?_, fun z w hz hw => ?_, ⟨o, by rw [e, va_up_ne _ _ hqa]; exact h5⟩, ⟨e0, h6⟩⟩
  · rcases List.mem_cons.mp hp with rfl | hp
    · rw [e, va_up_self]
    · rw [e, va_up_ne _ _ (ne_fresh (h1 p hp) hq)]; exact h1 p hp
  · refine List.nodup_cons.mpr ⟨fun hm => ?_, h2⟩
    obtain ⟨p, hp, e1⟩ := List.mem_map.mp hm
    exact ne_fresh (h1 p hp) hq e1
  · rcases List.mem_cons.mp hp with rfl | hp
    · cases hg : g0 q with
      | none => rfl
      | some w => rw [h4 q w hqa.symm hg] at hq; cases hq
    · exact h3 p hp
  · rw [e, va_up_ne _ _ (ne_fresh (h4 z w hz hw) hq)]; exact h4 z w hz hw
theorem CInv.put {g0 g g' : Nat → Option va_E} {a : Nat} {C : List (Nat × (ClassId × vp_A))} {o' : Nat × List Value} (h : CInv g0 a g C) (e : g' = va_up g a (some (.inr o'))) : CInv g0 a g' C := by
  obtain ⟨h1, h2, h3, h4, ⟨o, h5⟩, h6⟩ := h
  exact ⟨fun p hp => by rw [e, va_up_ne _ _ (ne_kind2 (h1 p hp) h5)]; exact h1 p hp, h2, h3, fun z w hz hw => by rw [e, va_up_ne _ _ hz]; exact h4 z w hz hw, ⟨o', by rw [e, va_up_self]⟩, h6⟩
theorem CInv.na {g0 g : Nat → Option va_E} {a : Nat} {C : List (Nat × (ClassId × vp_A))} (h : CInv g0 a g C) : a ∉ C.map Prod.fst := by
  intro hm
  obtain ⟨p, hp, e1⟩ := List.mem_map.mp hm
  obtain ⟨o, h5⟩ := h.2.2.2.2.1
  exact ne_kind2 (h.1 p hp) h5 e1
theorem nd_inj {l : List Nat} (h : l.Nodup) {i j d : Nat} (hi : i < l.length) (hj : j < l.length) (e : l.getD i d = l.getD j d) : i = j := by
  rw [List.getD_eq_getElem?_getD, List.getD_eq_getElem?_getD, List.getElem?_eq_getElem hi, List.getElem?_eq_getElem hj] at e
  exact (List.getElem_inj h).mp e
def mpos (k : Nat) : Nat := if k < 11 then 18 - (k - 3) else if k < 19 then 10 - (k - 12) else 3 - (k - 21)
theorem mpos_injF : ∀ j k : Fin 25, mok j = true → mok k = true → j.val ≠ 0 → k.val ≠ 0 → mpos j = mpos k → j = k := by decide +kernel
theorem mpos_inj (j : Nat) (hj : j < 25) (k : Nat) (hk : k < 25) (h1 : mok j = true) (h2 : mok k = true) (h3 : j ≠ 0) (h4 : k ≠ 0) (e : mpos j = mpos k) : j = k := congrArg Fin.val (mpos_injF ⟨j, hj⟩ ⟨k, hk⟩ h1 h2 h3 h4 e)
theorem mpos_lt : ∀ k, k < 25 → mok k = true → k ≠ 0 → mpos k < 19 := by decide +kernel
theorem mok_lt {k : Nat} (h : mok k = true) : k < 25 := by
  unfold mok mL mZ mI at h
  simp only [Bool.or_eq_true, beq_iff_eq] at h
  omega
section M6
set_option maxHeartbeats 4000000 in
set_option maxRecDepth 100000 in
theorem c_M_init {l : Launch} {D : va_G} {dA : Nat → ClassId} {g : Nat → Option va_E}  {a : Nat} (hS : g a = some (.inr (4, [.int 0, .long 0, .int 0, .null, .null, .null, .null, .null, .null, .null, .null, .int 0, .null, .null, .null, .null, .null, .null, .null, .int 0, .int 0, .null, .null, .null, .null]))) : CtV l D classes (tyL dA) y_M_init b_M_init 1 none rm_M_init [.ref a] g (fun g' => ∃ ad, ad 0 = a ∧ (∀ k, mok k = true → k ≠ 0 → g (ad k) = none) ∧ (∀ z e, z ≠ a → g z = some e → g' z = some e) ∧ MRep dA ad g' 0 0 0 0 0 0 (fun _ _ => 0) (fun _ _ => 0)) := by
  refine CtV.of (by decide) (Nat.le_of_ble_eq_true rfl) ?_
  intro p e s m below meth c X hr hlk hnm
  have ig : CInv g a g [] := ⟨fun p hp => absurd hp List.not_mem_nil, List.nodup_nil, fun p hp => absurd hp List.not_mem_nil, fun z e _ h => h, ⟨_, hS⟩, ⟨_, hS⟩⟩
  refine go_aload_n X (z := 0) d_M_init_0 rfl rfl ?_
  refine go_objInit X gm_ml_M_1 gm_im_O_init gm_code_O_init d_M_init_1 (by decide) (Nat.le_of_ble_eq_true rfl) ?_
  refine go_aload_n X (z := 0) d_M_init_4 rfl rfl ?_
  refine go_bipush X (v := 12) d_M_init_5 (by decide) ?_
  refine go_newa X 1 (atype := .long) (N := 12) (a0 := (12, .inr (.inl (fun _ => 0)))) rfl rfl (fun _ h => by cases h) gm_ac_long (fun _ => rfl) (by decide) (by decide) (by decide) (by decide) (by decide) d_M_init_7 (fun q1 hq1 => ?_)
  refine go_gen (fun g2 eg2 => ?_)
  have eg2 : g2 = va_up g q1 (some (.inl (dA 1, 12, .inr (.inl (fun _ => 0))))) := eg2
  have ig2 := ig.new hq1 eg2
  have h3 : g2 a = some (.inr (4, [.int 0, .long 0, .int 0, .null, .null, .null, .null, .null, .null, .null, .null, .int 0, .null, .null, .null, .null, .null, .null, .null, .int 0, .int 0, .null, .null, .null, .null])) := by rw [eg2, va_up_ne _ _ (ne_fresh hS hq1)]; exact hS
  refine go_putF X u_M rfl 3 (by decide) gm_fl_M_7 rfl t_M t_M_ok n_M rfl hnm rfl rfl rfl d_M_init_9 h3 (Nat.le_of_ble_eq_true rfl) ?_
  refine go_gen (fun g4 eg4 => ?_)
  have eg4 : g4 = va_up g2 a (some (.inr (4, [.int 0, .long 0, .int 0, .ref q1, .null, .null, .null, .null, .null, .null, .null, .int 0, .null, .null, .null, .null, .null, .null, .null, .int 0, .int 0, .null, .null, .null, .null]))) := eg4
  have ig4 := ig2.put eg4
  have h5 : g4 a = some (.inr (4, [.int 0, .long 0, .int 0, .ref q1, .null, .null, .null, .null, .null, .null, .null, .int 0, .null, .null, .null, .null, .null, .null, .null, .int 0, .int 0, .null, .null, .null, .null])) := by rw [eg4]; exact va_up_self _ _ _
  refine go_aload_n X (z := 0) d_M_init_12 rfl rfl ?_
  refine go_bipush X (v := 12) d_M_init_13 (by decide) ?_
  refine go_newa X 1 (atype := .long) (N := 12) (a0 := (12, .inr (.inl (fun _ => 0)))) rfl rfl (fun _ h => by cases h) gm_ac_long (fun _ => rfl) (by decide) (by decide) (by decide) (by decide) (by decide) d_M_init_15 (fun q6 hq6 => ?_)
  refine go_gen (fun g7 eg7 => ?_)
  have eg7 : g7 = va_up g4 q6 (some (.inl (dA 1, 12, .inr (.inl (fun _ => 0))))) := eg7
  have ig7 := ig4.new hq6 eg7
  have h8 : g7 a = some (.inr (4, [.int 0, .long 0, .int 0, .ref q1, .null, .null, .null, .null, .null, .null, .null, .int 0, .null, .null, .null, .null, .null, .null, .null, .int 0, .int 0, .null, .null, .null, .null])) := by rw [eg7, va_up_ne _ _ (ne_fresh h5 hq6)]; exact h5
  refine go_putF X u_M rfl 4 (by decide) gm_fl_M_13 rfl t_M t_M_ok n_M rfl hnm rfl rfl rfl d_M_init_17 h8 (Nat.le_of_ble_eq_true rfl) ?_
  refine go_gen (fun g9 eg9 => ?_)
  have eg9 : g9 = va_up g7 a (some (.inr (4, [.int 0, .long 0, .int 0, .ref q1, .ref q6, .null, .null, .null, .null, .null, .null, .int 0, .null, .null, .null, .null, .null, .null, .null, .int 0, .int 0, .null, .null, .null, .null]))) := eg9
  have ig9 := ig7.put eg9
  have h10 : g9 a = some (.inr (4, [.int 0, .long 0, .int 0, .ref q1, .ref q6, .null, .null, .null, .null, .null, .null, .int 0, .null, .null, .null, .null, .null, .null, .null, .int 0, .int 0, .null, .null, .null, .null])) := by rw [eg9]; exact va_up_self _ _ _
  refine go_aload_n X (z := 0) d_M_init_20 rfl rfl ?_
  refine go_bipush X (v := 12) d_M_init_21 (by decide) ?_
  refine go_newa X 0 (atype := .int) (N := 12) (a0 := (12, .inl (fun _ => 0))) rfl rfl (fun _ h => by cases h) gm_ac_int (fun _ => rfl) (by decide) (by decide) (by decide) (by decide) (by decide) d_M_init_23 (fun q11 hq11 => ?_)
  refine go_gen (fun g12 eg12 => ?_)
  have eg12 : g12 = va_up g9 q11 (some (.inl (dA 0, 12, .inl (fun _ => 0)))) := eg12
  have ig12 := ig9.new hq11 eg12
  have h13 : g12 a = some (.inr (4, [.int 0, .long 0, .int 0, .ref q1, .ref q6, .null, .null, .null, .null, .null, .null, .int 0, .null, .null, .null, .null, .null, .null, .null, .int 0, .int 0, .null, .null, .null, .null])) := by rw [eg12, va_up_ne _ _ (ne_fresh h10 hq11)]; exact h10
  refine go_putF X u_M rfl 5 (by decide) gm_fl_M_16 rfl t_M t_M_ok n_M rfl hnm rfl rfl rfl d_M_init_25 h13 (Nat.le_of_ble_eq_true rfl) ?_
  refine go_gen (fun g14 eg14 => ?_)
  have eg14 : g14 = va_up g12 a (some (.inr (4, [.int 0, .long 0, .int 0, .ref q1, .ref q6, .ref q11, .null, .null, .null, .null, .null, .int 0, .null, .null, .null, .null, .null, .null, .null, .int 0, .int 0, .null, .null, .null, .null]))) := eg14
  have ig14 := ig12.put eg14
  have h15 : g14 a = some (.inr (4, [.int 0, .long 0, .int 0, .ref q1, .ref q6, .ref q11, .null, .null, .null, .null, .null, .int 0, .null, .null, .null, .null, .null, .null, .null, .int 0, .int 0, .null, .null, .null, .null])) := by rw [eg14]; exact va_up_self _ _ _
  refine go_aload_n X (z := 0) d_M_init_28 rfl rfl ?_
  refine go_bipush X (v := 12) d_M_init_29 (by decide) ?_
  refine go_newa X 1 (atype := .long) (N := 12) (a0 := (12, .inr (.inl (fun _ => 0)))) rfl rfl (fun _ h => by cases h) gm_ac_long (fun _ => rfl) (by decide) (by decide) (by decide) (by decide) (by decide) d_M_init_31 (fun q16 hq16 => ?_)
  refine go_gen (fun g17 eg17 => ?_)
  have eg17 : g17 = va_up g14 q16 (some (.inl (dA 1, 12, .inr (.inl (fun _ => 0))))) := eg17
  have ig17 := ig14.new hq16 eg17
  have h18 : g17 a = some (.inr (4, [.int 0, .long 0, .int 0, .ref q1, .ref q6, .ref q11, .null, .null, .null, .null, .null, .int 0, .null, .null, .null, .null, .null, .null, .null, .int 0, .int 0, .null, .null, .null, .null])) := by rw [eg17, va_up_ne _ _ (ne_fresh h15 hq16)]; exact h15
  refine go_putF X u_M rfl 6 (by decide) gm_fl_M_20 rfl t_M t_M_ok n_M rfl hnm rfl rfl rfl d_M_init_33 h18 (Nat.le_of_ble_eq_true rfl) ?_
  refine go_gen (fun g19 eg19 => ?_)
  have eg19 : g19 = va_up g17 a (some (.inr (4, [.int 0, .long 0, .int 0, .ref q1, .ref q6, .ref q11, .ref q16, .null, .null, .null, .null, .int 0, .null, .null, .null, .null, .null, .null, .null, .int 0, .int 0, .null, .null, .null, .null]))) := eg19
  have ig19 := ig17.put eg19
  have h20 : g19 a = some (.inr (4, [.int 0, .long 0, .int 0, .ref q1, .ref q6, .ref q11, .ref q16, .null, .null, .null, .null, .int 0, .null, .null, .null, .null, .null, .null, .null, .int 0, .int 0, .null, .null, .null, .null])) := by rw [eg19]; exact va_up_self _ _ _
  refine go_aload_n X (z := 0) d_M_init_36 rfl rfl ?_
  refine go_bipush X (v := 12) d_M_init_37 (by decide) ?_
  refine go_newa X 2 (atype := .boolean) (N := 12) (a0 := (12, .inl (fun _ => 0))) rfl rfl (fun _ h => by cases h) gm_ac_boolean (fun _ => rfl) (by decide) (by decide) (by decide) (by decide) (by decide) d_M_init_39 (fun q21 hq21 => ?_)
  refine go_gen (fun g22 eg22 => ?_)
  have eg22 : g22 = va_up g19 q21 (some (.inl (dA 2, 12, .inl (fun _ => 0)))) := eg22
  have ig22 := ig19.new hq21 eg22
  have h23 : g22 a = some (.inr (4, [.int 0, .long 0, .int 0, .ref q1, .ref q6, .ref q11, .ref q16, .null, .null, .null, .null, .int 0, .null, .null, .null, .null, .null, .null, .null, .int 0, .int 0, .null, .null, .null, .null])) := by rw [eg22, va_up_ne _ _ (ne_fresh h20 hq21)]; exact h20
  refine go_putF X u_M rfl 7 (by decide) gm_fl_M_23 rfl t_M t_M_ok n_M rfl hnm rfl rfl rfl d_M_init_41 h23 (Nat.le_of_ble_eq_true rfl) ?_
  refine go_gen (fun g24 eg24 => ?_)
  have eg24 : g24 = va_up g22 a (some (.inr (4, [.int 0, .long 0, .int 0, .ref q1, .ref q6, .ref q11, .ref q16, .ref q21, .null, .null, .null, .int 0, .null, .null, .null, .null, .null, .null, .null, .int 0, .int 0, .null, .null, .null, .null]))) := eg24
  have ig24 := ig22.put eg24
  have h25 : g24 a = some (.inr (4, [.int 0, .long 0, .int 0, .ref q1, .ref q6, .ref q11, .ref q16, .ref q21, .null, .null, .null, .int 0, .null, .null, .null, .null, .null, .null, .null, .int 0, .int 0, .null, .null, .null, .null])) := by rw [eg24]; exact va_up_self _ _ _
  refine go_aload_n X (z := 0) d_M_init_44 rfl rfl ?_
  refine go_bipush X (v := 12) d_M_init_45 (by decide) ?_
  refine go_newa X 0 (atype := .int) (N := 12) (a0 := (12, .inl (fun _ => 0))) rfl rfl (fun _ h => by cases h) gm_ac_int (fun _ => rfl) (by decide) (by decide) (by decide) (by decide) (by decide) d_M_init_47 (fun q26 hq26 => ?_)
  refine go_gen (fun g27 eg27 => ?_)
  have eg27 : g27 = va_up g24 q26 (some (.inl (dA 0, 12, .inl (fun _ => 0)))) := eg27
  have ig27 := ig24.new hq26 eg27
  have h28 : g27 a = some (.inr (4, [.int 0, .long 0, .int 0, .ref q1, .ref q6, .ref q11, .ref q16, .ref q21, .null, .null, .null, .int 0, .null, .null, .null, .null, .null, .null, .null, .int 0, .int 0, .null, .null, .null, .null])) := by rw [eg27, va_up_ne _ _ (ne_fresh h25 hq26)]; exact h25
  refine go_putF X u_M rfl 8 (by decide) gm_fl_M_27 rfl t_M t_M_ok n_M rfl hnm rfl rfl rfl d_M_init_49 h28 (Nat.le_of_ble_eq_true rfl) ?_
  refine go_gen (fun g29 eg29 => ?_)
  have eg29 : g29 = va_up g27 a (some (.inr (4, [.int 0, .long 0, .int 0, .ref q1, .ref q6, .ref q11, .ref q16, .ref q21, .ref q26, .null, .null, .int 0, .null, .null, .null, .null, .null, .null, .null, .int 0, .int 0, .null, .null, .null, .null]))) := eg29
  have ig29 := ig27.put eg29
  have h30 : g29 a = some (.inr (4, [.int 0, .long 0, .int 0, .ref q1, .ref q6, .ref q11, .ref q16, .ref q21, .ref q26, .null, .null, .int 0, .null, .null, .null, .null, .null, .null, .null, .int 0, .int 0, .null, .null, .null, .null])) := by rw [eg29]; exact va_up_self _ _ _
  refine go_aload_n X (z := 0) d_M_init_52 rfl rfl ?_
  refine go_bipush X (v := 12) d_M_init_53 (by decide) ?_
  refine go_newa X 0 (atype := .int) (N := 12) (a0 := (12, .inl (fun _ => 0))) rfl rfl (fun _ h => by cases h) gm_ac_int (fun _ => rfl) (by decide) (by decide) (by decide) (by decide) (by decide) d_M_init_55 (fun q31 hq31 => ?_)
  refine go_gen (fun g32 eg32 => ?_)
  have eg32 : g32 = va_up g29 q31 (some (.inl (dA 0, 12, .inl (fun _ => 0)))) := eg32
  have ig32 := ig29.new hq31 eg32
  have h33 : g32 a = some (.inr (4, [.int 0, .long 0, .int 0, .ref q1, .ref q6, .ref q11, .ref q16, .ref q21, .ref q26, .null, .null, .int 0, .null, .null, .null, .null, .null, .null, .null, .int 0, .int 0, .null, .null, .null, .null])) := by rw [eg32, va_up_ne _ _ (ne_fresh h30 hq31)]; exact h30
  refine go_putF X u_M rfl 9 (by decide) gm_fl_M_30 rfl t_M t_M_ok n_M rfl hnm rfl rfl rfl d_M_init_57 h33 (Nat.le_of_ble_eq_true rfl) ?_
  refine go_gen (fun g34 eg34 => ?_)
  have eg34 : g34 = va_up g32 a (some (.inr (4, [.int 0, .long 0, .int 0, .ref q1, .ref q6, .ref q11, .ref q16, .ref q21, .ref q26, .ref q31, .null, .int 0, .null, .null, .null, .null, .null, .null, .null, .int 0, .int 0, .null, .null, .null, .null]))) := eg34
  have ig34 := ig32.put eg34
  have h35 : g34 a = some (.inr (4, [.int 0, .long 0, .int 0, .ref q1, .ref q6, .ref q11, .ref q16, .ref q21, .ref q26, .ref q31, .null, .int 0, .null, .null, .null, .null, .null, .null, .null, .int 0, .int 0, .null, .null, .null, .null])) := by rw [eg34]; exact va_up_self _ _ _
  refine go_aload_n X (z := 0) d_M_init_60 rfl rfl ?_
  refine go_bipush X (v := 12) d_M_init_61 (by decide) ?_
  refine go_newa X 1 (atype := .long) (N := 12) (a0 := (12, .inr (.inl (fun _ => 0)))) rfl rfl (fun _ h => by cases h) gm_ac_long (fun _ => rfl) (by decide) (by decide) (by decide) (by decide) (by decide) d_M_init_63 (fun q36 hq36 => ?_)
  refine go_gen (fun g37 eg37 => ?_)
  have eg37 : g37 = va_up g34 q36 (some (.inl (dA 1, 12, .inr (.inl (fun _ => 0))))) := eg37
  have ig37 := ig34.new hq36 eg37
  have h38 : g37 a = some (.inr (4, [.int 0, .long 0, .int 0, .ref q1, .ref q6, .ref q11, .ref q16, .ref q21, .ref q26, .ref q31, .null, .int 0, .null, .null, .null, .null, .null, .null, .null, .int 0, .int 0, .null, .null, .null, .null])) := by rw [eg37, va_up_ne _ _ (ne_fresh h35 hq36)]; exact h35
  refine go_putF X u_M rfl 10 (by decide) gm_fl_M_33 rfl t_M t_M_ok n_M rfl hnm rfl rfl rfl d_M_init_65 h38 (Nat.le_of_ble_eq_true rfl) ?_
  refine go_gen (fun g39 eg39 => ?_)
  have eg39 : g39 = va_up g37 a (some (.inr (4, [.int 0, .long 0, .int 0, .ref q1, .ref q6, .ref q11, .ref q16, .ref q21, .ref q26, .ref q31, .ref q36, .int 0, .null, .null, .null, .null, .null, .null, .null, .int 0, .int 0, .null, .null, .null, .null]))) := eg39
  have ig39 := ig37.put eg39
  have h40 : g39 a = some (.inr (4, [.int 0, .long 0, .int 0, .ref q1, .ref q6, .ref q11, .ref q16, .ref q21, .ref q26, .ref q31, .ref q36, .int 0, .null, .null, .null, .null, .null, .null, .null, .int 0, .int 0, .null, .null, .null, .null])) := by rw [eg39]; exact va_up_self _ _ _
  refine go_aload_n X (z := 0) d_M_init_68 rfl rfl ?_
  refine go_bipush X (v := 61) d_M_init_69 (by decide) ?_
  refine go_newa X 1 (atype := .long) (N := 61) (a0 := (61, .inr (.inl (fun _ => 0)))) rfl rfl (fun _ h => by cases h) gm_ac_long (fun _ => rfl) (by decide) (by decide) (by decide) (by decide) (by decide) d_M_init_71 (fun q41 hq41 => ?_)
  refine go_gen (fun g42 eg42 => ?_)
  have eg42 : g42 = va_up g39 q41 (some (.inl (dA 1, 61, .inr (.inl (fun _ => 0))))) := eg42
  have ig42 := ig39.new hq41 eg42
  have h43 : g42 a = some (.inr (4, [.int 0, .long 0, .int 0, .ref q1, .ref q6, .ref q11, .ref q16, .ref q21, .ref q26, .ref q31, .ref q36, .int 0, .null, .null, .null, .null, .null, .null, .null, .int 0, .int 0, .null, .null, .null, .null])) := by rw [eg42, va_up_ne _ _ (ne_fresh h40 hq41)]; exact h40
  refine go_putF X u_M rfl 12 (by decide) gm_fl_M_36 rfl t_M t_M_ok n_M rfl hnm rfl rfl rfl d_M_init_73 h43 (Nat.le_of_ble_eq_true rfl) ?_
  refine go_gen (fun g44 eg44 => ?_)
  have eg44 : g44 = va_up g42 a (some (.inr (4, [.int 0, .long 0, .int 0, .ref q1, .ref q6, .ref q11, .ref q16, .ref q21, .ref q26, .ref q31, .ref q36, .int 0, .ref q41, .null, .null, .null, .null, .null, .null, .int 0, .int 0, .null, .null, .null, .null]))) := eg44
  have ig44 := ig42.put eg44
  have h45 : g44 a = some (.inr (4, [.int 0, .long 0, .int 0, .ref q1, .ref q6, .ref q11, .ref q16, .ref q21, .ref q26, .ref q31, .ref q36, .int 0, .ref q41, .null, .null, .null, .null, .null, .null, .int 0, .int 0, .null, .null, .null, .null])) := by rw [eg44]; exact va_up_self _ _ _
  refine go_aload_n X (z := 0) d_M_init_76 rfl rfl ?_
  refine go_bipush X (v := 61) d_M_init_77 (by decide) ?_
  refine go_newa X 1 (atype := .long) (N := 61) (a0 := (61, .inr (.inl (fun _ => 0)))) rfl rfl (fun _ h => by cases h) gm_ac_long (fun _ => rfl) (by decide) (by decide) (by decide) (by decide) (by decide) d_M_init_79 (fun q46 hq46 => ?_)
  refine go_gen (fun g47 eg47 => ?_)
  have eg47 : g47 = va_up g44 q46 (some (.inl (dA 1, 61, .inr (.inl (fun _ => 0))))) := eg47
  have ig47 := ig44.new hq46 eg47
  have h48 : g47 a = some (.inr (4, [.int 0, .long 0, .int 0, .ref q1, .ref q6, .ref q11, .ref q16, .ref q21, .ref q26, .ref q31, .ref q36, .int 0, .ref q41, .null, .null, .null, .null, .null, .null, .int 0, .int 0, .null, .null, .null, .null])) := by rw [eg47, va_up_ne _ _ (ne_fresh h45 hq46)]; exact h45
  refine go_putF X u_M rfl 13 (by decide) gm_fl_M_39 rfl t_M t_M_ok n_M rfl hnm rfl rfl rfl d_M_init_81 h48 (Nat.le_of_ble_eq_true rfl) ?_
  refine go_gen (fun g49 eg49 => ?_)
  have eg49 : g49 = va_up g47 a (some (.inr (4, [.int 0, .long 0, .int 0, .ref q1, .ref q6, .ref q11, .ref q16, .ref q21, .ref q26, .ref q31, .ref q36, .int 0, .ref q41, .ref q46, .null, .null, .null, .null, .null, .int 0, .int 0, .null, .null, .null, .null]))) := eg49
  have ig49 := ig47.put eg49
  have h50 : g49 a = some (.inr (4, [.int 0, .long 0, .int 0, .ref q1, .ref q6, .ref q11, .ref q16, .ref q21, .ref q26, .ref q31, .ref q36, .int 0, .ref q41, .ref q46, .null, .null, .null, .null, .null, .int 0, .int 0, .null, .null, .null, .null])) := by rw [eg49]; exact va_up_self _ _ _
  refine go_aload_n X (z := 0) d_M_init_84 rfl rfl ?_
  refine go_bipush X (v := 61) d_M_init_85 (by decide) ?_
  refine go_newa X 0 (atype := .int) (N := 61) (a0 := (61, .inl (fun _ => 0))) rfl rfl (fun _ h => by cases h) gm_ac_int (fun _ => rfl) (by decide) (by decide) (by decide) (by decide) (by decide) d_M_init_87 (fun q51 hq51 => ?_)
  refine go_gen (fun g52 eg52 => ?_)
  have eg52 : g52 = va_up g49 q51 (some (.inl (dA 0, 61, .inl (fun _ => 0)))) := eg52
  have ig52 := ig49.new hq51 eg52
  have h53 : g52 a = some (.inr (4, [.int 0, .long 0, .int 0, .ref q1, .ref q6, .ref q11, .ref q16, .ref q21, .ref q26, .ref q31, .ref q36, .int 0, .ref q41, .ref q46, .null, .null, .null, .null, .null, .int 0, .int 0, .null, .null, .null, .null])) := by rw [eg52, va_up_ne _ _ (ne_fresh h50 hq51)]; exact h50
  refine go_putF X u_M rfl 14 (by decide) gm_fl_M_42 rfl t_M t_M_ok n_M rfl hnm rfl rfl rfl d_M_init_89 h53 (Nat.le_of_ble_eq_true rfl) ?_
  refine go_gen (fun g54 eg54 => ?_)
  have eg54 : g54 = va_up g52 a (some (.inr (4, [.int 0, .long 0, .int 0, .ref q1, .ref q6, .ref q11, .ref q16, .ref q21, .ref q26, .ref q31, .ref q36, .int 0, .ref q41, .ref q46, .ref q51, .null, .null, .null, .null, .int 0, .int 0, .null, .null, .null, .null]))) := eg54
  have ig54 := ig52.put eg54
  have h55 : g54 a = some (.inr (4, [.int 0, .long 0, .int 0, .ref q1, .ref q6, .ref q11, .ref q16, .ref q21, .ref q26, .ref q31, .ref q36, .int 0, .ref q41, .ref q46, .ref q51, .null, .null, .null, .null, .int 0, .int 0, .null, .null, .null, .null])) := by rw [eg54]; exact va_up_self _ _ _
  refine go_aload_n X (z := 0) d_M_init_92 rfl rfl ?_
  refine go_bipush X (v := 61) d_M_init_93 (by decide) ?_
  refine go_newa X 1 (atype := .long) (N := 61) (a0 := (61, .inr (.inl (fun _ => 0)))) rfl rfl (fun _ h => by cases h) gm_ac_long (fun _ => rfl) (by decide) (by decide) (by decide) (by decide) (by decide) d_M_init_95 (fun q56 hq56 => ?_)
  refine go_gen (fun g57 eg57 => ?_)
  have eg57 : g57 = va_up g54 q56 (some (.inl (dA 1, 61, .inr (.inl (fun _ => 0))))) := eg57
  have ig57 := ig54.new hq56 eg57
  have h58 : g57 a = some (.inr (4, [.int 0, .long 0, .int 0, .ref q1, .ref q6, .ref q11, .ref q16, .ref q21, .ref q26, .ref q31, .ref q36, .int 0, .ref q41, .ref q46, .ref q51, .null, .null, .null, .null, .int 0, .int 0, .null, .null, .null, .null])) := by rw [eg57, va_up_ne _ _ (ne_fresh h55 hq56)]; exact h55
  refine go_putF X u_M rfl 15 (by decide) gm_fl_M_45 rfl t_M t_M_ok n_M rfl hnm rfl rfl rfl d_M_init_97 h58 (Nat.le_of_ble_eq_true rfl) ?_
  refine go_gen (fun g59 eg59 => ?_)
  have eg59 : g59 = va_up g57 a (some (.inr (4, [.int 0, .long 0, .int 0, .ref q1, .ref q6, .ref q11, .ref q16, .ref q21, .ref q26, .ref q31, .ref q36, .int 0, .ref q41, .ref q46, .ref q51, .ref q56, .null, .null, .null, .int 0, .int 0, .null, .null, .null, .null]))) := eg59
  have ig59 := ig57.put eg59
  have h60 : g59 a = some (.inr (4, [.int 0, .long 0, .int 0, .ref q1, .ref q6, .ref q11, .ref q16, .ref q21, .ref q26, .ref q31, .ref q36, .int 0, .ref q41, .ref q46, .ref q51, .ref q56, .null, .null, .null, .int 0, .int 0, .null, .null, .null, .null])) := by rw [eg59]; exact va_up_self _ _ _
  refine go_aload_n X (z := 0) d_M_init_100 rfl rfl ?_
  refine go_bipush X (v := 61) d_M_init_101 (by decide) ?_
  refine go_newa X 2 (atype := .boolean) (N := 61) (a0 := (61, .inl (fun _ => 0))) rfl rfl (fun _ h => by cases h) gm_ac_boolean (fun _ => rfl) (by decide) (by decide) (by decide) (by decide) (by decide) d_M_init_103 (fun q61 hq61 => ?_)
  refine go_gen (fun g62 eg62 => ?_)
  have eg62 : g62 = va_up g59 q61 (some (.inl (dA 2, 61, .inl (fun _ => 0)))) := eg62
  have ig62 := ig59.new hq61 eg62
  have h63 : g62 a = some (.inr (4, [.int 0, .long 0, .int 0, .ref q1, .ref q6, .ref q11, .ref q16, .ref q21, .ref q26, .ref q31, .ref q36, .int 0, .ref q41, .ref q46, .ref q51, .ref q56, .null, .null, .null, .int 0, .int 0, .null, .null, .null, .null])) := by rw [eg62, va_up_ne _ _ (ne_fresh h60 hq61)]; exact h60
  refine go_putF X u_M rfl 16 (by decide) gm_fl_M_48 rfl t_M t_M_ok n_M rfl hnm rfl rfl rfl d_M_init_105 h63 (Nat.le_of_ble_eq_true rfl) ?_
  refine go_gen (fun g64 eg64 => ?_)
  have eg64 : g64 = va_up g62 a (some (.inr (4, [.int 0, .long 0, .int 0, .ref q1, .ref q6, .ref q11, .ref q16, .ref q21, .ref q26, .ref q31, .ref q36, .int 0, .ref q41, .ref q46, .ref q51, .ref q56, .ref q61, .null, .null, .int 0, .int 0, .null, .null, .null, .null]))) := eg64
  have ig64 := ig62.put eg64
  have h65 : g64 a = some (.inr (4, [.int 0, .long 0, .int 0, .ref q1, .ref q6, .ref q11, .ref q16, .ref q21, .ref q26, .ref q31, .ref q36, .int 0, .ref q41, .ref q46, .ref q51, .ref q56, .ref q61, .null, .null, .int 0, .int 0, .null, .null, .null, .null])) := by rw [eg64]; exact va_up_self _ _ _
  refine go_aload_n X (z := 0) d_M_init_108 rfl rfl ?_
  refine go_bipush X (v := 61) d_M_init_109 (by decide) ?_
  refine go_newa X 2 (atype := .boolean) (N := 61) (a0 := (61, .inl (fun _ => 0))) rfl rfl (fun _ h => by cases h) gm_ac_boolean (fun _ => rfl) (by decide) (by decide) (by decide) (by decide) (by decide) d_M_init_111 (fun q66 hq66 => ?_)
  refine go_gen (fun g67 eg67 => ?_)
  have eg67 : g67 = va_up g64 q66 (some (.inl (dA 2, 61, .inl (fun _ => 0)))) := eg67
  have ig67 := ig64.new hq66 eg67
  have h68 : g67 a = some (.inr (4, [.int 0, .long 0, .int 0, .ref q1, .ref q6, .ref q11, .ref q16, .ref q21, .ref q26, .ref q31, .ref q36, .int 0, .ref q41, .ref q46, .ref q51, .ref q56, .ref q61, .null, .null, .int 0, .int 0, .null, .null, .null, .null])) := by rw [eg67, va_up_ne _ _ (ne_fresh h65 hq66)]; exact h65
  refine go_putF X u_M rfl 17 (by decide) gm_fl_M_51 rfl t_M t_M_ok n_M rfl hnm rfl rfl rfl d_M_init_113 h68 (Nat.le_of_ble_eq_true rfl) ?_
  refine go_gen (fun g69 eg69 => ?_)
  have eg69 : g69 = va_up g67 a (some (.inr (4, [.int 0, .long 0, .int 0, .ref q1, .ref q6, .ref q11, .ref q16, .ref q21, .ref q26, .ref q31, .ref q36, .int 0, .ref q41, .ref q46, .ref q51, .ref q56, .ref q61, .ref q66, .null, .int 0, .int 0, .null, .null, .null, .null]))) := eg69
  have ig69 := ig67.put eg69
  have h70 : g69 a = some (.inr (4, [.int 0, .long 0, .int 0, .ref q1, .ref q6, .ref q11, .ref q16, .ref q21, .ref q26, .ref q31, .ref q36, .int 0, .ref q41, .ref q46, .ref q51, .ref q56, .ref q61, .ref q66, .null, .int 0, .int 0, .null, .null, .null, .null])) := by rw [eg69]; exact va_up_self _ _ _
  refine go_aload_n X (z := 0) d_M_init_116 rfl rfl ?_
  refine go_bipush X (v := 61) d_M_init_117 (by decide) ?_
  refine go_newa X 2 (atype := .boolean) (N := 61) (a0 := (61, .inl (fun _ => 0))) rfl rfl (fun _ h => by cases h) gm_ac_boolean (fun _ => rfl) (by decide) (by decide) (by decide) (by decide) (by decide) d_M_init_119 (fun q71 hq71 => ?_)
  refine go_gen (fun g72 eg72 => ?_)
  have eg72 : g72 = va_up g69 q71 (some (.inl (dA 2, 61, .inl (fun _ => 0)))) := eg72
  have ig72 := ig69.new hq71 eg72
  have h73 : g72 a = some (.inr (4, [.int 0, .long 0, .int 0, .ref q1, .ref q6, .ref q11, .ref q16, .ref q21, .ref q26, .ref q31, .ref q36, .int 0, .ref q41, .ref q46, .ref q51, .ref q56, .ref q61, .ref q66, .null, .int 0, .int 0, .null, .null, .null, .null])) := by rw [eg72, va_up_ne _ _ (ne_fresh h70 hq71)]; exact h70
  refine go_putF X u_M rfl 18 (by decide) gm_fl_M_54 rfl t_M t_M_ok n_M rfl hnm rfl rfl rfl d_M_init_121 h73 (Nat.le_of_ble_eq_true rfl) ?_
  refine go_gen (fun g74 eg74 => ?_)
  have eg74 : g74 = va_up g72 a (some (.inr (4, [.int 0, .long 0, .int 0, .ref q1, .ref q6, .ref q11, .ref q16, .ref q21, .ref q26, .ref q31, .ref q36, .int 0, .ref q41, .ref q46, .ref q51, .ref q56, .ref q61, .ref q66, .ref q71, .int 0, .int 0, .null, .null, .null, .null]))) := eg74
  have ig74 := ig72.put eg74
  have h75 : g74 a = some (.inr (4, [.int 0, .long 0, .int 0, .ref q1, .ref q6, .ref q11, .ref q16, .ref q21, .ref q26, .ref q31, .ref q36, .int 0, .ref q41, .ref q46, .ref q51, .ref q56, .ref q61, .ref q66, .ref q71, .int 0, .int 0, .null, .null, .null, .null])) := by rw [eg74]; exact va_up_self _ _ _
  refine go_aload_n X (z := 0) d_M_init_124 rfl rfl ?_
  refine go_sipush X (v := 400) d_M_init_125 (by decide) ?_
  refine go_newa X 1 (atype := .long) (N := 400) (a0 := (400, .inr (.inl (fun _ => 0)))) rfl rfl (fun _ h => by cases h) gm_ac_long (fun _ => rfl) (by decide) (by decide) (by decide) (by decide) (by decide) d_M_init_128 (fun q76 hq76 => ?_)
  refine go_gen (fun g77 eg77 => ?_)
  have eg77 : g77 = va_up g74 q76 (some (.inl (dA 1, 400, .inr (.inl (fun _ => 0))))) := eg77
  have ig77 := ig74.new hq76 eg77
  have h78 : g77 a = some (.inr (4, [.int 0, .long 0, .int 0, .ref q1, .ref q6, .ref q11, .ref q16, .ref q21, .ref q26, .ref q31, .ref q36, .int 0, .ref q41, .ref q46, .ref q51, .ref q56, .ref q61, .ref q66, .ref q71, .int 0, .int 0, .null, .null, .null, .null])) := by rw [eg77, va_up_ne _ _ (ne_fresh h75 hq76)]; exact h75
  refine go_putF X u_M rfl 21 (by decide) gm_fl_M_57 rfl t_M t_M_ok n_M rfl hnm rfl rfl rfl d_M_init_130 h78 (Nat.le_of_ble_eq_true rfl) ?_
  refine go_gen (fun g79 eg79 => ?_)
  have eg79 : g79 = va_up g77 a (some (.inr (4, [.int 0, .long 0, .int 0, .ref q1, .ref q6, .ref q11, .ref q16, .ref q21, .ref q26, .ref q31, .ref q36, .int 0, .ref q41, .ref q46, .ref q51, .ref q56, .ref q61, .ref q66, .ref q71, .int 0, .int 0, .ref q76, .null, .null, .null]))) := eg79
  have ig79 := ig77.put eg79
  have h80 : g79 a = some (.inr (4, [.int 0, .long 0, .int 0, .ref q1, .ref q6, .ref q11, .ref q16, .ref q21, .ref q26, .ref q31, .ref q36, .int 0, .ref q41, .ref q46, .ref q51, .ref q56, .ref q61, .ref q66, .ref q71, .int 0, .int 0, .ref q76, .null, .null, .null])) := by rw [eg79]; exact va_up_self _ _ _
  refine go_aload_n X (z := 0) d_M_init_133 rfl rfl ?_
  refine go_sipush X (v := 400) d_M_init_134 (by decide) ?_
  refine go_newa X 0 (atype := .int) (N := 400) (a0 := (400, .inl (fun _ => 0))) rfl rfl (fun _ h => by cases h) gm_ac_int (fun _ => rfl) (by decide) (by decide) (by decide) (by decide) (by decide) d_M_init_137 (fun q81 hq81 => ?_)
  refine go_gen (fun g82 eg82 => ?_)
  have eg82 : g82 = va_up g79 q81 (some (.inl (dA 0, 400, .inl (fun _ => 0)))) := eg82
  have ig82 := ig79.new hq81 eg82
  have h83 : g82 a = some (.inr (4, [.int 0, .long 0, .int 0, .ref q1, .ref q6, .ref q11, .ref q16, .ref q21, .ref q26, .ref q31, .ref q36, .int 0, .ref q41, .ref q46, .ref q51, .ref q56, .ref q61, .ref q66, .ref q71, .int 0, .int 0, .ref q76, .null, .null, .null])) := by rw [eg82, va_up_ne _ _ (ne_fresh h80 hq81)]; exact h80
  refine go_putF X u_M rfl 22 (by decide) gm_fl_M_60 rfl t_M t_M_ok n_M rfl hnm rfl rfl rfl d_M_init_139 h83 (Nat.le_of_ble_eq_true rfl) ?_
  refine go_gen (fun g84 eg84 => ?_)
  have eg84 : g84 = va_up g82 a (some (.inr (4, [.int 0, .long 0, .int 0, .ref q1, .ref q6, .ref q11, .ref q16, .ref q21, .ref q26, .ref q31, .ref q36, .int 0, .ref q41, .ref q46, .ref q51, .ref q56, .ref q61, .ref q66, .ref q71, .int 0, .int 0, .ref q76, .ref q81, .null, .null]))) := eg84
  have ig84 := ig82.put eg84
  have h85 : g84 a = some (.inr (4, [.int 0, .long 0, .int 0, .ref q1, .ref q6, .ref q11, .ref q16, .ref q21, .ref q26, .ref q31, .ref q36, .int 0, .ref q41, .ref q46, .ref q51, .ref q56, .ref q61, .ref q66, .ref q71, .int 0, .int 0, .ref q76, .ref q81, .null, .null])) := by rw [eg84]; exact va_up_self _ _ _
  refine go_aload_n X (z := 0) d_M_init_142 rfl rfl ?_
  refine go_sipush X (v := 400) d_M_init_143 (by decide) ?_
  refine go_newa X 0 (atype := .int) (N := 400) (a0 := (400, .inl (fun _ => 0))) rfl rfl (fun _ h => by cases h) gm_ac_int (fun _ => rfl) (by decide) (by decide) (by decide) (by decide) (by decide) d_M_init_146 (fun q86 hq86 => ?_)
  refine go_gen (fun g87 eg87 => ?_)
  have eg87 : g87 = va_up g84 q86 (some (.inl (dA 0, 400, .inl (fun _ => 0)))) := eg87
  have ig87 := ig84.new hq86 eg87
  have h88 : g87 a = some (.inr (4, [.int 0, .long 0, .int 0, .ref q1, .ref q6, .ref q11, .ref q16, .ref q21, .ref q26, .ref q31, .ref q36, .int 0, .ref q41, .ref q46, .ref q51, .ref q56, .ref q61, .ref q66, .ref q71, .int 0, .int 0, .ref q76, .ref q81, .null, .null])) := by rw [eg87, va_up_ne _ _ (ne_fresh h85 hq86)]; exact h85
  refine go_putF X u_M rfl 23 (by decide) gm_fl_M_63 rfl t_M t_M_ok n_M rfl hnm rfl rfl rfl d_M_init_148 h88 (Nat.le_of_ble_eq_true rfl) ?_
  refine go_gen (fun g89 eg89 => ?_)
  have eg89 : g89 = va_up g87 a (some (.inr (4, [.int 0, .long 0, .int 0, .ref q1, .ref q6, .ref q11, .ref q16, .ref q21, .ref q26, .ref q31, .ref q36, .int 0, .ref q41, .ref q46, .ref q51, .ref q56, .ref q61, .ref q66, .ref q71, .int 0, .int 0, .ref q76, .ref q81, .ref q86, .null]))) := eg89
  have ig89 := ig87.put eg89
  have h90 : g89 a = some (.inr (4, [.int 0, .long 0, .int 0, .ref q1, .ref q6, .ref q11, .ref q16, .ref q21, .ref q26, .ref q31, .ref q36, .int 0, .ref q41, .ref q46, .ref q51, .ref q56, .ref q61, .ref q66, .ref q71, .int 0, .int 0, .ref q76, .ref q81, .ref q86, .null])) := by rw [eg89]; exact va_up_self _ _ _
  refine go_aload_n X (z := 0) d_M_init_151 rfl rfl ?_
  refine go_sipush X (v := 400) d_M_init_152 (by decide) ?_
  refine go_newa X 0 (atype := .int) (N := 400) (a0 := (400, .inl (fun _ => 0))) rfl rfl (fun _ h => by cases h) gm_ac_int (fun _ => rfl) (by decide) (by decide) (by decide) (by decide) (by decide) d_M_init_155 (fun q91 hq91 => ?_)
  refine go_gen (fun g92 eg92 => ?_)
  have eg92 : g92 = va_up g89 q91 (some (.inl (dA 0, 400, .inl (fun _ => 0)))) := eg92
  have ig92 := ig89.new hq91 eg92
  have h93 : g92 a = some (.inr (4, [.int 0, .long 0, .int 0, .ref q1, .ref q6, .ref q11, .ref q16, .ref q21, .ref q26, .ref q31, .ref q36, .int 0, .ref q41, .ref q46, .ref q51, .ref q56, .ref q61, .ref q66, .ref q71, .int 0, .int 0, .ref q76, .ref q81, .ref q86, .null])) := by rw [eg92, va_up_ne _ _ (ne_fresh h90 hq91)]; exact h90
  refine go_putF X u_M rfl 24 (by decide) gm_fl_M_66 rfl t_M t_M_ok n_M rfl hnm rfl rfl rfl d_M_init_157 h93 (Nat.le_of_ble_eq_true rfl) ?_
  refine go_gen (fun g94 eg94 => ?_)
  have eg94 : g94 = va_up g92 a (some (.inr (4, [.int 0, .long 0, .int 0, .ref q1, .ref q6, .ref q11, .ref q16, .ref q21, .ref q26, .ref q31, .ref q36, .int 0, .ref q41, .ref q46, .ref q51, .ref q56, .ref q61, .ref q66, .ref q71, .int 0, .int 0, .ref q76, .ref q81, .ref q86, .ref q91]))) := eg94
  have ig94 := ig92.put eg94
  have h95 : g94 a = some (.inr (4, [.int 0, .long 0, .int 0, .ref q1, .ref q6, .ref q11, .ref q16, .ref q21, .ref q26, .ref q31, .ref q36, .int 0, .ref q41, .ref q46, .ref q51, .ref q56, .ref q61, .ref q66, .ref q71, .int 0, .int 0, .ref q76, .ref q81, .ref q86, .ref q91])) := by rw [eg94]; exact va_up_self _ _ _
  have hna : a ∉ ([q91, q86, q81, q76, q71, q66, q61, q56, q51, q46, q41, q36, q31, q26, q21, q16, q11, q6, q1] : List Nat) := ig94.na
  obtain ⟨j1, j2, j3, j4, -, -⟩ := ig94
  refine go_widen (k := 19) (n := 2123) (by decide) (by decide) ?_
  have key : ∀ k, mok k = true → k = 0 ∨ k = 3 ∨ k = 4 ∨ k = 5 ∨ k = 6 ∨ k = 7 ∨ k = 8 ∨ k = 9 ∨ k = 10 ∨ k = 12 ∨ k = 13 ∨ k = 14 ∨ k = 15 ∨ k = 16 ∨ k = 17 ∨ k = 18 ∨ k = 21 ∨ k = 22 ∨ k = 23 ∨ k = 24 := by
    intro k hk
    unfold mok mL mZ mI at hk
    simp only [Bool.or_eq_true, beq_iff_eq] at hk
    omega
  refine go_retV X hr hlk d_M_init_160 ⟨fun k => if k = 0 then a else ([q91, q86, q81, q76, q71, q66, q61, q56, q51, q46, q41, q36, q31, q26, q21, q16, q11, q6, q1] : List Nat).getD (mpos k) 0, rfl, ?_, j4, ?_, ?_⟩
  · intro k hk h0
    rcases key k hk with rfl | rfl | rfl | rfl | rfl | rfl | rfl | rfl | rfl | rfl | rfl | rfl | rfl | rfl | rfl | rfl | rfl | rfl | rfl | rfl
    · exact absurd rfl h0
    · exact j3 _ (List.mem_of_getElem? (i := 18) rfl)
    · exact j3 _ (List.mem_of_getElem? (i := 17) rfl)
    · exact j3 _ (List.mem_of_getElem? (i := 16) rfl)
    · exact j3 _ (List.mem_of_getElem? (i := 15) rfl)
    · exact j3 _ (List.mem_of_getElem? (i := 14) rfl)
    · exact j3 _ (List.mem_of_getElem? (i := 13) rfl)
    · exact j3 _ (List.mem_of_getElem? (i := 12) rfl)
    · exact j3 _ (List.mem_of_getElem? (i := 11) rfl)
    · exact j3 _ (List.mem_of_getElem? (i := 10) rfl)
    · exact j3 _ (List.mem_of_getElem? (i := 9) rfl)
    · exact j3 _ (List.mem_of_getElem? (i := 8) rfl)
    · exact j3 _ (List.mem_of_getElem? (i := 7) rfl)
    · exact j3 _ (List.mem_of_getElem? (i := 6) rfl)
    · exact j3 _ (List.mem_of_getElem? (i := 5) rfl)
    · exact j3 _ (List.mem_of_getElem? (i := 4) rfl)
    · exact j3 _ (List.mem_of_getElem? (i := 3) rfl)
    · exact j3 _ (List.mem_of_getElem? (i := 2) rfl)
    · exact j3 _ (List.mem_of_getElem? (i := 1) rfl)
    · exact j3 _ (List.mem_of_getElem? (i := 0) rfl)
  · intro j k hj hk e
    have hin : ∀ k, mok k = true → k ≠ 0 → ([q91, q86, q81, q76, q71, q66, q61, q56, q51, q46, q41, q36, q31, q26, q21, q16, q11, q6, q1] : List Nat).getD (mpos k) 0 ∈ ([q91, q86, q81, q76, q71, q66, q61, q56, q51, q46, q41, q36, q31, q26, q21, q16, q11, q6, q1] : List Nat) := by
      intro k hk h0
      have hl := mpos_lt k (mok_lt hk) hk h0
      rw [List.getD_eq_getElem?_getD, List.getElem?_eq_getElem (show mpos k < ([q91, q86, q81, q76, q71, q66, q61, q56, q51, q46, q41, q36, q31, q26, q21, q16, q11, q6, q1] : List Nat).length from hl)]
      exact List.getElem_mem _
    by_cases h0 : j = 0
    · by_cases h1 : k = 0
      · rw [h0, h1]
      · exfalso
        simp only [h0, h1, if_true, if_false] at e
        exact hna (e ▸ hin k hk h1)
    · by_cases h1 : k = 0
      · exfalso
        simp only [h0, h1, if_true, if_false] at e
        exact hna (e ▸ hin j hj h0)
      · simp only [h0, h1, if_false] at e
        have := nd_inj (show ([q91, q86, q81, q76, q71, q66, q61, q56, q51, q46, q41, q36, q31, q26, q21, q16, q11, q6, q1] : List Nat).Nodup from j2) (mpos_lt j (mok_lt hj) hj h0) (mpos_lt k (mok_lt hk) hk h1) e
        exact mpos_inj j (mok_lt hj) k (mok_lt hk) hj hk h0 h1 this
  · intro k hk
    rcases key k hk with rfl | rfl | rfl | rfl | rfl | rfl | rfl | rfl | rfl | rfl | rfl | rfl | rfl | rfl | rfl | rfl | rfl | rfl | rfl | rfl
    · exact h95
    · exact j1 _ (List.mem_of_getElem? (i := 18) rfl)
    · exact j1 _ (List.mem_of_getElem? (i := 17) rfl)
    · exact j1 _ (List.mem_of_getElem? (i := 16) rfl)
    · exact j1 _ (List.mem_of_getElem? (i := 15) rfl)
    · exact j1 _ (List.mem_of_getElem? (i := 14) rfl)
    · exact j1 _ (List.mem_of_getElem? (i := 13) rfl)
    · exact j1 _ (List.mem_of_getElem? (i := 12) rfl)
    · exact j1 _ (List.mem_of_getElem? (i := 11) rfl)
    · exact j1 _ (List.mem_of_getElem? (i := 10) rfl)
    · exact j1 _ (List.mem_of_getElem? (i := 9) rfl)
    · exact j1 _ (List.mem_of_getElem? (i := 8) rfl)
    · exact j1 _ (List.mem_of_getElem? (i := 7) rfl)
    · exact j1 _ (List.mem_of_getElem? (i := 6) rfl)
    · exact j1 _ (List.mem_of_getElem? (i := 5) rfl)
    · exact j1 _ (List.mem_of_getElem? (i := 4) rfl)
    · exact j1 _ (List.mem_of_getElem? (i := 3) rfl)
    · exact j1 _ (List.mem_of_getElem? (i := 2) rfl)
    · exact j1 _ (List.mem_of_getElem? (i := 1) rfl)
    · exact j1 _ (List.mem_of_getElem? (i := 0) rfl)
end M6
