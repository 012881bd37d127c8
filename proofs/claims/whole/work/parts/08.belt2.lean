/-! Belt: layStages, tell, the constructor. -/
def gearM (run gb : Int32) (k : Nat) : Int32 := if run = 0 then gb - nI k - 1 else gb + nI k + 1
def gearF (run gb : Int32) (k : Nat) : Int32 := if 0 < (if gearM run gb k < 8 then gearM run gb k else 8) then (if gearM run gb k < 8 then gearM run gb k else 8) else 0
def paceF (spd : Int64) (q : Int32) : Int64 := spd * q.toInt64 / 8
def wayS (wat spd : Int64) (run gb : Int32) : Nat → Int64
  | 0 => wat
  | k + 1 => wayS wat spd run gb k + paceF spd (gearF run gb k) * 20
def Laid (dA : Nat → ClassId) (ag ap aw : Nat) (spd : Int64) (run gb : Int32) (wat : Int64) (n : Nat) (g g' : Nat → Option va_E) : Prop :=
  ∃ (fg : Nat → Int32) (fp fw : Nat → Int64), g' ag = some (intE dA 8 fg) ∧ g' ap = some (lonE dA 8 fp) ∧ g' aw = some (lonE dA 8 fw) ∧ (∀ j, j < n → fg j = gearF run gb j ∧ fp j = paceF spd (gearF run gb j) ∧ fw j = wayS wat spd run gb j) ∧ ∀ q, q ≠ ag → q ≠ ap → q ≠ aw → g' q = g q
theorem laid_step {run gb : Int32} {spd wat : Int64} {fg : Nat → Int32} {fp fw : Nat → Int64} {k : Nat} {x1 : Int32} {x2 x3 : Int64} (h : ∀ j, j < k → fg j = gearF run gb j ∧ fp j = paceF spd (gearF run gb j) ∧ fw j = wayS wat spd run gb j) (h1 : x1 = gearF run gb k) (h2 : x2 = paceF spd (gearF run gb k)) (h3 : x3 = wayS wat spd run gb k) : ∀ j, j < k + 1 → upd fg k x1 j = gearF run gb j ∧ vp_updL fp k x2 j = paceF spd (gearF run gb j) ∧ vp_updL fw k x3 j = wayS wat spd run gb j := by
  intro j hj
  by_cases hk : j = k
  · subst hk
    rw [pk_us, pk_uLs, pk_uLs]
    exact ⟨h1, h2, h3⟩
  · rw [pk_un hk, pk_uLn hk, pk_uLn hk]
    exact h j (by omega)
section BELT2
variable {num : Int32} {len spd sen : Int64} {onto : Option Nat} {run tel : Int32} {told : Int64} {gb : Int32} {wat : Int64} {ag ap aw a : Nat} {fg : Nat → Int32} {fp fw : Nat → Int64}
set_option maxHeartbeats 4000000 in
set_option maxRecDepth 100000 in
theorem c_B_layStages {l : Launch} {D : va_G} {dA : Nat → ClassId} {g : Nat → Option va_E}  (hB : g a = some (beltE num len spd sen onto run tel told gb wat ag ap aw)) (hG : g ag = some (intE dA 8 fg)) (hP : g ap = some (lonE dA 8 fp)) (hW : g aw = some (lonE dA 8 fw)) (hpw : ap ≠ aw) : CtV l D classes (tyL dA) y_B_layStages b_B_layStages 5 none rm_B_layStages [.ref a] g (fun g' => Laid dA ag ap aw spd run gb wat 8 g g') := by
  refine CtV.of (by decide) (Nat.le_of_ble_eq_true rfl) ?_
  intro p e s m below meth c X hr hlk hnm
  have loop : ∀ (n k : Nat) (g1 : Nat → Option va_E) (fg : Nat → Int32) (fp fw : Nat → Int64), k + n = 8 → g1 a = some (beltE num len spd sen onto run tel told gb wat ag ap aw) → g1 ag = some (intE dA 8 fg) → g1 ap = some (lonE dA 8 fp) → g1 aw = some (lonE dA 8 fw) → (∀ j, j < k → fg j = gearF run gb j ∧ fp j = paceF spd (gearF run gb j) ∧ fw j = wayS wat spd run gb j) → (∀ q, q ≠ ag → q ≠ ap → q ≠ aw → g1 q = g q) → Go p l e rm_B_layStages s m [.ref a].toArray below meth c D classes (gA g s.heap.size) 5 (MQ below (va_Qv (fun g' => Laid dA ag ap aw spd run gb wat 8 g g') (fun (g' : Nat → Option va_E) (t : State) => PW D classes (gA g s.heap.size) g' t.heap) (gA g s.heap.size)) [.ref a].toArray s 0 0 (gA g s.heap.size)) g1 0 0 7 [(3, .int ((nI k))), (0, .ref a), (1, .long ((wayS wat spd run gb k)))] [] := by
    intro n
    induction n with
    | zero =>
      intro k g1 fg fp fw hk hB hG hP hW hI hF
      have hk8 : k = 8 := by omega
      subst hk8
      refine go_iload_n X (z := 0) d_B_layStages_7 rfl rfl ?_
      refine go_bipush X (v := 8) d_B_layStages_8 (by decide) ?_
      refine go_icmp_ge X (tgt := 106) d_B_layStages_10 rfl (fun _ => ?_) (fun h => absurd (by decide) h)
      exact go_retV X hr hlk d_B_layStages_106 ⟨fg, fp, fw, hG, hP, hW, hI, hF⟩
    | succ n ih =>
      intro k g1 fg fp fw hk hB hG hP hW hI hF
      have hk31 : (nI k).toNatClampNeg = k := nI_clamp (by omega)
      refine go_iload_n X (z := 0) d_B_layStages_7 rfl rfl ?_
      refine go_bipush X (v := 8) d_B_layStages_8 (by decide) ?_
      refine go_icmp_ge X (tgt := 106) d_B_layStages_10 rfl (fun h => absurd h (nI_ge (a := k) (b := 8) (by omega) (by decide))) (fun _ => ?_)
      refine go_aload_n X (z := 1) d_B_layStages_13 rfl rfl ?_
      refine go_get X u_B rfl 5 (by decide) gm_fl_B_15 rfl d_B_layStages_14 hB rfl ?_
      refine go_if_eq X (tgt := 31) d_B_layStages_17 rfl (fun c1 => ?_) (fun c1 => ?_)
      · refine go_aload_n X (z := 1) d_B_layStages_31 rfl rfl ?_
        refine go_get X u_B rfl 8 (by decide) gm_fl_B_27 rfl d_B_layStages_32 hB rfl ?_
        refine go_iload_n X (z := 0) d_B_layStages_35 rfl rfl ?_
        refine go_isub X d_B_layStages_36 ?_
        refine go_iconst X (v := 1) d_B_layStages_37 (by decide) ?_
        refine go_isub X d_B_layStages_38 ?_
        refine go_topi (fun x2 ex2 => ?_)
        refine go_istore X (lv' := [(4, .int x2), (3, .int ((nI k))), (0, .ref a), (1, .long ((wayS wat spd run gb k)))]) d_B_layStages_39 (by decide) rfl ?_
        refine go_aload_n X (z := 2) d_B_layStages_41 rfl rfl ?_
        refine go_get X u_B rfl 10 (by decide) gm_fl_B_33 rfl d_B_layStages_42 hB rfl ?_
        refine go_iload_n X (z := 1) d_B_layStages_45 rfl rfl ?_
        refine go_iconst X (v := 0) d_B_layStages_46 (by decide) ?_
        refine go_bipush X (v := 8) d_B_layStages_47 (by decide) ?_
        refine go_iload X (z := 0) d_B_layStages_49 rfl ?_
        refine go_mmin X gm_ml_B_69 gm_st_min gm_ini_J gm_code_min d_B_layStages_51 (by decide) (Nat.le_of_ble_eq_true rfl) (by decide) (by decide) ?_
        refine go_mmax X gm_ml_B_75 gm_st_max gm_ini_J gm_code_max d_B_layStages_54 (by decide) (Nat.le_of_ble_eq_true rfl) (by decide) (by decide) ?_
        refine go_topi (fun x3 ex3 => ?_)
        refine go_iast X 0 rfl d_B_layStages_57 hG (vp_in_nI (by omega) (by decide)) ?_
        refine go_gen (fun g4 eg4 => ?_)
        have eg4 : g4 = va_up g1 ag (some (.inl (dA 0, 8, .inl (upd fg k x3)))) := by rw [eg4, hk31]
        have h5 : g4 a = some (.inr (0, [.int num, .long len, .long spd, .long sen, va_rf onto, .int run, .int tel, .long told, .int gb, .long wat, .ref ag, .ref ap, .ref aw])) := by rw [eg4, va_up_ne _ _ (ne_kind1 hB hG)]; exact hB
        have h6 : g4 ap = some (.inl (dA 1, 8, .inr (.inl fp))) := by rw [eg4, va_up_ne _ _ (ne_arr10 hP hG)]; exact hP
        have h7 : g4 aw = some (.inl (dA 1, 8, .inr (.inl fw))) := by rw [eg4, va_up_ne _ _ (ne_arr10 hW hG)]; exact hW
        have h8 : g4 ag = some (.inl (dA 0, 8, .inl (upd fg k x3))) := by rw [eg4]; exact va_up_self _ _ _
        refine go_aload_n X (z := 2) d_B_layStages_58 rfl rfl ?_
        refine go_get X u_B rfl 11 (by decide) gm_fl_B_37 rfl d_B_layStages_59 h5 rfl ?_
        refine go_iload_n X (z := 1) d_B_layStages_62 rfl rfl ?_
        refine go_aload_n X (z := 2) d_B_layStages_63 rfl rfl ?_
        refine go_get X u_B rfl 2 (by decide) gm_fl_B_50 rfl d_B_layStages_64 h5 rfl ?_
        refine go_aload_n X (z := 2) d_B_layStages_67 rfl rfl ?_
        refine go_get X u_B rfl 10 (by decide) gm_fl_B_33 rfl d_B_layStages_68 h5 rfl ?_
        refine go_iload_n X (z := 1) d_B_layStages_71 rfl rfl ?_
        refine go_iald X 0 rfl d_B_layStages_72 h8 (vp_in_nI (by omega) (by decide)) ?_
        rw [hk31]
        rw [pk_us]
        refine go_i2l X d_B_layStages_73 rfl ?_
        refine go_lmul X d_B_layStages_74 ?_
        refine go_ldc2 X d_B_layStages_75 gm_k_B_78 ?_
        refine go_ldiv X d_B_layStages_78 (by decide) ?_
        refine go_topl (fun x9 ex9 => ?_)
        refine go_last X 1 rfl d_B_layStages_79 h6 (vp_in_nI (by omega) (by decide)) ?_
        refine go_gen (fun g10 eg10 => ?_)
        have eg10 : g10 = va_up g4 ap (some (.inl (dA 1, 8, .inr (.inl (vp_updL fp k x9))))) := by rw [eg10, hk31]
        have h11 : g10 a = some (.inr (0, [.int num, .long len, .long spd, .long sen, va_rf onto, .int run, .int tel, .long told, .int gb, .long wat, .ref ag, .ref ap, .ref aw])) := by rw [eg10, va_up_ne _ _ (ne_kind1 h5 h6)]; exact h5
        have h12 : g10 ag = some (.inl (dA 0, 8, .inl (upd fg k x3))) := by rw [eg10, va_up_ne _ _ (ne_arr01 h8 h6)]; exact h8
        have h13 : g10 aw = some (.inl (dA 1, 8, .inr (.inl fw))) := by rw [eg10, va_up_ne _ _ (Ne.symm hpw)]; exact h7
        have h14 : g10 ap = some (.inl (dA 1, 8, .inr (.inl (vp_updL fp k x9)))) := by rw [eg10]; exact va_up_self _ _ _
        refine go_aload_n X (z := 2) d_B_layStages_80 rfl rfl ?_
        refine go_get X u_B rfl 12 (by decide) gm_fl_B_41 rfl d_B_layStages_81 h11 rfl ?_
        refine go_iload_n X (z := 1) d_B_layStages_84 rfl rfl ?_
        refine go_lload_n X (z := 3) d_B_layStages_85 rfl rfl ?_
        refine go_topl (fun x15 ex15 => ?_)
        refine go_last X 1 rfl d_B_layStages_86 h13 (vp_in_nI (by omega) (by decide)) ?_
        refine go_gen (fun g16 eg16 => ?_)
        have eg16 : g16 = va_up g10 aw (some (.inl (dA 1, 8, .inr (.inl (vp_updL fw k x15))))) := by rw [eg16, hk31]
        have h17 : g16 a = some (.inr (0, [.int num, .long len, .long spd, .long sen, va_rf onto, .int run, .int tel, .long told, .int gb, .long wat, .ref ag, .ref ap, .ref aw])) := by rw [eg16, va_up_ne _ _ (ne_kind1 h11 h13)]; exact h11
        have h18 : g16 ag = some (.inl (dA 0, 8, .inl (upd fg k x3))) := by rw [eg16, va_up_ne _ _ (ne_arr01 h12 h13)]; exact h12
        have h19 : g16 ap = some (.inl (dA 1, 8, .inr (.inl (vp_updL fp k x9)))) := by rw [eg16, va_up_ne _ _ hpw]; exact h14
        have h20 : g16 aw = some (.inl (dA 1, 8, .inr (.inl (vp_updL fw k x15)))) := by rw [eg16]; exact va_up_self _ _ _
        refine go_lload_n X (z := 3) d_B_layStages_87 rfl rfl ?_
        refine go_aload_n X (z := 2) d_B_layStages_88 rfl rfl ?_
        refine go_get X u_B rfl 11 (by decide) gm_fl_B_37 rfl d_B_layStages_89 h17 rfl ?_
        refine go_iload_n X (z := 1) d_B_layStages_92 rfl rfl ?_
        refine go_lald X 1 rfl d_B_layStages_93 h19 (vp_in_nI (by omega) (by decide)) ?_
        rw [hk31]
        rw [pk_uLs]
        refine go_ldc2 X d_B_layStages_94 gm_k_B_80 ?_
        refine go_lmul X d_B_layStages_97 ?_
        refine go_ladd X d_B_layStages_98 ?_
        refine go_topl (fun x21 ex21 => ?_)
        refine go_lstore_n X (lv' := [(1, .long x21), (4, .int x2), (3, .int ((nI k))), (0, .ref a)]) d_B_layStages_99 rfl (by decide) rfl ?_
        have q1 : x3 = gearF run gb k := by rw [ex3, ex2]; simp only [gearF, gearM, c1, ↓reduceIte]
        have q2 : x9 = paceF spd (gearF run gb k) := by rw [ex9, q1]; rfl
        have q3 : x21 = wayS wat spd run gb (k + 1) := by rw [ex21, q2]; rfl
        subst q3
        refine go_iinc X (j := 2) (v := nI (k + 1)) d_B_layStages_100 rfl (nI_1 k) (by decide) rfl ?_
        refine go_goto X (tgt := 7) d_B_layStages_103 rfl ?_
        refine go_sub (lv' := [(3, .int (nI (k + 1))), (0, .ref a), (1, .long (wayS wat spd run gb (k + 1)))]) [0, 3, 1] rfl ?_
        exact ih (k + 1) _ _ _ _ (by omega) h17 h18 h19 h20 (laid_step hI q1 q2 ex15) (fun q n1 n2 n3 => by rw [eg16, va_up_ne _ _ n3, eg10, va_up_ne _ _ n2, eg4, va_up_ne _ _ n1]; exact hF q n1 n2 n3)
      · refine go_aload_n X (z := 1) d_B_layStages_20 rfl rfl ?_
        refine go_get X u_B rfl 8 (by decide) gm_fl_B_27 rfl d_B_layStages_21 hB rfl ?_
        refine go_iload_n X (z := 0) d_B_layStages_24 rfl rfl ?_
        refine go_iadd X d_B_layStages_25 ?_
        refine go_iconst X (v := 1) d_B_layStages_26 (by decide) ?_
        refine go_iadd X d_B_layStages_27 ?_
        refine go_goto X (tgt := 39) d_B_layStages_28 rfl ?_
        refine go_topi (fun x22 ex22 => ?_)
        refine go_istore X (lv' := [(4, .int x22), (3, .int ((nI k))), (0, .ref a), (1, .long ((wayS wat spd run gb k)))]) d_B_layStages_39 (by decide) rfl ?_
        refine go_aload_n X (z := 2) d_B_layStages_41 rfl rfl ?_
        refine go_get X u_B rfl 10 (by decide) gm_fl_B_33 rfl d_B_layStages_42 hB rfl ?_
        refine go_iload_n X (z := 1) d_B_layStages_45 rfl rfl ?_
        refine go_iconst X (v := 0) d_B_layStages_46 (by decide) ?_
        refine go_bipush X (v := 8) d_B_layStages_47 (by decide) ?_
        refine go_iload X (z := 0) d_B_layStages_49 rfl ?_
        refine go_mmin X gm_ml_B_69 gm_st_min gm_ini_J gm_code_min d_B_layStages_51 (by decide) (Nat.le_of_ble_eq_true rfl) (by decide) (by decide) ?_
        refine go_mmax X gm_ml_B_75 gm_st_max gm_ini_J gm_code_max d_B_layStages_54 (by decide) (Nat.le_of_ble_eq_true rfl) (by decide) (by decide) ?_
        refine go_topi (fun x23 ex23 => ?_)
        refine go_iast X 0 rfl d_B_layStages_57 hG (vp_in_nI (by omega) (by decide)) ?_
        refine go_gen (fun g24 eg24 => ?_)
        have eg24 : g24 = va_up g1 ag (some (.inl (dA 0, 8, .inl (upd fg k x23)))) := by rw [eg24, hk31]
        have h25 : g24 a = some (.inr (0, [.int num, .long len, .long spd, .long sen, va_rf onto, .int run, .int tel, .long told, .int gb, .long wat, .ref ag, .ref ap, .ref aw])) := by rw [eg24, va_up_ne _ _ (ne_kind1 hB hG)]; exact hB
        have h26 : g24 ap = some (.inl (dA 1, 8, .inr (.inl fp))) := by rw [eg24, va_up_ne _ _ (ne_arr10 hP hG)]; exact hP
        have h27 : g24 aw = some (.inl (dA 1, 8, .inr (.inl fw))) := by rw [eg24, va_up_ne _ _ (ne_arr10 hW hG)]; exact hW
        have h28 : g24 ag = some (.inl (dA 0, 8, .inl (upd fg k x23))) := by rw [eg24]; exact va_up_self _ _ _
        refine go_aload_n X (z := 2) d_B_layStages_58 rfl rfl ?_
        refine go_get X u_B rfl 11 (by decide) gm_fl_B_37 rfl d_B_layStages_59 h25 rfl ?_
        refine go_iload_n X (z := 1) d_B_layStages_62 rfl rfl ?_
        refine go_aload_n X (z := 2) d_B_layStages_63 rfl rfl ?_
        refine go_get X u_B rfl 2 (by decide) gm_fl_B_50 rfl d_B_layStages_64 h25 rfl ?_
        refine go_aload_n X (z := 2) d_B_layStages_67 rfl rfl ?_
        refine go_get X u_B rfl 10 (by decide) gm_fl_B_33 rfl d_B_layStages_68 h25 rfl ?_
        refine go_iload_n X (z := 1) d_B_layStages_71 rfl rfl ?_
        refine go_iald X 0 rfl d_B_layStages_72 h28 (vp_in_nI (by omega) (by decide)) ?_
        rw [hk31]
        rw [pk_us]
        refine go_i2l X d_B_layStages_73 rfl ?_
        refine go_lmul X d_B_layStages_74 ?_
        refine go_ldc2 X d_B_layStages_75 gm_k_B_78 ?_
        refine go_ldiv X d_B_layStages_78 (by decide) ?_
        refine go_topl (fun x29 ex29 => ?_)
        refine go_last X 1 rfl d_B_layStages_79 h26 (vp_in_nI (by omega) (by decide)) ?_
        refine go_gen (fun g30 eg30 => ?_)
        have eg30 : g30 = va_up g24 ap (some (.inl (dA 1, 8, .inr (.inl (vp_updL fp k x29))))) := by rw [eg30, hk31]
        have h31 : g30 a = some (.inr (0, [.int num, .long len, .long spd, .long sen, va_rf onto, .int run, .int tel, .long told, .int gb, .long wat, .ref ag, .ref ap, .ref aw])) := by rw [eg30, va_up_ne _ _ (ne_kind1 h25 h26)]; exact h25
        have h32 : g30 ag = some (.inl (dA 0, 8, .inl (upd fg k x23))) := by rw [eg30, va_up_ne _ _ (ne_arr01 h28 h26)]; exact h28
        have h33 : g30 aw = some (.inl (dA 1, 8, .inr (.inl fw))) := by rw [eg30, va_up_ne _ _ (Ne.symm hpw)]; exact h27
        have h34 : g30 ap = some (.inl (dA 1, 8, .inr (.inl (vp_updL fp k x29)))) := by rw [eg30]; exact va_up_self _ _ _
        refine go_aload_n X (z := 2) d_B_layStages_80 rfl rfl ?_
        refine go_get X u_B rfl 12 (by decide) gm_fl_B_41 rfl d_B_layStages_81 h31 rfl ?_
        refine go_iload_n X (z := 1) d_B_layStages_84 rfl rfl ?_
        refine go_lload_n X (z := 3) d_B_layStages_85 rfl rfl ?_
        refine go_topl (fun x35 ex35 => ?_)
        refine go_last X 1 rfl d_B_layStages_86 h33 (vp_in_nI (by omega) (by decide)) ?_
        refine go_gen (fun g36 eg36 => ?_)
        have eg36 : g36 = va_up g30 aw (some (.inl (dA 1, 8, .inr (.inl (vp_updL fw k x35))))) := by rw [eg36, hk31]
        have h37 : g36 a = some (.inr (0, [.int num, .long len, .long spd, .long sen, va_rf onto, .int run, .int tel, .long told, .int gb, .long wat, .ref ag, .ref ap, .ref aw])) := by rw [eg36, va_up_ne _ _ (ne_kind1 h31 h33)]; exact h31
        have h38 : g36 ag = some (.inl (dA 0, 8, .inl (upd fg k x23))) := by rw [eg36, va_up_ne _ _ (ne_arr01 h32 h33)]; exact h32
        have h39 : g36 ap = some (.inl (dA 1, 8, .inr (.inl (vp_updL fp k x29)))) := by rw [eg36, va_up_ne _ _ hpw]; exact h34
        have h40 : g36 aw = some (.inl (dA 1, 8, .inr (.inl (vp_updL fw k x35)))) := by rw [eg36]; exact va_up_self _ _ _
        refine go_lload_n X (z := 3) d_B_layStages_87 rfl rfl ?_
        refine go_aload_n X (z := 2) d_B_layStages_88 rfl rfl ?_
        refine go_get X u_B rfl 11 (by decide) gm_fl_B_37 rfl d_B_layStages_89 h37 rfl ?_
        refine go_iload_n X (z := 1) d_B_layStages_92 rfl rfl ?_
        refine go_lald X 1 rfl d_B_layStages_93 h39 (vp_in_nI (by omega) (by decide)) ?_
        rw [hk31]
        rw [pk_uLs]
        refine go_ldc2 X d_B_layStages_94 gm_k_B_80 ?_
        refine go_lmul X d_B_layStages_97 ?_
        refine go_ladd X d_B_layStages_98 ?_
        refine go_topl (fun x41 ex41 => ?_)
        refine go_lstore_n X (lv' := [(1, .long x41), (4, .int x22), (3, .int ((nI k))), (0, .ref a)]) d_B_layStages_99 rfl (by decide) rfl ?_
        have q1 : x23 = gearF run gb k := by rw [ex23, ex22]; simp only [gearF, gearM, c1, ↓reduceIte]
        have q2 : x29 = paceF spd (gearF run gb k) := by rw [ex29, q1]; rfl
        have q3 : x41 = wayS wat spd run gb (k + 1) := by rw [ex41, q2]; rfl
        subst q3
        refine go_iinc X (j := 2) (v := nI (k + 1)) d_B_layStages_100 rfl (nI_1 k) (by decide) rfl ?_
        refine go_goto X (tgt := 7) d_B_layStages_103 rfl ?_
        refine go_sub (lv' := [(3, .int (nI (k + 1))), (0, .ref a), (1, .long (wayS wat spd run gb (k + 1)))]) [0, 3, 1] rfl ?_
        exact ih (k + 1) _ _ _ _ (by omega) h37 h38 h39 h40 (laid_step hI q1 q2 ex35) (fun q n1 n2 n3 => by rw [eg36, va_up_ne _ _ n3, eg30, va_up_ne _ _ n2, eg24, va_up_ne _ _ n1]; exact hF q n1 n2 n3)
  refine go_aload_n X (z := 0) d_B_layStages_0 rfl rfl ?_
  refine go_get X u_B rfl 9 (by decide) gm_fl_B_30 rfl d_B_layStages_1 hB rfl ?_
  refine go_lstore_n X (lv' := [(1, .long wat), (0, .ref a)]) d_B_layStages_4 rfl (by decide) rfl ?_
  refine go_iconst X (v := 0) d_B_layStages_5 (by decide) ?_
  refine go_istore_n X (lv' := [(3, .int 0), (1, .long wat), (0, .ref a)]) d_B_layStages_6 rfl (by decide) rfl ?_
  refine go_sub (lv' := [(3, .int (nI 0)), (0, .ref a), (1, .long (wayS wat spd run gb 0))]) [0, 2, 1] rfl ?_
  exact loop 8 0 g fg fp fw rfl hB hG hP hW (fun j h => absurd h (Nat.not_lt_zero j)) (fun _ _ _ _ => rfl)
set_option maxHeartbeats 4000000 in
set_option maxRecDepth 100000 in
theorem c_B_tell {l : Launch} {D : va_G} {dA : Nat → ClassId} {g : Nat → Option va_E}  (hB : g a = some (beltE num len spd sen onto run tel told gb wat ag ap aw)) (hG : g ag = some (intE dA 8 fg)) (hP : g ap = some (lonE dA 8 fp)) (hW : g aw = some (lonE dA 8 fw)) (hpw : ap ≠ aw) {on : Int32} {t : Int64} (hon : narrow .boolean (.int on) = .int on) (hof : fits .boolean (.int on) = true) : CtV l D classes (tyL dA) y_B_tell b_B_tell 4 none rm_B_tell [.ref a, .int on, .long t] g (fun g' => ∃ g1 : Nat → Option va_E, g1 = va_up g a (some (beltE num len spd sen onto on (tel + 1) t (if t ≤ told then gb else fg (stageF told (t - 1)).toNatClampNeg) (wayF told fp fw t) ag ap aw)) ∧ Laid dA ag ap aw spd on (if t ≤ told then gb else fg (stageF told (t - 1)).toNatClampNeg) (wayF told fp fw t) 8 g1 g') := by
  refine CtV.of (by decide) (Nat.le_of_ble_eq_true rfl) ?_
  intro p e s m below meth c X hr hlk hnm
  refine go_aload_n X (z := 0) d_B_tell_0 rfl rfl ?_
  refine go_aload_n X (z := 0) d_B_tell_1 rfl rfl ?_
  refine go_lload_n X (z := 2) d_B_tell_2 rfl rfl ?_
  refine go_callL_V X (As := [.long t]) (rest := [.ref a]) (c_B_wayAt hB hP hW t) gm_ml_B_58 cw_B_wayAt ⟨by decide, by decide⟩ rfl hB rfl rfl (Nat.le_of_ble_eq_true rfl) d_B_tell_3 ⟨by decide, by decide⟩ (fun r1 gq hp => ?_)
  obtain ⟨rfl, rfl⟩ := hp
  refine go_topl (fun x1 ex1 => ?_)
  refine go_put X u_B rfl 9 (by decide) gm_fl_B_30 rfl t_B t_B_ok n_B rfl rfl rfl d_B_tell_6 hB (Nat.le_of_ble_eq_true rfl) ?_
  refine go_gen (fun g2 eg2 => ?_)
  have eg2 : g2 = va_up g a (some (.inr (0, [.int num, .long len, .long spd, .long sen, va_rf onto, .int run, .int tel, .long told, .int gb, .long x1, .ref ag, .ref ap, .ref aw]))) := eg2
  have h3 : g2 ag = some (.inl (dA 0, 8, .inl fg)) := by rw [eg2, va_up_ne _ _ (ne_kind2 hG hB)]; exact hG
  have h4 : g2 ap = some (.inl (dA 1, 8, .inr (.inl fp))) := by rw [eg2, va_up_ne _ _ (ne_kind2 hP hB)]; exact hP
  have h5 : g2 aw = some (.inl (dA 1, 8, .inr (.inl fw))) := by rw [eg2, va_up_ne _ _ (ne_kind2 hW hB)]; exact hW
  have h6 : g2 a = some (.inr (0, [.int num, .long len, .long spd, .long sen, va_rf onto, .int run, .int tel, .long told, .int gb, .long x1, .ref ag, .ref ap, .ref aw])) := by rw [eg2]; exact va_up_self _ _ _
  refine go_lload_n X (z := 2) d_B_tell_9 rfl rfl ?_
  refine go_aload_n X (z := 0) d_B_tell_10 rfl rfl ?_
  refine go_get X u_B rfl 7 (by decide) gm_fl_B_23 rfl d_B_tell_11 h6 rfl ?_
  refine go_lif_le X (tgt := 29) d_B_tell_14 d_B_tell_15 rfl (fun c7 => ?_) (fun c7 => ?_)
  · refine go_aload_n X (z := 0) d_B_tell_29 rfl rfl ?_
    refine go_lload_n X (z := 2) d_B_tell_30 rfl rfl ?_
    refine go_put X u_B rfl 7 (by decide) gm_fl_B_23 rfl t_B t_B_ok n_B rfl rfl rfl d_B_tell_31 h6 (Nat.le_of_ble_eq_true rfl) ?_
    refine go_gen (fun g8 eg8 => ?_)
    have eg8 : g8 = va_up g2 a (some (.inr (0, [.int num, .long len, .long spd, .long sen, va_rf onto, .int run, .int tel, .long t, .int gb, .long x1, .ref ag, .ref ap, .ref aw]))) := eg8
    have h9 : g8 ag = some (.inl (dA 0, 8, .inl fg)) := by rw [eg8, va_up_ne _ _ (ne_kind2 h3 h6)]; exact h3
    have h10 : g8 ap = some (.inl (dA 1, 8, .inr (.inl fp))) := by rw [eg8, va_up_ne _ _ (ne_kind2 h4 h6)]; exact h4
    have h11 : g8 aw = some (.inl (dA 1, 8, .inr (.inl fw))) := by rw [eg8, va_up_ne _ _ (ne_kind2 h5 h6)]; exact h5
    have h12 : g8 a = some (.inr (0, [.int num, .long len, .long spd, .long sen, va_rf onto, .int run, .int tel, .long t, .int gb, .long x1, .ref ag, .ref ap, .ref aw])) := by rw [eg8]; exact va_up_self _ _ _
    refine go_aload_n X (z := 0) d_B_tell_34 rfl rfl ?_
    refine go_iload_n X (z := 1) d_B_tell_35 rfl rfl ?_
    refine go_put X u_B rfl 5 (by decide) gm_fl_B_15 rfl t_B t_B_ok n_B rfl hon hof d_B_tell_36 h12 (Nat.le_of_ble_eq_true rfl) ?_
    refine go_gen (fun g13 eg13 => ?_)
    have eg13 : g13 = va_up g8 a (some (.inr (0, [.int num, .long len, .long spd, .long sen, va_rf onto, .int on, .int tel, .long t, .int gb, .long x1, .ref ag, .ref ap, .ref aw]))) := eg13
    have h14 : g13 ag = some (.inl (dA 0, 8, .inl fg)) := by rw [eg13, va_up_ne _ _ (ne_kind2 h9 h12)]; exact h9
    have h15 : g13 ap = some (.inl (dA 1, 8, .inr (.inl fp))) := by rw [eg13, va_up_ne _ _ (ne_kind2 h10 h12)]; exact h10
    have h16 : g13 aw = some (.inl (dA 1, 8, .inr (.inl fw))) := by rw [eg13, va_up_ne _ _ (ne_kind2 h11 h12)]; exact h11
    have h17 : g13 a = some (.inr (0, [.int num, .long len, .long spd, .long sen, va_rf onto, .int on, .int tel, .long t, .int gb, .long x1, .ref ag, .ref ap, .ref aw])) := by rw [eg13]; exact va_up_self _ _ _
    refine go_aload_n X (z := 0) d_B_tell_39 rfl rfl ?_
    refine go_dup X d_B_tell_40 rfl ?_
    refine go_get X u_B rfl 6 (by decide) gm_fl_B_19 rfl d_B_tell_41 h17 rfl ?_
    refine go_iconst X (v := 1) d_B_tell_44 (by decide) ?_
    refine go_iadd X d_B_tell_45 ?_
    refine go_topi (fun x18 ex18 => ?_)
    refine go_put X u_B rfl 6 (by decide) gm_fl_B_19 rfl t_B t_B_ok n_B rfl rfl rfl d_B_tell_46 h17 (Nat.le_of_ble_eq_true rfl) ?_
    refine go_gen (fun g19 eg19 => ?_)
    have eg19 : g19 = va_up g13 a (some (.inr (0, [.int num, .long len, .long spd, .long sen, va_rf onto, .int on, .int x18, .long t, .int gb, .long x1, .ref ag, .ref ap, .ref aw]))) := eg19
    have h20 : g19 ag = some (.inl (dA 0, 8, .inl fg)) := by rw [eg19, va_up_ne _ _ (ne_kind2 h14 h17)]; exact h14
    have h21 : g19 ap = some (.inl (dA 1, 8, .inr (.inl fp))) := by rw [eg19, va_up_ne _ _ (ne_kind2 h15 h17)]; exact h15
    have h22 : g19 aw = some (.inl (dA 1, 8, .inr (.inl fw))) := by rw [eg19, va_up_ne _ _ (ne_kind2 h16 h17)]; exact h16
    have h23 : g19 a = some (.inr (0, [.int num, .long len, .long spd, .long sen, va_rf onto, .int on, .int x18, .long t, .int gb, .long x1, .ref ag, .ref ap, .ref aw])) := by rw [eg19]; exact va_up_self _ _ _
    refine go_aload_n X (z := 0) d_B_tell_49 rfl rfl ?_
    refine go_callV_V X (As := []) (rest := []) (c_B_layStages h23 h20 h21 h22 hpw) gm_ml_B_66 cw_B_layStages ⟨by decide, by decide⟩ rfl h23 rfl rfl (Nat.le_of_ble_eq_true rfl) d_B_tell_50 ⟨by decide, by decide⟩ (fun gz hz => ?_)
    exact go_retV X hr hlk d_B_tell_53 ⟨g19, by rw [eg19, eg13, eg8, eg2, bx_uu, bx_uu, bx_uu, if_pos c7]; subst_vars; rfl, by rw [if_pos c7]; subst_vars; exact hz⟩
  · refine go_aload_n X (z := 0) d_B_tell_18 rfl rfl ?_
    refine go_aload_n X (z := 0) d_B_tell_19 rfl rfl ?_
    refine go_lload_n X (z := 2) d_B_tell_20 rfl rfl ?_
    refine go_lconst X (v := 1) d_B_tell_21 (by decide) ?_
    refine go_lsub X d_B_tell_22 ?_
    refine go_callI_V X (As := [.long (t - 1)]) (rest := [.ref a]) (c_B_gearAt h6 h3 (t - 1)) gm_ml_B_62 cw_B_gearAt ⟨by decide, by decide⟩ rfl h6 rfl rfl (Nat.le_of_ble_eq_true rfl) d_B_tell_23 ⟨by decide, by decide⟩ (fun r2 gq2 hp2 => ?_)
    obtain ⟨rfl, rfl⟩ := hp2
    refine go_topi (fun x24 ex24 => ?_)
    refine go_put X u_B rfl 8 (by decide) gm_fl_B_27 rfl t_B t_B_ok n_B rfl rfl rfl d_B_tell_26 h6 (Nat.le_of_ble_eq_true rfl) ?_
    refine go_gen (fun g25 eg25 => ?_)
    have eg25 : g25 = va_up g2 a (some (.inr (0, [.int num, .long len, .long spd, .long sen, va_rf onto, .int run, .int tel, .long told, .int x24, .long x1, .ref ag, .ref ap, .ref aw]))) := eg25
    have h26 : g25 ag = some (.inl (dA 0, 8, .inl fg)) := by rw [eg25, va_up_ne _ _ (ne_kind2 h3 h6)]; exact h3
    have h27 : g25 ap = some (.inl (dA 1, 8, .inr (.inl fp))) := by rw [eg25, va_up_ne _ _ (ne_kind2 h4 h6)]; exact h4
    have h28 : g25 aw = some (.inl (dA 1, 8, .inr (.inl fw))) := by rw [eg25, va_up_ne _ _ (ne_kind2 h5 h6)]; exact h5
    have h29 : g25 a = some (.inr (0, [.int num, .long len, .long spd, .long sen, va_rf onto, .int run, .int tel, .long told, .int x24, .long x1, .ref ag, .ref ap, .ref aw])) := by rw [eg25]; exact va_up_self _ _ _
    refine go_aload_n X (z := 0) d_B_tell_29 rfl rfl ?_
    refine go_lload_n X (z := 2) d_B_tell_30 rfl rfl ?_
    refine go_put X u_B rfl 7 (by decide) gm_fl_B_23 rfl t_B t_B_ok n_B rfl rfl rfl d_B_tell_31 h29 (Nat.le_of_ble_eq_true rfl) ?_
    refine go_gen (fun g30 eg30 => ?_)
    have eg30 : g30 = va_up g25 a (some (.inr (0, [.int num, .long len, .long spd, .long sen, va_rf onto, .int run, .int tel, .long t, .int x24, .long x1, .ref ag, .ref ap, .ref aw]))) := eg30
    have h31 : g30 ag = some (.inl (dA 0, 8, .inl fg)) := by rw [eg30, va_up_ne _ _ (ne_kind2 h26 h29)]; exact h26
    have h32 : g30 ap = some (.inl (dA 1, 8, .inr (.inl fp))) := by rw [eg30, va_up_ne _ _ (ne_kind2 h27 h29)]; exact h27
    have h33 : g30 aw = some (.inl (dA 1, 8, .inr (.inl fw))) := by rw [eg30, va_up_ne _ _ (ne_kind2 h28 h29)]; exact h28
    have h34 : g30 a = some (.inr (0, [.int num, .long len, .long spd, .long sen, va_rf onto, .int run, .int tel, .long t, .int x24, .long x1, .ref ag, .ref ap, .ref aw])) := by rw [eg30]; exact va_up_self _ _ _
    refine go_aload_n X (z := 0) d_B_tell_34 rfl rfl ?_
    refine go_iload_n X (z := 1) d_B_tell_35 rfl rfl ?_
    refine go_put X u_B rfl 5 (by decide) gm_fl_B_15 rfl t_B t_B_ok n_B rfl hon hof d_B_tell_36 h34 (Nat.le_of_ble_eq_true rfl) ?_
    refine go_gen (fun g35 eg35 => ?_)
    have eg35 : g35 = va_up g30 a (some (.inr (0, [.int num, .long len, .long spd, .long sen, va_rf onto, .int on, .int tel, .long t, .int x24, .long x1, .ref ag, .ref ap, .ref aw]))) := eg35
    have h36 : g35 ag = some (.inl (dA 0, 8, .inl fg)) := by rw [eg35, va_up_ne _ _ (ne_kind2 h31 h34)]; exact h31
    have h37 : g35 ap = some (.inl (dA 1, 8, .inr (.inl fp))) := by rw [eg35, va_up_ne _ _ (ne_kind2 h32 h34)]; exact h32
    have h38 : g35 aw = some (.inl (dA 1, 8, .inr (.inl fw))) := by rw [eg35, va_up_ne _ _ (ne_kind2 h33 h34)]; exact h33
    have h39 : g35 a = some (.inr (0, [.int num, .long len, .long spd, .long sen, va_rf onto, .int on, .int tel, .long t, .int x24, .long x1, .ref ag, .ref ap, .ref aw])) := by rw [eg35]; exact va_up_self _ _ _
    refine go_aload_n X (z := 0) d_B_tell_39 rfl rfl ?_
    refine go_dup X d_B_tell_40 rfl ?_
    refine go_get X u_B rfl 6 (by decide) gm_fl_B_19 rfl d_B_tell_41 h39 rfl ?_
    refine go_iconst X (v := 1) d_B_tell_44 (by decide) ?_
    refine go_iadd X d_B_tell_45 ?_
    refine go_topi (fun x40 ex40 => ?_)
    refine go_put X u_B rfl 6 (by decide) gm_fl_B_19 rfl t_B t_B_ok n_B rfl rfl rfl d_B_tell_46 h39 (Nat.le_of_ble_eq_true rfl) ?_
    refine go_gen (fun g41 eg41 => ?_)
    have eg41 : g41 = va_up g35 a (some (.inr (0, [.int num, .long len, .long spd, .long sen, va_rf onto, .int on, .int x40, .long t, .int x24, .long x1, .ref ag, .ref ap, .ref aw]))) := eg41
    have h42 : g41 ag = some (.inl (dA 0, 8, .inl fg)) := by rw [eg41, va_up_ne _ _ (ne_kind2 h36 h39)]; exact h36
    have h43 : g41 ap = some (.inl (dA 1, 8, .inr (.inl fp))) := by rw [eg41, va_up_ne _ _ (ne_kind2 h37 h39)]; exact h37
    have h44 : g41 aw = some (.inl (dA 1, 8, .inr (.inl fw))) := by rw [eg41, va_up_ne _ _ (ne_kind2 h38 h39)]; exact h38
    have h45 : g41 a = some (.inr (0, [.int num, .long len, .long spd, .long sen, va_rf onto, .int on, .int x40, .long t, .int x24, .long x1, .ref ag, .ref ap, .ref aw])) := by rw [eg41]; exact va_up_self _ _ _
    refine go_aload_n X (z := 0) d_B_tell_49 rfl rfl ?_
    refine go_callV_V X (As := []) (rest := []) (c_B_layStages h45 h42 h43 h44 hpw) gm_ml_B_66 cw_B_layStages ⟨by decide, by decide⟩ rfl h45 rfl rfl (Nat.le_of_ble_eq_true rfl) d_B_tell_50 ⟨by decide, by decide⟩ (fun gz hz => ?_)
    exact go_retV X hr hlk d_B_tell_53 ⟨g41, by rw [eg41, eg35, eg30, eg25, eg2, bx_uu, bx_uu, bx_uu, bx_uu, if_neg c7]; subst_vars; rfl, by rw [if_neg c7]; subst_vars; exact hz⟩
end BELT2
